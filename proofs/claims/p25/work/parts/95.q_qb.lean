section
/-! a whole text: the places behind its words -/
def nxL (B : Int → Int) (n p : Int) : Int := (law1 B n p 0 0 0 0).2
def txP (B : Int → Int) (n w : Int) : Nat → Int → Int → Int
  | 0, _, x => x
  | k + 1, p, x => if tK B n p = 256 then x else txP B n w k (nxL B n p) (if tK B n p = w then tX B n p else x)
def rdP (B : Int → Int) (n : Int) : Nat → Int → Int → Int → Int
  | 0, _, _, _ => 0
  | k + 1, p, r, j => if tK B n p = 256 then 0 else if tK B n p = 260 ∧ r = j then tX B n p else rdP B n k (nxL B n p) (if tK B n p = 260 then r + 1 else r) j
def exL (B : Int → Int) (n p : Int) : List (Int × Int) := if p = -1 then [(7, 0), (1, 0), (9, 0), (0, 0), (6, 100)] else (exF B n 702 p 0 [] []).2.2
def kyOk (B : Int → Int) (n p : Int) (kk kd : Int → Int) (m : Int) : Prop := (p = -1 → m = 1 ∧ kk 0 = 0 ∧ kd 0 = 1) ∧ (p ≠ -1 → m = kyN B n 4 p ∧ kyC B n p kk kd m)
def tiV (B : Int → Int) (n p : Int) : Int := if p = -1 then 0 else if tK B n p = 264 then 1 else 0
section TP
variable {B : Int → Int} {n w p x r j : Int}
theorem txP_end (k : Nat) (h : tK B n p = 256) : txP B n w (k + 1) p x = x := by unfold txP; rw [if_pos h]
theorem txP_go (k : Nat) {y q : Int} (h : tK B n p ≠ 256) (hq : q = nxL B n p) (hy : y = (if tK B n p = w then tX B n p else x)) : txP B n w (k + 1) p x = txP B n w k q y := by
  conv => lhs; unfold txP
  rw [if_neg h, hq, hy]
theorem rdP_here (k : Nat) (h : tK B n p = 260) : rdP B n (k + 1) p r r = tX B n p := by unfold rdP; rw [if_neg (by omega), if_pos ⟨h, rfl⟩]
theorem rdP_go (k : Nat) {s q : Int} (h : tK B n p ≠ 256) (hq : q = nxL B n p) (hs : s = (if tK B n p = 260 then r + 1 else r)) (hj : s ≤ j) : rdP B n (k + 1) p r j = rdP B n k q s j := by
  conv => lhs; unfold rdP
  rw [if_neg h, if_neg (fun z => by rw [if_pos z.1] at hs; omega), hq, hs]
theorem semi_1 {o : Int × Int} (h : (semi B n o).1 = 0) : o.1 = 0 ∧ (semi B n o).2 = tX B n o.2 ∧ tK B n o.2 = 59 := by
  have hf := fk_rng B n o.2
  unfold semi at h ⊢
  by_cases c1 : o.1 ≠ 0
  · rw [if_pos c1] at h; exact absurd h c1
  · rw [if_neg c1] at h ⊢
    by_cases c2 : tK B n o.2 ≠ 59
    · rw [if_pos c2] at h; have h : fk B n o.2 = 0 := h; omega
    · rw [if_neg c2]
      exact ⟨by omega, rfl, by omega⟩
theorem law0_z {t1 t2 t3 : Int} (h : (law0 B n p r t1 t2 t3).1 = 0) : law0 B n p 0 0 0 0 = law0 B n p r t1 t2 t3 := by
  have hf := fk_rng B n p
  unfold law0 at h ⊢
  by_cases c1 : tK B n p = 260
  · rw [if_pos c1] at h ⊢
    rw [if_pos c1, if_neg (by decide)]
    by_cases d : 4 ≤ r
    · rw [if_pos d] at h; have h : (3 : Int) = 0 := h; exact absurd h (by decide)
    · rw [if_neg d]
  · rw [if_neg c1] at h ⊢
    rw [if_neg c1]
    by_cases c2 : tK B n p = 261
    · rw [if_pos c2] at h ⊢
      rw [if_pos c2, if_neg (by decide)]
      by_cases d : t1 ≠ 0
      · rw [if_pos d] at h; have h : (5 : Int) = 0 := h; exact absurd h (by decide)
      · rw [if_neg d]
    · rw [if_neg c2] at h ⊢
      rw [if_neg c2]
      by_cases c3 : tK B n p = 262
      · rw [if_pos c3] at h ⊢
        rw [if_pos c3, if_neg (by decide)]
        by_cases d : t2 ≠ 0
        · rw [if_pos d] at h; have h : (5 : Int) = 0 := h; exact absurd h (by decide)
        · rw [if_neg d]
      · rw [if_neg c3] at h ⊢
        rw [if_neg c3]
        by_cases c4 : tK B n p = 263
        · rw [if_pos c4] at h ⊢
          rw [if_pos c4, if_neg (by decide)]
          by_cases d : t3 ≠ 0
          · rw [if_pos d] at h; have h : (5 : Int) = 0 := h; exact absurd h (by decide)
          · rw [if_neg d]
        · rw [if_neg c4] at h ⊢
          rw [if_neg c4]
theorem nxL_z {t1 t2 t3 : Int} (h : (law1 B n p r t1 t2 t3).1 = 0) : (law1 B n p r t1 t2 t3).2 = nxL B n p := by
  unfold nxL law1
  rw [law0_z (semi_1 h).1]
end TP
/-- the rows of a law that nothing tells -/
theorem rep_un {it nu : Int → Int} (h0 : it 0 = 6 ∧ nu 0 = 100) (h1 : it 1 = 0 ∧ nu 1 = 0) (h2 : it 2 = 9 ∧ nu 2 = 0) (h3 : it 3 = 1 ∧ nu 3 = 0) (h4 : it 4 = 7 ∧ nu 4 = 0) : repC id [(7, 0), (1, 0), (9, 0), (0, 0), (6, 100)] it nu 5 := ⟨h4.1, h4.2, h3.1, h3.2, h2.1, h2.2, h1.1, h1.2, h0.1, h0.2, rfl⟩
theorem kyOk_un {B : Int → Int} {n : Int} {kk kd : Int → Int} {m : Int} (h : m = 1 ∧ kk 0 = 0 ∧ kd 0 = 1) : kyOk B n (-1) kk kd m := ⟨fun _ => h, fun q => absurd rfl q⟩
theorem kyOk_told {B : Int → Int} {n p : Int} {kk kd : Int → Int} {m : Int} (hp : p ≠ -1) (h : m = kyN B n 4 p ∧ kyC B n p kk kd m) : kyOk B n p kk kd m := ⟨fun q => absurd q hp, fun _ => h⟩
end

section
set_option maxHeartbeats 4000000 in
set_option maxRecDepth 100000 in
theorem q_e_La_readLaw (l : Launch) (D : va_G) (k : Nat → ClassId) (A : Nat → Prop) (ad : Nat → Nat) (hD : rwD A k ad) (za : Nat → Nat) (v : gV) (f g : gF) (nn : Int) (pp : Int) (hc : tAt (f 0) nn (f 6) (f 7) (f 8) (v 5) (v 6) pp) (hnn : nn ≤ 700) (hf : (v 16) = 0) (hk : (tK (f 0) nn pp) ≠ 256) (hd : shOk (v 7) (f 9)) : GE l D k za A (rwT k ad) yX3_readLaw cX3_readLaw 1 none 5 112 [.ref (ad 9)] v f g (fun r v1 f1 g1 => ∃ (w6 : Int) (w7 : Int) (w8 : Int) (w9 : Int) (w10 : Int) (w11 : Int) (w12 : Int) (w13 : Int) (w14 : Int) (w15 : Int) (w16 : Int) (w17 : Int) (w18 : Int) (w19 : Int) (w20 : Int) (a9_ : Int → Int) (a10_ : Int → Int) (a11_ : Int → Int) (a12_ : Int → Int) (a13_ : Int → Int) (a14_ : Int → Int), r = none ∧ (va_up (va_up (va_up (va_up (va_up (va_up (va_up (va_up (va_up (va_up (va_up (va_up (va_up (va_up (va_up v 6 w6) 7 w7) 8 w8) 9 w9) 10 w10) 11 w11) 12 w12) 13 w13) 14 w14) 15 w15) 16 w16) 17 w17) 18 w18) 19 w19) 20 w20) = v1 ∧ (va_up (va_up (va_up (va_up (va_up (va_up f 9 a9_) 10 a10_) 11 a11_) 12 a12_) 13 a13_) 14 a14_) = f1 ∧ g = g1 ∧ (oX (f 0) nn (f 6) (f 7) (f 8) (v 5) (law1 (f 0) nn pp (v 7) (v 18) (v 19) (v 20)) w16 w17 (v 17) w6) ∧ (w16 = 0 → w7 = (if (tK (f 0) nn pp) = 260 then (v 7) + 1 else (v 7))) ∧ (w16 = 0 → w18 = (if (tK (f 0) nn pp) = 261 then 1 else (v 18)) ∧ w19 = (if (tK (f 0) nn pp) = 262 then 1 else (v 19)) ∧ w20 = (if (tK (f 0) nn pp) = 263 then 1 else (v 20))) ∧ (w16 = 0 → shOk w7 a9_) ∧ (w16 = 0 → ((tK (f 0) nn pp) = 260 → shC (f 0) nn (tX (f 0) nn pp) a9_ (v 7)) ∧ (∀ e, e < (v 7) * 4 → a9_ e = (f 9) e)) ∧ (w16 = 0 → ((tK (f 0) nn pp) = 261 → repC id (exF (f 0) nn 702 (tX (f 0) nn pp) 0 [] []).2.2 a10_ a11_ w8) ∧ ((tK (f 0) nn pp) ≠ 261 → w8 = (v 8) ∧ a10_ = (f 10) ∧ a11_ = (f 11))) ∧ (w16 = 0 → ((tK (f 0) nn pp) = 262 → w9 = kyN (f 0) nn 4 (tX (f 0) nn pp) ∧ kyC (f 0) nn (tX (f 0) nn pp) a12_ a13_ w9) ∧ ((tK (f 0) nn pp) ≠ 262 → w9 = (v 9) ∧ a12_ = (f 12) ∧ a13_ = (f 13))) ∧ (w16 = 0 → ((tK (f 0) nn pp) = 263 → w10 = (if tK (f 0) nn (tX (f 0) nn pp) = 264 then 1 else 0)) ∧ ((tK (f 0) nn pp) ≠ 263 → w10 = (v 10)))) := by
  refine GE.of (by decide) (Nat.le_of_ble_eq_true rfl) ?_
  intro p e s m args below meth c Q ls hQ C hml hr hlocks hP hl hE
  have hx := C.1
  have hb := C.2.1
  have hok := hP.2
  have hS : va_S A s.heap s.heap [] := va_S.rf
  have hl : lv_has ls 1 [(0, .ref (ad 9))] := hl
  have hP : gWd D (rwT k ad) (va_up (va_up (va_up (va_up (va_up (va_up (va_up (va_up (va_up (va_up (va_up (va_up (va_up (va_up (va_up v 6 (v 6)) 7 (v 7)) 8 (v 8)) 9 (v 9)) 10 (v 10)) 11 (v 11)) 12 (v 12)) 13 (v 13)) 14 (v 14)) 15 (v 15)) 16 (v 16)) 17 (v 17)) 18 (v 18)) 19 (v 19)) 20 (v 20)) (va_up (va_up (va_up (va_up (va_up (va_up f 9 (f 9)) 10 (f 10)) 11 (f 11)) 12 (f 12)) 13 (f 13)) 14 (f 14)) g s.heap := by rw [va_id, va_id, va_id, va_id, va_id, va_id, va_id, va_id, va_id, va_id, va_id, va_id, va_id, va_id, va_id, va_id, va_id, va_id, va_id, va_id, va_id]; exact hP
  have hfk := fk_rng (f 0) nn pp
  have r_1 : 0 ≤ (v 16) ∧ (v 16) ≤ 5 := hok.1 16
  have r_2 : 0 ≤ (v 7) ∧ (v 7) ≤ 4 := hok.1 7
  have r_3 : 0 ≤ (v 18) ∧ (v 18) ≤ 1 := hok.1 18
  have r_4 : 0 ≤ (v 19) ∧ (v 19) ≤ 1 := hok.1 19
  have r_5 : 0 ≤ (v 20) ∧ (v 20) ≤ 1 := hok.1 20
  refine lv_aload_n hx hb dX3_readLaw_0 rfl (lv_at hl 0 rfl) ?_
  refine rwG_reader_tokens C hP mF_X3_12 dX3_readLaw_1 ?_
  refine g_cv (As := []) (rest := []) (n := 0) C hml (e_To_kind l D k A ad hD (va_up (va_up (va_up (va_up (va_up (va_up (va_up (va_up (va_up (va_up (va_up (va_up (va_up (va_up (va_up v 6 (v 6)) 7 (v 7)) 8 (v 8)) 9 (v 9)) 10 (v 10)) 11 (v 11)) 12 (v 12)) 13 (v 13)) 14 (v 14)) 15 (v 15)) 16 (v 16)) 17 (v 17)) 18 (v 18)) 19 (v 19)) 20 (v 20)) (va_up (va_up (va_up (va_up (va_up (va_up f 9 (f 9)) 10 (f 10)) 11 (f 11)) 12 (f 12)) 13 (f 13)) 14 (f 14)) g nn pp (show tAt (f 0) nn (f 6) (f 7) (f 8) (v 5) (v 6) pp from hc)) mM_X3_56 mI_X6_kind mE_X6_kind mN_X6 mC_X6_kind (by decide +kernel) 10 (ci := 6) rfl rfl hP hS (fun _ h => h) ⟨Nat.le_of_ble_eq_true rfl, Nat.le_of_ble_eq_true rfl⟩ ⟨Nat.zero_le _, Nat.zero_le _⟩ hl.1 rfl rfl (Nat.le_of_ble_eq_true rfl) dX3_readLaw_4 (fun r_6 v_6 f_6 g_6 H locs hq_6 hP _ hS => ?_)
  obtain ⟨z_6, rfl, rfl, rfl, rfl, p0_6, p1_6⟩ := hq_6
  show W p l e (gRm 5 112) s m args below meth c _ _ 0 0 Q (F0 m 7 ls [.int (iI z_6)])
  replace p0_6 : z_6 = (tK (f 0) nn pp) := p0_6
  replace p1_6 : 40 ≤ z_6 ∧ z_6 ≤ 277 := p1_6
  have hz_6 : inR z_6 := (by first | omega | (rw [p0_6]; split <;> omega))
  have hK1 := p0_6
  by_cases c_7_260 : z_6 = 260
  · refine lv_tableIn (off := 29) (tgt := 36) hx hb dX3_readLaw_7 (by rw [c_7_260]; decide) (by rw [c_7_260]; decide) (by rw [c_7_260]; rfl) (by decide) ?_
    refine lv_aload_n hx hb dX3_readLaw_36 rfl (lv_at hl 0 rfl) ?_
    refine g_cvE (As := []) (rest := []) (n := 0) C hE hml (q_e_La_readRound l D k A ad hD za (va_up (va_up (va_up (va_up (va_up (va_up (va_up (va_up (va_up (va_up (va_up (va_up (va_up (va_up (va_up v 6 (v 6)) 7 (v 7)) 8 (v 8)) 9 (v 9)) 10 (v 10)) 11 (v 11)) 12 (v 12)) 13 (v 13)) 14 (v 14)) 15 (v 15)) 16 (v 16)) 17 (v 17)) 18 (v 18)) 19 (v 19)) 20 (v 20)) (va_up (va_up (va_up (va_up (va_up (va_up f 9 (f 9)) 10 (f 10)) 11 (f 11)) 12 (f 12)) 13 (f 13)) 14 (f 14)) g nn pp (show tAt (f 0) nn (f 6) (f 7) (f 8) (v 5) (v 6) pp from hc) (show (v 16) = 0 from by omega) (show (tK (f 0) nn pp) ≠ 256 ∧ (tK (f 0) nn pp) ≠ 257 from by omega) (show shOk (v 7) (f 9) from hd)) mM_X3_63 mI_X3_readRound mE_X3_readRound mN_X3 mC_X3_readRound (by decide +kernel) 9 (ci := 3) rfl rfl hP hS (fun _ h => h) ⟨Nat.le_of_ble_eq_true rfl, Nat.le_of_ble_eq_true rfl⟩ ⟨Nat.zero_le _, Nat.zero_le _⟩ hl.1 rfl rfl (Nat.le_of_ble_eq_true rfl) dX3_readLaw_37 (fun r_8 v_8 f_8 g_8 H locs hq_8 hP _ hS => ?_)
    obtain ⟨w6_8, w7_8, w16_8, w17_8, a9_8, rfl, rfl, rfl, rfl, p0_8, p1_8, p2_8, p3_8, p4_8⟩ := hq_8
    show W p l e (gRm 5 112) s m args below meth c _ _ 0 0 Q (F0 m 40 ls [])
    have hP : gWd D (rwT k ad) (va_up (va_up (va_up (va_up (va_up (va_up (va_up (va_up (va_up (va_up (va_up (va_up (va_up (va_up (va_up v 6 w6_8) 7 w7_8) 8 (v 8)) 9 (v 9)) 10 (v 10)) 11 (v 11)) 12 (v 12)) 13 (v 13)) 14 (v 14)) 15 (v 15)) 16 w16_8) 17 w17_8) 18 (v 18)) 19 (v 19)) 20 (v 20)) (va_up (va_up (va_up (va_up (va_up (va_up f 9 a9_8) 10 (f 10)) 11 (f 11)) 12 (f 12)) 13 (f 13)) 14 (f 14)) g H := ⟨hP.1, (gF_up (V := rwV) (F := rwF) (gF_up (V := rwV) (F := rwF) (gF_up (V := rwV) (F := rwF) (gF_up (V := rwV) (F := rwF) (gF_up (V := rwV) (F := rwF) (gF_up (V := rwV) (F := rwF) (gR_up (V := rwV) (F := rwF) (gR_up (V := rwV) (F := rwF) (gR_up (V := rwV) (F := rwF) (gR_up (V := rwV) (F := rwF) (gR_up (V := rwV) (F := rwF) (gR_up (V := rwV) (F := rwF) (gR_up (V := rwV) (F := rwF) (gR_up (V := rwV) (F := rwF) (gR_up (V := rwV) (F := rwF) (gR_up (V := rwV) (F := rwF) (gR_up (V := rwV) (F := rwF) (gR_up (V := rwV) (F := rwF) (gR_up (V := rwV) (F := rwF) (gR_up (V := rwV) (F := rwF) (gR_up (V := rwV) (F := rwF) ⟨hok.1, hok.2⟩ 6 (hP.2.1 6)) 7 (hP.2.1 7)) 8 (hP.2.1 8)) 9 (hP.2.1 9)) 10 (hP.2.1 10)) 11 (hP.2.1 11)) 12 (hP.2.1 12)) 13 (hP.2.1 13)) 14 (hP.2.1 14)) 15 (hP.2.1 15)) 16 (hP.2.1 16)) 17 (hP.2.1 17)) 18 (hP.2.1 18)) 19 (hP.2.1 19)) 20 (hP.2.1 20)) 9 (hP.2.2 9)) 10 (hP.2.2 10)) 11 (hP.2.2 11)) 12 (hP.2.2 12)) 13 (hP.2.2 13)) 14 (hP.2.2 14))⟩
    replace p0_8 : oX (f 0) nn (f 6) (f 7) (f 8) (v 5) (if 4 ≤ (v 7) then ((3 : Int), pp) else rnd (f 0) nn 4 0 (tX (f 0) nn pp)) w16_8 w17_8 (v 17) w6_8 := p0_8
    replace p1_8 : w16_8 = 0 → w7_8 = (v 7) + 1 := p1_8
    replace p2_8 : w16_8 = 0 → shOk w7_8 a9_8 := p2_8
    replace p3_8 : w16_8 = 0 → shC (f 0) nn (tX (f 0) nn pp) a9_8 (v 7) := p3_8
    replace p4_8 : ∀ e, e < (v 7) * 4 → a9_8 e = (f 9) e := p4_8
    have rw6_8 : 0 ≤ w6_8 ∧ w6_8 ≤ 700 := hP.2.1 6
    have rw7_8 : 0 ≤ w7_8 ∧ w7_8 ≤ 4 := hP.2.1 7
    have rw16_8 : 0 ≤ w16_8 ∧ w16_8 ≤ 5 := hP.2.1 16
    have rw17_8 : (-1) ≤ w17_8 ∧ w17_8 ≤ 700 := hP.2.1 17
    have hR0 := p0_8
    have hRr := p1_8
    have hRs := p2_8
    have hL0 : (law0 (f 0) nn pp (v 7) (v 18) (v 19) (v 20)) = (if 4 ≤ (v 7) then ((3 : Int), pp) else rnd (f 0) nn 4 0 (tX (f 0) nn pp)) := by unfold law0; rw [if_pos (by omega)]
    have hOX : oX (f 0) nn (f 6) (f 7) (f 8) (v 5) (law0 (f 0) nn pp (v 7) (v 18) (v 19) (v 20)) w16_8 w17_8 (v 17) w6_8 := by rw [hL0]; exact hR0
    have hSC := Bx.mk p3_8
    have hSK := p4_8
    clear p3_8
    refine lv_goto (tgt := 132) hx hb dX3_readLaw_40 (by decide) ?_
    have hOX : oX (f 0) nn (f 6) (f 7) (f 8) (v 5) (law0 (f 0) nn pp (v 7) (v 18) (v 19) (v 20)) w16_8 w17_8 (v 17) w6_8 := by first | exact hOX | exact oX_bad (k := 5) (q := pp) (by unfold law0; rw [if_neg (by omega), if_pos (by omega), if_pos (by omega)]) (by decide) (by omega) (by omega) (tAt_eq hc (by omega))
    refine lv_aload_n hx hb dX3_readLaw_132 rfl (lv_at hl 0 rfl) ?_
    refine lv_bipush (v := iI 59) hx hb dX3_readLaw_133 (by decide) ?_
    refine g_cv (As := [.int (iI 59)]) (rest := []) (n := 1) C hml (e_La_pass l D k A ad hD (va_up (va_up (va_up (va_up (va_up (va_up (va_up (va_up (va_up (va_up (va_up (va_up (va_up (va_up (va_up v 6 w6_8) 7 w7_8) 8 (v 8)) 9 (v 9)) 10 (v 10)) 11 (v 11)) 12 (v 12)) 13 (v 13)) 14 (v 14)) 15 (v 15)) 16 w16_8) 17 w17_8) 18 (v 18)) 19 (v 19)) 20 (v 20)) (va_up (va_up (va_up (va_up (va_up (va_up f 9 a9_8) 10 (f 10)) 11 (f 11)) 12 (f 12)) 13 (f 13)) 14 (f 14)) g 59 nn (law0 (f 0) nn pp (v 7) (v 18) (v 19) (v 20)).2 (by decide) (show tAt (f 0) nn (f 6) (f 7) (f 8) (v 5) w6_8 (law0 (f 0) nn pp (v 7) (v 18) (v 19) (v 20)).2 from hOX.2.2.2) (show (59 : Int) ≠ 256 ∧ (59 : Int) ≠ 257 from by omega)) mM_X3_91 mI_X3_pass mE_X3_pass mN_X3 mC_X3_pass (by decide +kernel) 9 (ci := 3) rfl rfl hP hS (fun _ h => h) ⟨Nat.le_of_ble_eq_true rfl, Nat.le_of_ble_eq_true rfl⟩ ⟨Nat.zero_le _, Nat.zero_le _⟩ hl.1 rfl rfl (Nat.le_of_ble_eq_true rfl) dX3_readLaw_135 (fun r_9 v_9 f_9 g_9 H locs hq_9 hP _ hS => ?_)
    obtain ⟨w6_9, w16_9, w17_9, rfl, rfl, rfl, rfl, p0_9, p1_9, p2_9, p3_9⟩ := hq_9
    show W p l e (gRm 5 112) s m args below meth c _ _ 0 0 Q (F0 m 138 ls [])
    have hP : gWd D (rwT k ad) (va_up (va_up (va_up (va_up (va_up (va_up (va_up (va_up (va_up (va_up (va_up (va_up (va_up (va_up (va_up v 6 w6_9) 7 w7_8) 8 (v 8)) 9 (v 9)) 10 (v 10)) 11 (v 11)) 12 (v 12)) 13 (v 13)) 14 (v 14)) 15 (v 15)) 16 w16_9) 17 w17_9) 18 (v 18)) 19 (v 19)) 20 (v 20)) (va_up (va_up (va_up (va_up (va_up (va_up f 9 a9_8) 10 (f 10)) 11 (f 11)) 12 (f 12)) 13 (f 13)) 14 (f 14)) g H := ⟨hP.1, (gF_up (V := rwV) (F := rwF) (gF_up (V := rwV) (F := rwF) (gF_up (V := rwV) (F := rwF) (gF_up (V := rwV) (F := rwF) (gF_up (V := rwV) (F := rwF) (gF_up (V := rwV) (F := rwF) (gR_up (V := rwV) (F := rwF) (gR_up (V := rwV) (F := rwF) (gR_up (V := rwV) (F := rwF) (gR_up (V := rwV) (F := rwF) (gR_up (V := rwV) (F := rwF) (gR_up (V := rwV) (F := rwF) (gR_up (V := rwV) (F := rwF) (gR_up (V := rwV) (F := rwF) (gR_up (V := rwV) (F := rwF) (gR_up (V := rwV) (F := rwF) (gR_up (V := rwV) (F := rwF) (gR_up (V := rwV) (F := rwF) (gR_up (V := rwV) (F := rwF) (gR_up (V := rwV) (F := rwF) (gR_up (V := rwV) (F := rwF) ⟨hok.1, hok.2⟩ 6 (hP.2.1 6)) 7 (hP.2.1 7)) 8 (hP.2.1 8)) 9 (hP.2.1 9)) 10 (hP.2.1 10)) 11 (hP.2.1 11)) 12 (hP.2.1 12)) 13 (hP.2.1 13)) 14 (hP.2.1 14)) 15 (hP.2.1 15)) 16 (hP.2.1 16)) 17 (hP.2.1 17)) 18 (hP.2.1 18)) 19 (hP.2.1 19)) 20 (hP.2.1 20)) 9 (hP.2.2 9)) 10 (hP.2.2 10)) 11 (hP.2.2 11)) 12 (hP.2.2 12)) 13 (hP.2.2 13)) 14 (hP.2.2 14))⟩
    replace p0_9 : w16_8 = 0 → (tK (f 0) nn (law0 (f 0) nn pp (v 7) (v 18) (v 19) (v 20)).2) = (59 : Int) → w16_9 = 0 ∧ w17_9 = w17_8 := p0_9
    replace p1_9 : w16_8 = 0 → (tK (f 0) nn (law0 (f 0) nn pp (v 7) (v 18) (v 19) (v 20)).2) ≠ (59 : Int) → w16_9 = (fk (f 0) nn (law0 (f 0) nn pp (v 7) (v 18) (v 19) (v 20)).2) ∧ w17_9 = (law0 (f 0) nn pp (v 7) (v 18) (v 19) (v 20)).2 ∧ w6_9 = w6_8 := p1_9
    replace p2_9 : w16_8 ≠ 0 → w16_9 = w16_8 ∧ w17_9 = w17_8 ∧ w6_9 = w6_8 := p2_9
    replace p3_9 : w16_8 = 0 → (tK (f 0) nn (law0 (f 0) nn pp (v 7) (v 18) (v 19) (v 20)).2) = (59 : Int) → tAt (f 0) nn (f 6) (f 7) (f 8) (v 5) w6_9 (tX (f 0) nn (law0 (f 0) nn pp (v 7) (v 18) (v 19) (v 20)).2) := p3_9
    have rw6_9 : 0 ≤ w6_9 ∧ w6_9 ≤ 700 := hP.2.1 6
    have rw16_9 : 0 ≤ w16_9 ∧ w16_9 ≤ 5 := hP.2.1 16
    have rw17_9 : (-1) ≤ w17_9 ∧ w17_9 ≤ 700 := hP.2.1 17
    have hP0 := p0_9
    have hP1 := p1_9
    have hP2 := p2_9
    have hP3 := p3_9
    exact g_vret hQ C hr hlocks hP hS dX3_readLaw_138 ⟨w6_9, w7_8, (v 8), (v 9), (v 10), (v 11), (v 12), (v 13), (v 14), (v 15), w16_9, w17_9, (v 18), (v 19), (v 20), a9_8, (f 10), (f 11), (f 12), (f 13), (f 14), rfl, rfl, rfl, rfl, (by unfold law1; exact oX_semi hOX hP0 hP1 hP2 hP3), (by first | (intro h; rw [if_pos (by omega)]; have := hOX.1; have := hRr (by omega); omega) | (intro h; rw [if_neg (by omega)])), (by intro h; first | (exfalso; omega) | (refine ⟨?_, ?_, ?_⟩ <;> first | rw [if_pos (by omega)] | rw [if_neg (by omega)])), (by first | exact fun h => hRs (by have := hP2; omega) | exact fun h => hd), (fun h => by first | exact ⟨fun _ => hSC.get (by omega), hSK⟩ | exact ⟨fun h9 => absurd h9 (by omega), fun e he => rfl⟩ | (exfalso; omega)), (fun h => by first | exact ⟨fun _ => hE3.get (by omega), fun h9 => absurd (show (tK (f 0) nn pp) = 261 by omega) h9⟩ | exact ⟨fun h9 => absurd h9 (by omega), fun _ => ⟨rfl, rfl, rfl⟩⟩ | (exfalso; omega)), (fun h => by first | exact ⟨fun _ => hKC.get (by omega) (by omega), fun h9 => absurd (show (tK (f 0) nn pp) = 262 by omega) h9⟩ | exact ⟨fun h9 => absurd h9 (by omega), fun _ => ⟨rfl, rfl, rfl⟩⟩ | (exfalso; omega)), (fun h => by first | exact ⟨fun _ => hTC.get (by omega) (by omega), fun h9 => absurd (show (tK (f 0) nn pp) = 263 by omega) h9⟩ | exact ⟨fun h9 => absurd h9 (by omega), fun _ => rfl⟩ | (exfalso; omega))⟩
  by_cases c_7_261 : z_6 = 261
  · refine lv_tableIn (off := 36) (tgt := 43) hx hb dX3_readLaw_7 (by rw [c_7_261]; decide) (by rw [c_7_261]; decide) (by rw [c_7_261]; rfl) (by decide) ?_
    refine lv_aload_n hx hb dX3_readLaw_43 rfl (lv_at hl 0 rfl) ?_
    refine lv_aload_n hx hb dX3_readLaw_44 rfl (lv_at hl 0 rfl) ?_
    refine rwG_reader_pointsTold C hP mF_X3_39 dX3_readLaw_45 ?_
    show W p l e (gRm 5 112) s m args below meth c _ _ 0 0 Q (F0 m 48 ls [.int (iI (v 18)), .ref (ad 9)])
    refine lv_iconst (v := iI 5) hx hb dX3_readLaw_48 rfl ?_
    refine g_cv (As := [.int (iI (v 18)), .int (iI 5)]) (rest := []) (n := 2) C hml (e_La_refuseIf l D k A ad hD (va_up (va_up (va_up (va_up (va_up (va_up (va_up (va_up (va_up (va_up (va_up (va_up (va_up (va_up (va_up v 6 (v 6)) 7 (v 7)) 8 (v 8)) 9 (v 9)) 10 (v 10)) 11 (v 11)) 12 (v 12)) 13 (v 13)) 14 (v 14)) 15 (v 15)) 16 (v 16)) 17 (v 17)) 18 (v 18)) 19 (v 19)) 20 (v 20)) (va_up (va_up (va_up (va_up (va_up (va_up f 9 (f 9)) 10 (f 10)) 11 (f 11)) 12 (f 12)) 13 (f 13)) 14 (f 14)) g (v 18) 5 nn pp (by omega) (by decide) (show tAt (f 0) nn (f 6) (f 7) (f 8) (v 5) (v 6) pp from hc) (show 1 ≤ (5 : Int) ∧ (5 : Int) ≤ 5 from by omega)) mM_X3_66 mI_X3_refuseIf mE_X3_refuseIf mN_X3 mC_X3_refuseIf (by decide +kernel) 9 (ci := 3) rfl rfl hP hS (fun _ h => h) ⟨Nat.le_of_ble_eq_true rfl, Nat.le_of_ble_eq_true rfl⟩ ⟨Nat.zero_le _, Nat.zero_le _⟩ hl.1 rfl rfl (Nat.le_of_ble_eq_true rfl) dX3_readLaw_49 (fun r_10 v_10 f_10 g_10 H locs hq_10 hP _ hS => ?_)
    obtain ⟨w16_10, w17_10, rfl, rfl, rfl, rfl, p0_10, p1_10⟩ := hq_10
    show W p l e (gRm 5 112) s m args below meth c _ _ 0 0 Q (F0 m 52 ls [])
    have hP : gWd D (rwT k ad) (va_up (va_up (va_up (va_up (va_up (va_up (va_up (va_up (va_up (va_up (va_up (va_up (va_up (va_up (va_up v 6 (v 6)) 7 (v 7)) 8 (v 8)) 9 (v 9)) 10 (v 10)) 11 (v 11)) 12 (v 12)) 13 (v 13)) 14 (v 14)) 15 (v 15)) 16 w16_10) 17 w17_10) 18 (v 18)) 19 (v 19)) 20 (v 20)) (va_up (va_up (va_up (va_up (va_up (va_up f 9 (f 9)) 10 (f 10)) 11 (f 11)) 12 (f 12)) 13 (f 13)) 14 (f 14)) g H := ⟨hP.1, (gF_up (V := rwV) (F := rwF) (gF_up (V := rwV) (F := rwF) (gF_up (V := rwV) (F := rwF) (gF_up (V := rwV) (F := rwF) (gF_up (V := rwV) (F := rwF) (gF_up (V := rwV) (F := rwF) (gR_up (V := rwV) (F := rwF) (gR_up (V := rwV) (F := rwF) (gR_up (V := rwV) (F := rwF) (gR_up (V := rwV) (F := rwF) (gR_up (V := rwV) (F := rwF) (gR_up (V := rwV) (F := rwF) (gR_up (V := rwV) (F := rwF) (gR_up (V := rwV) (F := rwF) (gR_up (V := rwV) (F := rwF) (gR_up (V := rwV) (F := rwF) (gR_up (V := rwV) (F := rwF) (gR_up (V := rwV) (F := rwF) (gR_up (V := rwV) (F := rwF) (gR_up (V := rwV) (F := rwF) (gR_up (V := rwV) (F := rwF) ⟨hok.1, hok.2⟩ 6 (hP.2.1 6)) 7 (hP.2.1 7)) 8 (hP.2.1 8)) 9 (hP.2.1 9)) 10 (hP.2.1 10)) 11 (hP.2.1 11)) 12 (hP.2.1 12)) 13 (hP.2.1 13)) 14 (hP.2.1 14)) 15 (hP.2.1 15)) 16 (hP.2.1 16)) 17 (hP.2.1 17)) 18 (hP.2.1 18)) 19 (hP.2.1 19)) 20 (hP.2.1 20)) 9 (hP.2.2 9)) 10 (hP.2.2 10)) 11 (hP.2.2 11)) 12 (hP.2.2 12)) 13 (hP.2.2 13)) 14 (hP.2.2 14))⟩
    replace p0_10 : (v 18) = 0 ∨ (v 16) ≠ 0 → w16_10 = (v 16) ∧ w17_10 = (v 17) := p0_10
    replace p1_10 : (v 18) ≠ 0 → (v 16) = 0 → w16_10 = (5 : Int) ∧ w17_10 = pp := p1_10
    have rw16_10 : 0 ≤ w16_10 ∧ w16_10 ≤ 5 := hP.2.1 16
    have rw17_10 : (-1) ≤ w17_10 ∧ w17_10 ≤ 700 := hP.2.1 17
    refine lv_aload_n hx hb dX3_readLaw_52 rfl (lv_at hl 0 rfl) ?_
    refine lv_iconst (v := iI 1) hx hb dX3_readLaw_53 rfl ?_
    refine rwP_reader_pointsTold (v1 := (va_up (va_up (va_up (va_up (va_up (va_up (va_up (va_up (va_up (va_up (va_up (va_up (va_up (va_up (va_up v 6 (v 6)) 7 (v 7)) 8 (v 8)) 9 (v 9)) 10 (v 10)) 11 (v 11)) 12 (v 12)) 13 (v 13)) 14 (v 14)) 15 (v 15)) 16 w16_10) 17 w17_10) 18 1) 19 (v 19)) 20 (v 20))) C hP hD hS mF_X3_39 (by decide) (by decide) rfl (Or.inr (gF_up (V := rwV) (F := rwF) (gF_up (V := rwV) (F := rwF) (gF_up (V := rwV) (F := rwF) (gF_up (V := rwV) (F := rwF) (gF_up (V := rwV) (F := rwF) (gF_up (V := rwV) (F := rwF) (gR_up (V := rwV) (F := rwF) (gR_up (V := rwV) (F := rwF) (gR_up (V := rwV) (F := rwF) (gR_up (V := rwV) (F := rwF) (gR_up (V := rwV) (F := rwF) (gR_up (V := rwV) (F := rwF) (gR_up (V := rwV) (F := rwF) (gR_up (V := rwV) (F := rwF) (gR_up (V := rwV) (F := rwF) (gR_up (V := rwV) (F := rwF) (gR_up (V := rwV) (F := rwF) (gR_up (V := rwV) (F := rwF) (gR_up (V := rwV) (F := rwF) (gR_up (V := rwV) (F := rwF) (gR_up (V := rwV) (F := rwF) ⟨hok.1, hok.2⟩ 6 (hP.2.1 6)) 7 (hP.2.1 7)) 8 (hP.2.1 8)) 9 (hP.2.1 9)) 10 (hP.2.1 10)) 11 (hP.2.1 11)) 12 (hP.2.1 12)) 13 (hP.2.1 13)) 14 (hP.2.1 14)) 15 (hP.2.1 15)) 16 (hP.2.1 16)) 17 (hP.2.1 17)) 18 (show 0 ≤ 1 ∧ 1 ≤ 1 from by decide)) 19 (hP.2.1 19)) 20 (hP.2.1 20)) 9 (hP.2.2 9)) 10 (hP.2.2 10)) 11 (hP.2.2 11)) 12 (hP.2.2 12)) 13 (hP.2.2 13)) 14 (hP.2.2 14))) dX3_readLaw_54 (fun H locs hP hS => ?_)
    refine lv_aload_n hx hb dX3_readLaw_57 rfl (lv_at hl 0 rfl) ?_
    refine g_cv (As := []) (rest := []) (n := 0) C hml (e_La_goOn l D k A ad hD (va_up (va_up (va_up (va_up (va_up (va_up (va_up (va_up (va_up (va_up (va_up (va_up (va_up (va_up (va_up v 6 (v 6)) 7 (v 7)) 8 (v 8)) 9 (v 9)) 10 (v 10)) 11 (v 11)) 12 (v 12)) 13 (v 13)) 14 (v 14)) 15 (v 15)) 16 w16_10) 17 w17_10) 18 1) 19 (v 19)) 20 (v 20)) (va_up (va_up (va_up (va_up (va_up (va_up f 9 (f 9)) 10 (f 10)) 11 (f 11)) 12 (f 12)) 13 (f 13)) 14 (f 14)) g nn pp (show tAt (f 0) nn (f 6) (f 7) (f 8) (v 5) (v 6) pp from hc)) mM_X3_70 mI_X3_goOn mE_X3_goOn mN_X3 mC_X3_goOn (by decide +kernel) 9 (ci := 3) rfl rfl hP hS (fun _ h => h) ⟨Nat.le_of_ble_eq_true rfl, Nat.le_of_ble_eq_true rfl⟩ ⟨Nat.zero_le _, Nat.zero_le _⟩ hl.1 rfl rfl (Nat.le_of_ble_eq_true rfl) dX3_readLaw_58 (fun r_11 v_11 f_11 g_11 H locs hq_11 hP _ hS => ?_)
    obtain ⟨z_11, w6_11, rfl, rfl, rfl, rfl, p0_11, p1_11, p2_11, p3_11⟩ := hq_11
    show W p l e (gRm 5 112) s m args below meth c _ _ 0 0 Q (F0 m 61 ls [.int (iI z_11)])
    have hP : gWd D (rwT k ad) (va_up (va_up (va_up (va_up (va_up (va_up (va_up (va_up (va_up (va_up (va_up (va_up (va_up (va_up (va_up v 6 w6_11) 7 (v 7)) 8 (v 8)) 9 (v 9)) 10 (v 10)) 11 (v 11)) 12 (v 12)) 13 (v 13)) 14 (v 14)) 15 (v 15)) 16 w16_10) 17 w17_10) 18 1) 19 (v 19)) 20 (v 20)) (va_up (va_up (va_up (va_up (va_up (va_up f 9 (f 9)) 10 (f 10)) 11 (f 11)) 12 (f 12)) 13 (f 13)) 14 (f 14)) g H := ⟨hP.1, (gF_up (V := rwV) (F := rwF) (gF_up (V := rwV) (F := rwF) (gF_up (V := rwV) (F := rwF) (gF_up (V := rwV) (F := rwF) (gF_up (V := rwV) (F := rwF) (gF_up (V := rwV) (F := rwF) (gR_up (V := rwV) (F := rwF) (gR_up (V := rwV) (F := rwF) (gR_up (V := rwV) (F := rwF) (gR_up (V := rwV) (F := rwF) (gR_up (V := rwV) (F := rwF) (gR_up (V := rwV) (F := rwF) (gR_up (V := rwV) (F := rwF) (gR_up (V := rwV) (F := rwF) (gR_up (V := rwV) (F := rwF) (gR_up (V := rwV) (F := rwF) (gR_up (V := rwV) (F := rwF) (gR_up (V := rwV) (F := rwF) (gR_up (V := rwV) (F := rwF) (gR_up (V := rwV) (F := rwF) (gR_up (V := rwV) (F := rwF) ⟨hok.1, hok.2⟩ 6 (hP.2.1 6)) 7 (hP.2.1 7)) 8 (hP.2.1 8)) 9 (hP.2.1 9)) 10 (hP.2.1 10)) 11 (hP.2.1 11)) 12 (hP.2.1 12)) 13 (hP.2.1 13)) 14 (hP.2.1 14)) 15 (hP.2.1 15)) 16 (hP.2.1 16)) 17 (hP.2.1 17)) 18 (hP.2.1 18)) 19 (hP.2.1 19)) 20 (hP.2.1 20)) 9 (hP.2.2 9)) 10 (hP.2.2 10)) 11 (hP.2.2 11)) 12 (hP.2.2 12)) 13 (hP.2.2 13)) 14 (hP.2.2 14))⟩
    replace p0_11 : 0 ≤ z_11 ∧ z_11 ≤ 1 := p0_11
    replace p1_11 : z_11 = 1 ↔ w16_10 = 0 := p1_11
    replace p2_11 : w16_10 ≠ 0 → w6_11 = (v 6) := p2_11
    replace p3_11 : w16_10 = 0 → (tK (f 0) nn pp) ≠ 256 → (tK (f 0) nn pp) ≠ 257 → tAt (f 0) nn (f 6) (f 7) (f 8) (v 5) w6_11 (tX (f 0) nn pp) := p3_11
    have rw6_11 : 0 ≤ w6_11 ∧ w6_11 ≤ 700 := hP.2.1 6
    have hG3 := p3_11
    clear p3_11
    refine gi_zeq (tgt := 132) hx hb dX3_readLaw_61 (by decide) (by omega) (fun c_12 => ?_) (fun c_12 => ?_)
    · have hOX : oX (f 0) nn (f 6) (f 7) (f 8) (v 5) (law0 (f 0) nn pp (v 7) (v 18) (v 19) (v 20)) w16_10 w17_10 (v 17) w6_11 := by first | exact hOX | exact oX_bad (k := 5) (q := pp) (by unfold law0; rw [if_neg (by omega), if_pos (by omega), if_pos (by omega)]) (by decide) (by omega) (by omega) (tAt_eq hc (by omega))
      refine lv_aload_n hx hb dX3_readLaw_132 rfl (lv_at hl 0 rfl) ?_
      refine lv_bipush (v := iI 59) hx hb dX3_readLaw_133 (by decide) ?_
      refine g_cv (As := [.int (iI 59)]) (rest := []) (n := 1) C hml (e_La_pass l D k A ad hD (va_up (va_up (va_up (va_up (va_up (va_up (va_up (va_up (va_up (va_up (va_up (va_up (va_up (va_up (va_up v 6 w6_11) 7 (v 7)) 8 (v 8)) 9 (v 9)) 10 (v 10)) 11 (v 11)) 12 (v 12)) 13 (v 13)) 14 (v 14)) 15 (v 15)) 16 w16_10) 17 w17_10) 18 1) 19 (v 19)) 20 (v 20)) (va_up (va_up (va_up (va_up (va_up (va_up f 9 (f 9)) 10 (f 10)) 11 (f 11)) 12 (f 12)) 13 (f 13)) 14 (f 14)) g 59 nn (law0 (f 0) nn pp (v 7) (v 18) (v 19) (v 20)).2 (by decide) (show tAt (f 0) nn (f 6) (f 7) (f 8) (v 5) w6_11 (law0 (f 0) nn pp (v 7) (v 18) (v 19) (v 20)).2 from hOX.2.2.2) (show (59 : Int) ≠ 256 ∧ (59 : Int) ≠ 257 from by omega)) mM_X3_91 mI_X3_pass mE_X3_pass mN_X3 mC_X3_pass (by decide +kernel) 9 (ci := 3) rfl rfl hP hS (fun _ h => h) ⟨Nat.le_of_ble_eq_true rfl, Nat.le_of_ble_eq_true rfl⟩ ⟨Nat.zero_le _, Nat.zero_le _⟩ hl.1 rfl rfl (Nat.le_of_ble_eq_true rfl) dX3_readLaw_135 (fun r_13 v_13 f_13 g_13 H locs hq_13 hP _ hS => ?_)
      obtain ⟨w6_13, w16_13, w17_13, rfl, rfl, rfl, rfl, p0_13, p1_13, p2_13, p3_13⟩ := hq_13
      show W p l e (gRm 5 112) s m args below meth c _ _ 0 0 Q (F0 m 138 ls [])
      have hP : gWd D (rwT k ad) (va_up (va_up (va_up (va_up (va_up (va_up (va_up (va_up (va_up (va_up (va_up (va_up (va_up (va_up (va_up v 6 w6_13) 7 (v 7)) 8 (v 8)) 9 (v 9)) 10 (v 10)) 11 (v 11)) 12 (v 12)) 13 (v 13)) 14 (v 14)) 15 (v 15)) 16 w16_13) 17 w17_13) 18 1) 19 (v 19)) 20 (v 20)) (va_up (va_up (va_up (va_up (va_up (va_up f 9 (f 9)) 10 (f 10)) 11 (f 11)) 12 (f 12)) 13 (f 13)) 14 (f 14)) g H := ⟨hP.1, (gF_up (V := rwV) (F := rwF) (gF_up (V := rwV) (F := rwF) (gF_up (V := rwV) (F := rwF) (gF_up (V := rwV) (F := rwF) (gF_up (V := rwV) (F := rwF) (gF_up (V := rwV) (F := rwF) (gR_up (V := rwV) (F := rwF) (gR_up (V := rwV) (F := rwF) (gR_up (V := rwV) (F := rwF) (gR_up (V := rwV) (F := rwF) (gR_up (V := rwV) (F := rwF) (gR_up (V := rwV) (F := rwF) (gR_up (V := rwV) (F := rwF) (gR_up (V := rwV) (F := rwF) (gR_up (V := rwV) (F := rwF) (gR_up (V := rwV) (F := rwF) (gR_up (V := rwV) (F := rwF) (gR_up (V := rwV) (F := rwF) (gR_up (V := rwV) (F := rwF) (gR_up (V := rwV) (F := rwF) (gR_up (V := rwV) (F := rwF) ⟨hok.1, hok.2⟩ 6 (hP.2.1 6)) 7 (hP.2.1 7)) 8 (hP.2.1 8)) 9 (hP.2.1 9)) 10 (hP.2.1 10)) 11 (hP.2.1 11)) 12 (hP.2.1 12)) 13 (hP.2.1 13)) 14 (hP.2.1 14)) 15 (hP.2.1 15)) 16 (hP.2.1 16)) 17 (hP.2.1 17)) 18 (hP.2.1 18)) 19 (hP.2.1 19)) 20 (hP.2.1 20)) 9 (hP.2.2 9)) 10 (hP.2.2 10)) 11 (hP.2.2 11)) 12 (hP.2.2 12)) 13 (hP.2.2 13)) 14 (hP.2.2 14))⟩
      replace p0_13 : w16_10 = 0 → (tK (f 0) nn (law0 (f 0) nn pp (v 7) (v 18) (v 19) (v 20)).2) = (59 : Int) → w16_13 = 0 ∧ w17_13 = w17_10 := p0_13
      replace p1_13 : w16_10 = 0 → (tK (f 0) nn (law0 (f 0) nn pp (v 7) (v 18) (v 19) (v 20)).2) ≠ (59 : Int) → w16_13 = (fk (f 0) nn (law0 (f 0) nn pp (v 7) (v 18) (v 19) (v 20)).2) ∧ w17_13 = (law0 (f 0) nn pp (v 7) (v 18) (v 19) (v 20)).2 ∧ w6_13 = w6_11 := p1_13
      replace p2_13 : w16_10 ≠ 0 → w16_13 = w16_10 ∧ w17_13 = w17_10 ∧ w6_13 = w6_11 := p2_13
      replace p3_13 : w16_10 = 0 → (tK (f 0) nn (law0 (f 0) nn pp (v 7) (v 18) (v 19) (v 20)).2) = (59 : Int) → tAt (f 0) nn (f 6) (f 7) (f 8) (v 5) w6_13 (tX (f 0) nn (law0 (f 0) nn pp (v 7) (v 18) (v 19) (v 20)).2) := p3_13
      have rw6_13 : 0 ≤ w6_13 ∧ w6_13 ≤ 700 := hP.2.1 6
      have rw16_13 : 0 ≤ w16_13 ∧ w16_13 ≤ 5 := hP.2.1 16
      have rw17_13 : (-1) ≤ w17_13 ∧ w17_13 ≤ 700 := hP.2.1 17
      have hP0 := p0_13
      have hP1 := p1_13
      have hP2 := p2_13
      have hP3 := p3_13
      exact g_vret hQ C hr hlocks hP hS dX3_readLaw_138 ⟨w6_13, (v 7), (v 8), (v 9), (v 10), (v 11), (v 12), (v 13), (v 14), (v 15), w16_13, w17_13, 1, (v 19), (v 20), (f 9), (f 10), (f 11), (f 12), (f 13), (f 14), rfl, rfl, rfl, rfl, (by unfold law1; exact oX_semi hOX hP0 hP1 hP2 hP3), (by first | (intro h; rw [if_pos (by omega)]; have := hOX.1; have := hRr (by omega); omega) | (intro h; rw [if_neg (by omega)])), (by intro h; first | (exfalso; omega) | (refine ⟨?_, ?_, ?_⟩ <;> first | rw [if_pos (by omega)] | rw [if_neg (by omega)])), (by first | exact fun h => hRs (by have := hP2; omega) | exact fun h => hd), (fun h => by first | exact ⟨fun _ => hSC.get (by omega), hSK⟩ | exact ⟨fun h9 => absurd h9 (by omega), fun e he => rfl⟩ | (exfalso; omega)), (fun h => by first | exact ⟨fun _ => hE3.get (by omega), fun h9 => absurd (show (tK (f 0) nn pp) = 261 by omega) h9⟩ | exact ⟨fun h9 => absurd h9 (by omega), fun _ => ⟨rfl, rfl, rfl⟩⟩ | (exfalso; omega)), (fun h => by first | exact ⟨fun _ => hKC.get (by omega) (by omega), fun h9 => absurd (show (tK (f 0) nn pp) = 262 by omega) h9⟩ | exact ⟨fun h9 => absurd h9 (by omega), fun _ => ⟨rfl, rfl, rfl⟩⟩ | (exfalso; omega)), (fun h => by first | exact ⟨fun _ => hTC.get (by omega) (by omega), fun h9 => absurd (show (tK (f 0) nn pp) = 263 by omega) h9⟩ | exact ⟨fun h9 => absurd h9 (by omega), fun _ => rfl⟩ | (exfalso; omega))⟩
    · have hL0 : (law0 (f 0) nn pp (v 7) (v 18) (v 19) (v 20)) = (exO (f 0) nn (tX (f 0) nn pp)) := by unfold law0; rw [if_neg (by omega), if_pos (by omega), if_neg (by omega)]
      have hc2 := hG3 (by omega) (by omega) (by omega)
      refine lv_aload_n hx hb dX3_readLaw_64 rfl (lv_at hl 0 rfl) ?_
      refine lv_aload_n hx hb dX3_readLaw_65 rfl (lv_at hl 0 rfl) ?_
      refine rwG_reader_expression C hP mF_X3_28 dX3_readLaw_66 ?_
      refine lv_aload_n hx hb dX3_readLaw_69 rfl (lv_at hl 0 rfl) ?_
      refine rwG_reader_tokens C hP mF_X3_12 dX3_readLaw_70 ?_
      refine lv_aload_n hx hb dX3_readLaw_73 rfl (lv_at hl 0 rfl) ?_
      refine rwG_reader_draft C hP mF_X3_21 dX3_readLaw_74 ?_
      refine g_cv (As := [.ref (ad 10), .ref (ad 14)]) (rest := [.ref (ad 9)]) (n := 2) C hml (e_Ex_read l D k A ad hD (va_up (va_up (va_up (va_up (va_up (va_up (va_up (va_up (va_up (va_up (va_up (va_up (va_up (va_up (va_up v 6 w6_11) 7 (v 7)) 8 (v 8)) 9 (v 9)) 10 (v 10)) 11 (v 11)) 12 (v 12)) 13 (v 13)) 14 (v 14)) 15 (v 15)) 16 w16_10) 17 w17_10) 18 1) 19 (v 19)) 20 (v 20)) (va_up (va_up (va_up (va_up (va_up (va_up f 9 (f 9)) 10 (f 10)) 11 (f 11)) 12 (f 12)) 13 (f 13)) 14 (f 14)) g nn (tX (f 0) nn pp) (show tAt (f 0) nn (f 6) (f 7) (f 8) (v 5) w6_11 (tX (f 0) nn pp) from hc2) (show nn ≤ 700 from by omega)) mM_X3_74 mI_X1_read mE_X1_read mN_X1 mC_X1_read (by decide +kernel) 21 (ci := 1) rfl rfl hP hS (fun _ h => h) ⟨Nat.le_of_ble_eq_true rfl, Nat.le_of_ble_eq_true rfl⟩ ⟨Nat.zero_le _, Nat.zero_le _⟩ hl.1 rfl rfl (Nat.le_of_ble_eq_true rfl) dX3_readLaw_77 (fun r_14 v_14 f_14 g_14 H locs hq_14 hP _ hS => ?_)
      obtain ⟨z_14, w6_14, w8_14, w11_14, w12_14, w13_14, w14_14, w15_14, a14_14, a10_14, a11_14, rfl, rfl, rfl, rfl, p0_14, p1_14, p2_14, p3_14⟩ := hq_14
      show W p l e (gRm 5 112) s m args below meth c _ _ 0 0 Q (F0 m 80 ls [.int (iI z_14), .ref (ad 9)])
      have hP : gWd D (rwT k ad) (va_up (va_up (va_up (va_up (va_up (va_up (va_up (va_up (va_up (va_up (va_up (va_up (va_up (va_up (va_up v 6 w6_14) 7 (v 7)) 8 w8_14) 9 (v 9)) 10 (v 10)) 11 w11_14) 12 w12_14) 13 w13_14) 14 w14_14) 15 w15_14) 16 w16_10) 17 w17_10) 18 1) 19 (v 19)) 20 (v 20)) (va_up (va_up (va_up (va_up (va_up (va_up f 9 (f 9)) 10 a10_14) 11 a11_14) 12 (f 12)) 13 (f 13)) 14 a14_14) g H := ⟨hP.1, (gF_up (V := rwV) (F := rwF) (gF_up (V := rwV) (F := rwF) (gF_up (V := rwV) (F := rwF) (gF_up (V := rwV) (F := rwF) (gF_up (V := rwV) (F := rwF) (gF_up (V := rwV) (F := rwF) (gR_up (V := rwV) (F := rwF) (gR_up (V := rwV) (F := rwF) (gR_up (V := rwV) (F := rwF) (gR_up (V := rwV) (F := rwF) (gR_up (V := rwV) (F := rwF) (gR_up (V := rwV) (F := rwF) (gR_up (V := rwV) (F := rwF) (gR_up (V := rwV) (F := rwF) (gR_up (V := rwV) (F := rwF) (gR_up (V := rwV) (F := rwF) (gR_up (V := rwV) (F := rwF) (gR_up (V := rwV) (F := rwF) (gR_up (V := rwV) (F := rwF) (gR_up (V := rwV) (F := rwF) (gR_up (V := rwV) (F := rwF) ⟨hok.1, hok.2⟩ 6 (hP.2.1 6)) 7 (hP.2.1 7)) 8 (hP.2.1 8)) 9 (hP.2.1 9)) 10 (hP.2.1 10)) 11 (hP.2.1 11)) 12 (hP.2.1 12)) 13 (hP.2.1 13)) 14 (hP.2.1 14)) 15 (hP.2.1 15)) 16 (hP.2.1 16)) 17 (hP.2.1 17)) 18 (hP.2.1 18)) 19 (hP.2.1 19)) 20 (hP.2.1 20)) 9 (hP.2.2 9)) 10 (hP.2.2 10)) 11 (hP.2.2 11)) 12 (hP.2.2 12)) 13 (hP.2.2 13)) 14 (hP.2.2 14))⟩
      replace p0_14 : 0 ≤ z_14 ∧ z_14 ≤ 5 := p0_14
      replace p1_14 : z_14 = (exF (f 0) nn 702 (tX (f 0) nn pp) 0 [] []).1 := p1_14
      replace p2_14 : tAt (f 0) nn (f 6) (f 7) (f 8) (v 5) w6_14 (exF (f 0) nn 702 (tX (f 0) nn pp) 0 [] []).2.1 := p2_14
      replace p3_14 : z_14 = 0 → repC id (exF (f 0) nn 702 (tX (f 0) nn pp) 0 [] []).2.2 a10_14 a11_14 w8_14 := p3_14
      have rw6_14 : 0 ≤ w6_14 ∧ w6_14 ≤ 700 := hP.2.1 6
      have rw8_14 : 0 ≤ w8_14 ∧ w8_14 ≤ 40 := hP.2.1 8
      have rw11_14 : 0 ≤ w11_14 ∧ w11_14 ≤ 27 := hP.2.1 11
      have rw12_14 : 0 ≤ w12_14 ∧ w12_14 ≤ 9 := hP.2.1 12
      have rw13_14 : 0 ≤ w13_14 ∧ w13_14 ≤ 9 := hP.2.1 13
      have rw14_14 : 0 ≤ w14_14 ∧ w14_14 ≤ 41 := hP.2.1 14
      have rw15_14 : 0 ≤ w15_14 ∧ w15_14 ≤ 5 := hP.2.1 15
      have hE1 := p1_14
      have hE2 := p2_14
      have hEx : tAt (f 0) nn (f 6) (f 7) (f 8) (v 5) w6_14 (exO (f 0) nn (tX (f 0) nn pp)).2 := hE2
      have hE3 := Bx.mk p3_14
      clear p3_14
      refine g_cv (As := [.int (iI z_14)]) (rest := []) (n := 1) C hml (e_La_note l D k A ad hD (va_up (va_up (va_up (va_up (va_up (va_up (va_up (va_up (va_up (va_up (va_up (va_up (va_up (va_up (va_up v 6 w6_14) 7 (v 7)) 8 w8_14) 9 (v 9)) 10 (v 10)) 11 w11_14) 12 w12_14) 13 w13_14) 14 w14_14) 15 w15_14) 16 w16_10) 17 w17_10) 18 1) 19 (v 19)) 20 (v 20)) (va_up (va_up (va_up (va_up (va_up (va_up f 9 (f 9)) 10 a10_14) 11 a11_14) 12 (f 12)) 13 (f 13)) 14 a14_14) g z_14 nn (exO (f 0) nn (tX (f 0) nn pp)).2 (by omega) (show tAt (f 0) nn (f 6) (f 7) (f 8) (v 5) w6_14 (exO (f 0) nn (tX (f 0) nn pp)).2 from hEx) (show 0 ≤ z_14 ∧ z_14 ≤ 5 from by omega)) mM_X3_78 mI_X3_note mE_X3_note mN_X3 mC_X3_note (by decide +kernel) 9 (ci := 3) rfl rfl hP hS (fun _ h => h) ⟨Nat.le_of_ble_eq_true rfl, Nat.le_of_ble_eq_true rfl⟩ ⟨Nat.zero_le _, Nat.zero_le _⟩ hl.1 rfl rfl (Nat.le_of_ble_eq_true rfl) dX3_readLaw_80 (fun r_15 v_15 f_15 g_15 H locs hq_15 hP _ hS => ?_)
      obtain ⟨w16_15, w17_15, rfl, rfl, rfl, rfl, p0_15, p1_15, p2_15⟩ := hq_15
      show W p l e (gRm 5 112) s m args below meth c _ _ 0 0 Q (F0 m 83 ls [])
      have hP : gWd D (rwT k ad) (va_up (va_up (va_up (va_up (va_up (va_up (va_up (va_up (va_up (va_up (va_up (va_up (va_up (va_up (va_up v 6 w6_14) 7 (v 7)) 8 w8_14) 9 (v 9)) 10 (v 10)) 11 w11_14) 12 w12_14) 13 w13_14) 14 w14_14) 15 w15_14) 16 w16_15) 17 w17_15) 18 1) 19 (v 19)) 20 (v 20)) (va_up (va_up (va_up (va_up (va_up (va_up f 9 (f 9)) 10 a10_14) 11 a11_14) 12 (f 12)) 13 (f 13)) 14 a14_14) g H := ⟨hP.1, (gF_up (V := rwV) (F := rwF) (gF_up (V := rwV) (F := rwF) (gF_up (V := rwV) (F := rwF) (gF_up (V := rwV) (F := rwF) (gF_up (V := rwV) (F := rwF) (gF_up (V := rwV) (F := rwF) (gR_up (V := rwV) (F := rwF) (gR_up (V := rwV) (F := rwF) (gR_up (V := rwV) (F := rwF) (gR_up (V := rwV) (F := rwF) (gR_up (V := rwV) (F := rwF) (gR_up (V := rwV) (F := rwF) (gR_up (V := rwV) (F := rwF) (gR_up (V := rwV) (F := rwF) (gR_up (V := rwV) (F := rwF) (gR_up (V := rwV) (F := rwF) (gR_up (V := rwV) (F := rwF) (gR_up (V := rwV) (F := rwF) (gR_up (V := rwV) (F := rwF) (gR_up (V := rwV) (F := rwF) (gR_up (V := rwV) (F := rwF) ⟨hok.1, hok.2⟩ 6 (hP.2.1 6)) 7 (hP.2.1 7)) 8 (hP.2.1 8)) 9 (hP.2.1 9)) 10 (hP.2.1 10)) 11 (hP.2.1 11)) 12 (hP.2.1 12)) 13 (hP.2.1 13)) 14 (hP.2.1 14)) 15 (hP.2.1 15)) 16 (hP.2.1 16)) 17 (hP.2.1 17)) 18 (hP.2.1 18)) 19 (hP.2.1 19)) 20 (hP.2.1 20)) 9 (hP.2.2 9)) 10 (hP.2.2 10)) 11 (hP.2.2 11)) 12 (hP.2.2 12)) 13 (hP.2.2 13)) 14 (hP.2.2 14))⟩
      replace p0_15 : w16_10 = 0 → w16_15 = z_14 := p0_15
      replace p1_15 : w16_10 = 0 → z_14 ≠ 0 → w17_15 = (exO (f 0) nn (tX (f 0) nn pp)).2 := p1_15
      replace p2_15 : w16_10 ≠ 0 ∨ z_14 = 0 → w16_15 = w16_10 ∧ w17_15 = w17_10 := p2_15
      have rw16_15 : 0 ≤ w16_15 ∧ w16_15 ≤ 5 := hP.2.1 16
      have rw17_15 : (-1) ≤ w17_15 ∧ w17_15 ≤ 700 := hP.2.1 17
      have hN0 := p0_15
      have hN1 := p1_15
      have hN2 := p2_15
      have hOX : oX (f 0) nn (f 6) (f 7) (f 8) (v 5) (law0 (f 0) nn pp (v 7) (v 18) (v 19) (v 20)) w16_15 w17_15 (v 17) w6_14 := by rw [hL0]; exact ⟨by show _ = (exF (f 0) nn 702 (tX (f 0) nn pp) 0 [] []).1; omega, fun h => by have h : (exF (f 0) nn 702 (tX (f 0) nn pp) 0 [] []).1 = 0 := h; omega, fun h => by have h : (exF (f 0) nn 702 (tX (f 0) nn pp) 0 [] []).1 ≠ 0 := h; exact hN1 (by omega) (by omega), hEx⟩
      refine lv_goto (tgt := 132) hx hb dX3_readLaw_83 (by decide) ?_
      have hOX : oX (f 0) nn (f 6) (f 7) (f 8) (v 5) (law0 (f 0) nn pp (v 7) (v 18) (v 19) (v 20)) w16_15 w17_15 (v 17) w6_14 := by first | exact hOX | exact oX_bad (k := 5) (q := pp) (by unfold law0; rw [if_neg (by omega), if_pos (by omega), if_pos (by omega)]) (by decide) (by omega) (by omega) (tAt_eq hc (by omega))
      refine lv_aload_n hx hb dX3_readLaw_132 rfl (lv_at hl 0 rfl) ?_
      refine lv_bipush (v := iI 59) hx hb dX3_readLaw_133 (by decide) ?_
      refine g_cv (As := [.int (iI 59)]) (rest := []) (n := 1) C hml (e_La_pass l D k A ad hD (va_up (va_up (va_up (va_up (va_up (va_up (va_up (va_up (va_up (va_up (va_up (va_up (va_up (va_up (va_up v 6 w6_14) 7 (v 7)) 8 w8_14) 9 (v 9)) 10 (v 10)) 11 w11_14) 12 w12_14) 13 w13_14) 14 w14_14) 15 w15_14) 16 w16_15) 17 w17_15) 18 1) 19 (v 19)) 20 (v 20)) (va_up (va_up (va_up (va_up (va_up (va_up f 9 (f 9)) 10 a10_14) 11 a11_14) 12 (f 12)) 13 (f 13)) 14 a14_14) g 59 nn (law0 (f 0) nn pp (v 7) (v 18) (v 19) (v 20)).2 (by decide) (show tAt (f 0) nn (f 6) (f 7) (f 8) (v 5) w6_14 (law0 (f 0) nn pp (v 7) (v 18) (v 19) (v 20)).2 from hOX.2.2.2) (show (59 : Int) ≠ 256 ∧ (59 : Int) ≠ 257 from by omega)) mM_X3_91 mI_X3_pass mE_X3_pass mN_X3 mC_X3_pass (by decide +kernel) 9 (ci := 3) rfl rfl hP hS (fun _ h => h) ⟨Nat.le_of_ble_eq_true rfl, Nat.le_of_ble_eq_true rfl⟩ ⟨Nat.zero_le _, Nat.zero_le _⟩ hl.1 rfl rfl (Nat.le_of_ble_eq_true rfl) dX3_readLaw_135 (fun r_16 v_16 f_16 g_16 H locs hq_16 hP _ hS => ?_)
      obtain ⟨w6_16, w16_16, w17_16, rfl, rfl, rfl, rfl, p0_16, p1_16, p2_16, p3_16⟩ := hq_16
      show W p l e (gRm 5 112) s m args below meth c _ _ 0 0 Q (F0 m 138 ls [])
      have hP : gWd D (rwT k ad) (va_up (va_up (va_up (va_up (va_up (va_up (va_up (va_up (va_up (va_up (va_up (va_up (va_up (va_up (va_up v 6 w6_16) 7 (v 7)) 8 w8_14) 9 (v 9)) 10 (v 10)) 11 w11_14) 12 w12_14) 13 w13_14) 14 w14_14) 15 w15_14) 16 w16_16) 17 w17_16) 18 1) 19 (v 19)) 20 (v 20)) (va_up (va_up (va_up (va_up (va_up (va_up f 9 (f 9)) 10 a10_14) 11 a11_14) 12 (f 12)) 13 (f 13)) 14 a14_14) g H := ⟨hP.1, (gF_up (V := rwV) (F := rwF) (gF_up (V := rwV) (F := rwF) (gF_up (V := rwV) (F := rwF) (gF_up (V := rwV) (F := rwF) (gF_up (V := rwV) (F := rwF) (gF_up (V := rwV) (F := rwF) (gR_up (V := rwV) (F := rwF) (gR_up (V := rwV) (F := rwF) (gR_up (V := rwV) (F := rwF) (gR_up (V := rwV) (F := rwF) (gR_up (V := rwV) (F := rwF) (gR_up (V := rwV) (F := rwF) (gR_up (V := rwV) (F := rwF) (gR_up (V := rwV) (F := rwF) (gR_up (V := rwV) (F := rwF) (gR_up (V := rwV) (F := rwF) (gR_up (V := rwV) (F := rwF) (gR_up (V := rwV) (F := rwF) (gR_up (V := rwV) (F := rwF) (gR_up (V := rwV) (F := rwF) (gR_up (V := rwV) (F := rwF) ⟨hok.1, hok.2⟩ 6 (hP.2.1 6)) 7 (hP.2.1 7)) 8 (hP.2.1 8)) 9 (hP.2.1 9)) 10 (hP.2.1 10)) 11 (hP.2.1 11)) 12 (hP.2.1 12)) 13 (hP.2.1 13)) 14 (hP.2.1 14)) 15 (hP.2.1 15)) 16 (hP.2.1 16)) 17 (hP.2.1 17)) 18 (hP.2.1 18)) 19 (hP.2.1 19)) 20 (hP.2.1 20)) 9 (hP.2.2 9)) 10 (hP.2.2 10)) 11 (hP.2.2 11)) 12 (hP.2.2 12)) 13 (hP.2.2 13)) 14 (hP.2.2 14))⟩
      replace p0_16 : w16_15 = 0 → (tK (f 0) nn (law0 (f 0) nn pp (v 7) (v 18) (v 19) (v 20)).2) = (59 : Int) → w16_16 = 0 ∧ w17_16 = w17_15 := p0_16
      replace p1_16 : w16_15 = 0 → (tK (f 0) nn (law0 (f 0) nn pp (v 7) (v 18) (v 19) (v 20)).2) ≠ (59 : Int) → w16_16 = (fk (f 0) nn (law0 (f 0) nn pp (v 7) (v 18) (v 19) (v 20)).2) ∧ w17_16 = (law0 (f 0) nn pp (v 7) (v 18) (v 19) (v 20)).2 ∧ w6_16 = w6_14 := p1_16
      replace p2_16 : w16_15 ≠ 0 → w16_16 = w16_15 ∧ w17_16 = w17_15 ∧ w6_16 = w6_14 := p2_16
      replace p3_16 : w16_15 = 0 → (tK (f 0) nn (law0 (f 0) nn pp (v 7) (v 18) (v 19) (v 20)).2) = (59 : Int) → tAt (f 0) nn (f 6) (f 7) (f 8) (v 5) w6_16 (tX (f 0) nn (law0 (f 0) nn pp (v 7) (v 18) (v 19) (v 20)).2) := p3_16
      have rw6_16 : 0 ≤ w6_16 ∧ w6_16 ≤ 700 := hP.2.1 6
      have rw16_16 : 0 ≤ w16_16 ∧ w16_16 ≤ 5 := hP.2.1 16
      have rw17_16 : (-1) ≤ w17_16 ∧ w17_16 ≤ 700 := hP.2.1 17
      have hP0 := p0_16
      have hP1 := p1_16
      have hP2 := p2_16
      have hP3 := p3_16
      exact g_vret hQ C hr hlocks hP hS dX3_readLaw_138 ⟨w6_16, (v 7), w8_14, (v 9), (v 10), w11_14, w12_14, w13_14, w14_14, w15_14, w16_16, w17_16, 1, (v 19), (v 20), (f 9), a10_14, a11_14, (f 12), (f 13), a14_14, rfl, rfl, rfl, rfl, (by unfold law1; exact oX_semi hOX hP0 hP1 hP2 hP3), (by first | (intro h; rw [if_pos (by omega)]; have := hOX.1; have := hRr (by omega); omega) | (intro h; rw [if_neg (by omega)])), (by intro h; first | (exfalso; omega) | (refine ⟨?_, ?_, ?_⟩ <;> first | rw [if_pos (by omega)] | rw [if_neg (by omega)])), (by first | exact fun h => hRs (by have := hP2; omega) | exact fun h => hd), (fun h => by first | exact ⟨fun _ => hSC.get (by omega), hSK⟩ | exact ⟨fun h9 => absurd h9 (by omega), fun e he => rfl⟩ | (exfalso; omega)), (fun h => by first | exact ⟨fun _ => hE3.get (by omega), fun h9 => absurd (show (tK (f 0) nn pp) = 261 by omega) h9⟩ | exact ⟨fun h9 => absurd h9 (by omega), fun _ => ⟨rfl, rfl, rfl⟩⟩ | (exfalso; omega)), (fun h => by first | exact ⟨fun _ => hKC.get (by omega) (by omega), fun h9 => absurd (show (tK (f 0) nn pp) = 262 by omega) h9⟩ | exact ⟨fun h9 => absurd h9 (by omega), fun _ => ⟨rfl, rfl, rfl⟩⟩ | (exfalso; omega)), (fun h => by first | exact ⟨fun _ => hTC.get (by omega) (by omega), fun h9 => absurd (show (tK (f 0) nn pp) = 263 by omega) h9⟩ | exact ⟨fun h9 => absurd h9 (by omega), fun _ => rfl⟩ | (exfalso; omega))⟩
  by_cases c_7_262 : z_6 = 262
  · refine lv_tableIn (off := 79) (tgt := 86) hx hb dX3_readLaw_7 (by rw [c_7_262]; decide) (by rw [c_7_262]; decide) (by rw [c_7_262]; rfl) (by decide) ?_
    refine lv_aload_n hx hb dX3_readLaw_86 rfl (lv_at hl 0 rfl) ?_
    refine lv_aload_n hx hb dX3_readLaw_87 rfl (lv_at hl 0 rfl) ?_
    refine rwG_reader_keysTold C hP mF_X3_43 dX3_readLaw_88 ?_
    show W p l e (gRm 5 112) s m args below meth c _ _ 0 0 Q (F0 m 91 ls [.int (iI (v 19)), .ref (ad 9)])
    refine lv_iconst (v := iI 5) hx hb dX3_readLaw_91 rfl ?_
    refine g_cv (As := [.int (iI (v 19)), .int (iI 5)]) (rest := []) (n := 2) C hml (e_La_refuseIf l D k A ad hD (va_up (va_up (va_up (va_up (va_up (va_up (va_up (va_up (va_up (va_up (va_up (va_up (va_up (va_up (va_up v 6 (v 6)) 7 (v 7)) 8 (v 8)) 9 (v 9)) 10 (v 10)) 11 (v 11)) 12 (v 12)) 13 (v 13)) 14 (v 14)) 15 (v 15)) 16 (v 16)) 17 (v 17)) 18 (v 18)) 19 (v 19)) 20 (v 20)) (va_up (va_up (va_up (va_up (va_up (va_up f 9 (f 9)) 10 (f 10)) 11 (f 11)) 12 (f 12)) 13 (f 13)) 14 (f 14)) g (v 19) 5 nn pp (by omega) (by decide) (show tAt (f 0) nn (f 6) (f 7) (f 8) (v 5) (v 6) pp from hc) (show 1 ≤ (5 : Int) ∧ (5 : Int) ≤ 5 from by omega)) mM_X3_66 mI_X3_refuseIf mE_X3_refuseIf mN_X3 mC_X3_refuseIf (by decide +kernel) 9 (ci := 3) rfl rfl hP hS (fun _ h => h) ⟨Nat.le_of_ble_eq_true rfl, Nat.le_of_ble_eq_true rfl⟩ ⟨Nat.zero_le _, Nat.zero_le _⟩ hl.1 rfl rfl (Nat.le_of_ble_eq_true rfl) dX3_readLaw_92 (fun r_17 v_17 f_17 g_17 H locs hq_17 hP _ hS => ?_)
    obtain ⟨w16_17, w17_17, rfl, rfl, rfl, rfl, p0_17, p1_17⟩ := hq_17
    show W p l e (gRm 5 112) s m args below meth c _ _ 0 0 Q (F0 m 95 ls [])
    have hP : gWd D (rwT k ad) (va_up (va_up (va_up (va_up (va_up (va_up (va_up (va_up (va_up (va_up (va_up (va_up (va_up (va_up (va_up v 6 (v 6)) 7 (v 7)) 8 (v 8)) 9 (v 9)) 10 (v 10)) 11 (v 11)) 12 (v 12)) 13 (v 13)) 14 (v 14)) 15 (v 15)) 16 w16_17) 17 w17_17) 18 (v 18)) 19 (v 19)) 20 (v 20)) (va_up (va_up (va_up (va_up (va_up (va_up f 9 (f 9)) 10 (f 10)) 11 (f 11)) 12 (f 12)) 13 (f 13)) 14 (f 14)) g H := ⟨hP.1, (gF_up (V := rwV) (F := rwF) (gF_up (V := rwV) (F := rwF) (gF_up (V := rwV) (F := rwF) (gF_up (V := rwV) (F := rwF) (gF_up (V := rwV) (F := rwF) (gF_up (V := rwV) (F := rwF) (gR_up (V := rwV) (F := rwF) (gR_up (V := rwV) (F := rwF) (gR_up (V := rwV) (F := rwF) (gR_up (V := rwV) (F := rwF) (gR_up (V := rwV) (F := rwF) (gR_up (V := rwV) (F := rwF) (gR_up (V := rwV) (F := rwF) (gR_up (V := rwV) (F := rwF) (gR_up (V := rwV) (F := rwF) (gR_up (V := rwV) (F := rwF) (gR_up (V := rwV) (F := rwF) (gR_up (V := rwV) (F := rwF) (gR_up (V := rwV) (F := rwF) (gR_up (V := rwV) (F := rwF) (gR_up (V := rwV) (F := rwF) ⟨hok.1, hok.2⟩ 6 (hP.2.1 6)) 7 (hP.2.1 7)) 8 (hP.2.1 8)) 9 (hP.2.1 9)) 10 (hP.2.1 10)) 11 (hP.2.1 11)) 12 (hP.2.1 12)) 13 (hP.2.1 13)) 14 (hP.2.1 14)) 15 (hP.2.1 15)) 16 (hP.2.1 16)) 17 (hP.2.1 17)) 18 (hP.2.1 18)) 19 (hP.2.1 19)) 20 (hP.2.1 20)) 9 (hP.2.2 9)) 10 (hP.2.2 10)) 11 (hP.2.2 11)) 12 (hP.2.2 12)) 13 (hP.2.2 13)) 14 (hP.2.2 14))⟩
    replace p0_17 : (v 19) = 0 ∨ (v 16) ≠ 0 → w16_17 = (v 16) ∧ w17_17 = (v 17) := p0_17
    replace p1_17 : (v 19) ≠ 0 → (v 16) = 0 → w16_17 = (5 : Int) ∧ w17_17 = pp := p1_17
    have rw16_17 : 0 ≤ w16_17 ∧ w16_17 ≤ 5 := hP.2.1 16
    have rw17_17 : (-1) ≤ w17_17 ∧ w17_17 ≤ 700 := hP.2.1 17
    refine lv_aload_n hx hb dX3_readLaw_95 rfl (lv_at hl 0 rfl) ?_
    refine lv_iconst (v := iI 1) hx hb dX3_readLaw_96 rfl ?_
    refine rwP_reader_keysTold (v1 := (va_up (va_up (va_up (va_up (va_up (va_up (va_up (va_up (va_up (va_up (va_up (va_up (va_up (va_up (va_up v 6 (v 6)) 7 (v 7)) 8 (v 8)) 9 (v 9)) 10 (v 10)) 11 (v 11)) 12 (v 12)) 13 (v 13)) 14 (v 14)) 15 (v 15)) 16 w16_17) 17 w17_17) 18 (v 18)) 19 1) 20 (v 20))) C hP hD hS mF_X3_43 (by decide) (by decide) rfl (Or.inr (gF_up (V := rwV) (F := rwF) (gF_up (V := rwV) (F := rwF) (gF_up (V := rwV) (F := rwF) (gF_up (V := rwV) (F := rwF) (gF_up (V := rwV) (F := rwF) (gF_up (V := rwV) (F := rwF) (gR_up (V := rwV) (F := rwF) (gR_up (V := rwV) (F := rwF) (gR_up (V := rwV) (F := rwF) (gR_up (V := rwV) (F := rwF) (gR_up (V := rwV) (F := rwF) (gR_up (V := rwV) (F := rwF) (gR_up (V := rwV) (F := rwF) (gR_up (V := rwV) (F := rwF) (gR_up (V := rwV) (F := rwF) (gR_up (V := rwV) (F := rwF) (gR_up (V := rwV) (F := rwF) (gR_up (V := rwV) (F := rwF) (gR_up (V := rwV) (F := rwF) (gR_up (V := rwV) (F := rwF) (gR_up (V := rwV) (F := rwF) ⟨hok.1, hok.2⟩ 6 (hP.2.1 6)) 7 (hP.2.1 7)) 8 (hP.2.1 8)) 9 (hP.2.1 9)) 10 (hP.2.1 10)) 11 (hP.2.1 11)) 12 (hP.2.1 12)) 13 (hP.2.1 13)) 14 (hP.2.1 14)) 15 (hP.2.1 15)) 16 (hP.2.1 16)) 17 (hP.2.1 17)) 18 (hP.2.1 18)) 19 (show 0 ≤ 1 ∧ 1 ≤ 1 from by decide)) 20 (hP.2.1 20)) 9 (hP.2.2 9)) 10 (hP.2.2 10)) 11 (hP.2.2 11)) 12 (hP.2.2 12)) 13 (hP.2.2 13)) 14 (hP.2.2 14))) dX3_readLaw_97 (fun H locs hP hS => ?_)
    refine lv_aload_n hx hb dX3_readLaw_100 rfl (lv_at hl 0 rfl) ?_
    refine g_cv (As := []) (rest := []) (n := 0) C hml (q_e_La_readKeys l D k A ad hD (va_up (va_up (va_up (va_up (va_up (va_up (va_up (va_up (va_up (va_up (va_up (va_up (va_up (va_up (va_up v 6 (v 6)) 7 (v 7)) 8 (v 8)) 9 (v 9)) 10 (v 10)) 11 (v 11)) 12 (v 12)) 13 (v 13)) 14 (v 14)) 15 (v 15)) 16 w16_17) 17 w17_17) 18 (v 18)) 19 1) 20 (v 20)) (va_up (va_up (va_up (va_up (va_up (va_up f 9 (f 9)) 10 (f 10)) 11 (f 11)) 12 (f 12)) 13 (f 13)) 14 (f 14)) g nn pp (show tAt (f 0) nn (f 6) (f 7) (f 8) (v 5) (v 6) pp from hc) (show (tK (f 0) nn pp) ≠ 256 ∧ (tK (f 0) nn pp) ≠ 257 from by omega)) mM_X3_82 mI_X3_readKeys mE_X3_readKeys mN_X3 mC_X3_readKeys (by decide +kernel) 9 (ci := 3) rfl rfl hP hS (fun _ h => h) ⟨Nat.le_of_ble_eq_true rfl, Nat.le_of_ble_eq_true rfl⟩ ⟨Nat.zero_le _, Nat.zero_le _⟩ hl.1 rfl rfl (Nat.le_of_ble_eq_true rfl) dX3_readLaw_101 (fun r_18 v_18 f_18 g_18 H locs hq_18 hP _ hS => ?_)
    obtain ⟨w6_18, w9_18, w16_18, w17_18, a12_18, a13_18, rfl, rfl, rfl, rfl, p0_18, p1_18, p2_18⟩ := hq_18
    show W p l e (gRm 5 112) s m args below meth c _ _ 0 0 Q (F0 m 104 ls [])
    have hP : gWd D (rwT k ad) (va_up (va_up (va_up (va_up (va_up (va_up (va_up (va_up (va_up (va_up (va_up (va_up (va_up (va_up (va_up v 6 w6_18) 7 (v 7)) 8 (v 8)) 9 w9_18) 10 (v 10)) 11 (v 11)) 12 (v 12)) 13 (v 13)) 14 (v 14)) 15 (v 15)) 16 w16_18) 17 w17_18) 18 (v 18)) 19 1) 20 (v 20)) (va_up (va_up (va_up (va_up (va_up (va_up f 9 (f 9)) 10 (f 10)) 11 (f 11)) 12 a12_18) 13 a13_18) 14 (f 14)) g H := ⟨hP.1, (gF_up (V := rwV) (F := rwF) (gF_up (V := rwV) (F := rwF) (gF_up (V := rwV) (F := rwF) (gF_up (V := rwV) (F := rwF) (gF_up (V := rwV) (F := rwF) (gF_up (V := rwV) (F := rwF) (gR_up (V := rwV) (F := rwF) (gR_up (V := rwV) (F := rwF) (gR_up (V := rwV) (F := rwF) (gR_up (V := rwV) (F := rwF) (gR_up (V := rwV) (F := rwF) (gR_up (V := rwV) (F := rwF) (gR_up (V := rwV) (F := rwF) (gR_up (V := rwV) (F := rwF) (gR_up (V := rwV) (F := rwF) (gR_up (V := rwV) (F := rwF) (gR_up (V := rwV) (F := rwF) (gR_up (V := rwV) (F := rwF) (gR_up (V := rwV) (F := rwF) (gR_up (V := rwV) (F := rwF) (gR_up (V := rwV) (F := rwF) ⟨hok.1, hok.2⟩ 6 (hP.2.1 6)) 7 (hP.2.1 7)) 8 (hP.2.1 8)) 9 (hP.2.1 9)) 10 (hP.2.1 10)) 11 (hP.2.1 11)) 12 (hP.2.1 12)) 13 (hP.2.1 13)) 14 (hP.2.1 14)) 15 (hP.2.1 15)) 16 (hP.2.1 16)) 17 (hP.2.1 17)) 18 (hP.2.1 18)) 19 (hP.2.1 19)) 20 (hP.2.1 20)) 9 (hP.2.2 9)) 10 (hP.2.2 10)) 11 (hP.2.2 11)) 12 (hP.2.2 12)) 13 (hP.2.2 13)) 14 (hP.2.2 14))⟩
    replace p0_18 : w16_17 = 0 → oX (f 0) nn (f 6) (f 7) (f 8) (v 5) (kys (f 0) nn 4 (tX (f 0) nn pp)) w16_18 w17_18 w17_17 w6_18 := p0_18
    replace p1_18 : w16_17 ≠ 0 → w16_18 = w16_17 ∧ w17_18 = w17_17 ∧ w6_18 = (v 6) := p1_18
    replace p2_18 : w16_17 = 0 → w16_18 = 0 → w9_18 = kyN (f 0) nn 4 (tX (f 0) nn pp) ∧ kyC (f 0) nn (tX (f 0) nn pp) a12_18 a13_18 w9_18 := p2_18
    have rw6_18 : 0 ≤ w6_18 ∧ w6_18 ≤ 700 := hP.2.1 6
    have rw9_18 : 0 ≤ w9_18 ∧ w9_18 ≤ 4 := hP.2.1 9
    have rw16_18 : 0 ≤ w16_18 ∧ w16_18 ≤ 5 := hP.2.1 16
    have rw17_18 : (-1) ≤ w17_18 ∧ w17_18 ≤ 700 := hP.2.1 17
    have hQ0 := p0_18
    have hQ1 := p1_18
    have hOX : oX (f 0) nn (f 6) (f 7) (f 8) (v 5) (law0 (f 0) nn pp (v 7) (v 18) (v 19) (v 20)) w16_18 w17_18 (v 17) w6_18 := (if ht : (v 19) = 0 then (by rw [show (law0 (f 0) nn pp (v 7) (v 18) (v 19) (v 20)) = (kys (f 0) nn 4 (tX (f 0) nn pp)) by unfold law0; rw [if_neg (by omega), if_neg (by omega), if_pos (by omega), if_neg (by omega)]]; have q := hQ0 (by omega); exact ⟨q.1, fun h => by have := q.2.1 h; omega, q.2.2.1, q.2.2.2⟩) else oX_bad (k := 5) (q := pp) (by unfold law0; rw [if_neg (by omega), if_neg (by omega), if_pos (by omega), if_pos (by omega)]) (by decide) (by omega) (by omega) (tAt_eq hc (by omega)))
    have hKC := Bx.mk p2_18
    clear p2_18
    refine lv_goto (tgt := 132) hx hb dX3_readLaw_104 (by decide) ?_
    have hOX : oX (f 0) nn (f 6) (f 7) (f 8) (v 5) (law0 (f 0) nn pp (v 7) (v 18) (v 19) (v 20)) w16_18 w17_18 (v 17) w6_18 := by first | exact hOX | exact oX_bad (k := 5) (q := pp) (by unfold law0; rw [if_neg (by omega), if_pos (by omega), if_pos (by omega)]) (by decide) (by omega) (by omega) (tAt_eq hc (by omega))
    refine lv_aload_n hx hb dX3_readLaw_132 rfl (lv_at hl 0 rfl) ?_
    refine lv_bipush (v := iI 59) hx hb dX3_readLaw_133 (by decide) ?_
    refine g_cv (As := [.int (iI 59)]) (rest := []) (n := 1) C hml (e_La_pass l D k A ad hD (va_up (va_up (va_up (va_up (va_up (va_up (va_up (va_up (va_up (va_up (va_up (va_up (va_up (va_up (va_up v 6 w6_18) 7 (v 7)) 8 (v 8)) 9 w9_18) 10 (v 10)) 11 (v 11)) 12 (v 12)) 13 (v 13)) 14 (v 14)) 15 (v 15)) 16 w16_18) 17 w17_18) 18 (v 18)) 19 1) 20 (v 20)) (va_up (va_up (va_up (va_up (va_up (va_up f 9 (f 9)) 10 (f 10)) 11 (f 11)) 12 a12_18) 13 a13_18) 14 (f 14)) g 59 nn (law0 (f 0) nn pp (v 7) (v 18) (v 19) (v 20)).2 (by decide) (show tAt (f 0) nn (f 6) (f 7) (f 8) (v 5) w6_18 (law0 (f 0) nn pp (v 7) (v 18) (v 19) (v 20)).2 from hOX.2.2.2) (show (59 : Int) ≠ 256 ∧ (59 : Int) ≠ 257 from by omega)) mM_X3_91 mI_X3_pass mE_X3_pass mN_X3 mC_X3_pass (by decide +kernel) 9 (ci := 3) rfl rfl hP hS (fun _ h => h) ⟨Nat.le_of_ble_eq_true rfl, Nat.le_of_ble_eq_true rfl⟩ ⟨Nat.zero_le _, Nat.zero_le _⟩ hl.1 rfl rfl (Nat.le_of_ble_eq_true rfl) dX3_readLaw_135 (fun r_19 v_19 f_19 g_19 H locs hq_19 hP _ hS => ?_)
    obtain ⟨w6_19, w16_19, w17_19, rfl, rfl, rfl, rfl, p0_19, p1_19, p2_19, p3_19⟩ := hq_19
    show W p l e (gRm 5 112) s m args below meth c _ _ 0 0 Q (F0 m 138 ls [])
    have hP : gWd D (rwT k ad) (va_up (va_up (va_up (va_up (va_up (va_up (va_up (va_up (va_up (va_up (va_up (va_up (va_up (va_up (va_up v 6 w6_19) 7 (v 7)) 8 (v 8)) 9 w9_18) 10 (v 10)) 11 (v 11)) 12 (v 12)) 13 (v 13)) 14 (v 14)) 15 (v 15)) 16 w16_19) 17 w17_19) 18 (v 18)) 19 1) 20 (v 20)) (va_up (va_up (va_up (va_up (va_up (va_up f 9 (f 9)) 10 (f 10)) 11 (f 11)) 12 a12_18) 13 a13_18) 14 (f 14)) g H := ⟨hP.1, (gF_up (V := rwV) (F := rwF) (gF_up (V := rwV) (F := rwF) (gF_up (V := rwV) (F := rwF) (gF_up (V := rwV) (F := rwF) (gF_up (V := rwV) (F := rwF) (gF_up (V := rwV) (F := rwF) (gR_up (V := rwV) (F := rwF) (gR_up (V := rwV) (F := rwF) (gR_up (V := rwV) (F := rwF) (gR_up (V := rwV) (F := rwF) (gR_up (V := rwV) (F := rwF) (gR_up (V := rwV) (F := rwF) (gR_up (V := rwV) (F := rwF) (gR_up (V := rwV) (F := rwF) (gR_up (V := rwV) (F := rwF) (gR_up (V := rwV) (F := rwF) (gR_up (V := rwV) (F := rwF) (gR_up (V := rwV) (F := rwF) (gR_up (V := rwV) (F := rwF) (gR_up (V := rwV) (F := rwF) (gR_up (V := rwV) (F := rwF) ⟨hok.1, hok.2⟩ 6 (hP.2.1 6)) 7 (hP.2.1 7)) 8 (hP.2.1 8)) 9 (hP.2.1 9)) 10 (hP.2.1 10)) 11 (hP.2.1 11)) 12 (hP.2.1 12)) 13 (hP.2.1 13)) 14 (hP.2.1 14)) 15 (hP.2.1 15)) 16 (hP.2.1 16)) 17 (hP.2.1 17)) 18 (hP.2.1 18)) 19 (hP.2.1 19)) 20 (hP.2.1 20)) 9 (hP.2.2 9)) 10 (hP.2.2 10)) 11 (hP.2.2 11)) 12 (hP.2.2 12)) 13 (hP.2.2 13)) 14 (hP.2.2 14))⟩
    replace p0_19 : w16_18 = 0 → (tK (f 0) nn (law0 (f 0) nn pp (v 7) (v 18) (v 19) (v 20)).2) = (59 : Int) → w16_19 = 0 ∧ w17_19 = w17_18 := p0_19
    replace p1_19 : w16_18 = 0 → (tK (f 0) nn (law0 (f 0) nn pp (v 7) (v 18) (v 19) (v 20)).2) ≠ (59 : Int) → w16_19 = (fk (f 0) nn (law0 (f 0) nn pp (v 7) (v 18) (v 19) (v 20)).2) ∧ w17_19 = (law0 (f 0) nn pp (v 7) (v 18) (v 19) (v 20)).2 ∧ w6_19 = w6_18 := p1_19
    replace p2_19 : w16_18 ≠ 0 → w16_19 = w16_18 ∧ w17_19 = w17_18 ∧ w6_19 = w6_18 := p2_19
    replace p3_19 : w16_18 = 0 → (tK (f 0) nn (law0 (f 0) nn pp (v 7) (v 18) (v 19) (v 20)).2) = (59 : Int) → tAt (f 0) nn (f 6) (f 7) (f 8) (v 5) w6_19 (tX (f 0) nn (law0 (f 0) nn pp (v 7) (v 18) (v 19) (v 20)).2) := p3_19
    have rw6_19 : 0 ≤ w6_19 ∧ w6_19 ≤ 700 := hP.2.1 6
    have rw16_19 : 0 ≤ w16_19 ∧ w16_19 ≤ 5 := hP.2.1 16
    have rw17_19 : (-1) ≤ w17_19 ∧ w17_19 ≤ 700 := hP.2.1 17
    have hP0 := p0_19
    have hP1 := p1_19
    have hP2 := p2_19
    have hP3 := p3_19
    exact g_vret hQ C hr hlocks hP hS dX3_readLaw_138 ⟨w6_19, (v 7), (v 8), w9_18, (v 10), (v 11), (v 12), (v 13), (v 14), (v 15), w16_19, w17_19, (v 18), 1, (v 20), (f 9), (f 10), (f 11), a12_18, a13_18, (f 14), rfl, rfl, rfl, rfl, (by unfold law1; exact oX_semi hOX hP0 hP1 hP2 hP3), (by first | (intro h; rw [if_pos (by omega)]; have := hOX.1; have := hRr (by omega); omega) | (intro h; rw [if_neg (by omega)])), (by intro h; first | (exfalso; omega) | (refine ⟨?_, ?_, ?_⟩ <;> first | rw [if_pos (by omega)] | rw [if_neg (by omega)])), (by first | exact fun h => hRs (by have := hP2; omega) | exact fun h => hd), (fun h => by first | exact ⟨fun _ => hSC.get (by omega), hSK⟩ | exact ⟨fun h9 => absurd h9 (by omega), fun e he => rfl⟩ | (exfalso; omega)), (fun h => by first | exact ⟨fun _ => hE3.get (by omega), fun h9 => absurd (show (tK (f 0) nn pp) = 261 by omega) h9⟩ | exact ⟨fun h9 => absurd h9 (by omega), fun _ => ⟨rfl, rfl, rfl⟩⟩ | (exfalso; omega)), (fun h => by first | exact ⟨fun _ => hKC.get (by omega) (by omega), fun h9 => absurd (show (tK (f 0) nn pp) = 262 by omega) h9⟩ | exact ⟨fun h9 => absurd h9 (by omega), fun _ => ⟨rfl, rfl, rfl⟩⟩ | (exfalso; omega)), (fun h => by first | exact ⟨fun _ => hTC.get (by omega) (by omega), fun h9 => absurd (show (tK (f 0) nn pp) = 263 by omega) h9⟩ | exact ⟨fun h9 => absurd h9 (by omega), fun _ => rfl⟩ | (exfalso; omega))⟩
  by_cases c_7_263 : z_6 = 263
  · refine lv_tableIn (off := 100) (tgt := 107) hx hb dX3_readLaw_7 (by rw [c_7_263]; decide) (by rw [c_7_263]; decide) (by rw [c_7_263]; rfl) (by decide) ?_
    refine lv_aload_n hx hb dX3_readLaw_107 rfl (lv_at hl 0 rfl) ?_
    refine lv_aload_n hx hb dX3_readLaw_108 rfl (lv_at hl 0 rfl) ?_
    refine rwG_reader_tiesTold C hP mF_X3_46 dX3_readLaw_109 ?_
    show W p l e (gRm 5 112) s m args below meth c _ _ 0 0 Q (F0 m 112 ls [.int (iI (v 20)), .ref (ad 9)])
    refine lv_iconst (v := iI 5) hx hb dX3_readLaw_112 rfl ?_
    refine g_cv (As := [.int (iI (v 20)), .int (iI 5)]) (rest := []) (n := 2) C hml (e_La_refuseIf l D k A ad hD (va_up (va_up (va_up (va_up (va_up (va_up (va_up (va_up (va_up (va_up (va_up (va_up (va_up (va_up (va_up v 6 (v 6)) 7 (v 7)) 8 (v 8)) 9 (v 9)) 10 (v 10)) 11 (v 11)) 12 (v 12)) 13 (v 13)) 14 (v 14)) 15 (v 15)) 16 (v 16)) 17 (v 17)) 18 (v 18)) 19 (v 19)) 20 (v 20)) (va_up (va_up (va_up (va_up (va_up (va_up f 9 (f 9)) 10 (f 10)) 11 (f 11)) 12 (f 12)) 13 (f 13)) 14 (f 14)) g (v 20) 5 nn pp (by omega) (by decide) (show tAt (f 0) nn (f 6) (f 7) (f 8) (v 5) (v 6) pp from hc) (show 1 ≤ (5 : Int) ∧ (5 : Int) ≤ 5 from by omega)) mM_X3_66 mI_X3_refuseIf mE_X3_refuseIf mN_X3 mC_X3_refuseIf (by decide +kernel) 9 (ci := 3) rfl rfl hP hS (fun _ h => h) ⟨Nat.le_of_ble_eq_true rfl, Nat.le_of_ble_eq_true rfl⟩ ⟨Nat.zero_le _, Nat.zero_le _⟩ hl.1 rfl rfl (Nat.le_of_ble_eq_true rfl) dX3_readLaw_113 (fun r_20 v_20 f_20 g_20 H locs hq_20 hP _ hS => ?_)
    obtain ⟨w16_20, w17_20, rfl, rfl, rfl, rfl, p0_20, p1_20⟩ := hq_20
    show W p l e (gRm 5 112) s m args below meth c _ _ 0 0 Q (F0 m 116 ls [])
    have hP : gWd D (rwT k ad) (va_up (va_up (va_up (va_up (va_up (va_up (va_up (va_up (va_up (va_up (va_up (va_up (va_up (va_up (va_up v 6 (v 6)) 7 (v 7)) 8 (v 8)) 9 (v 9)) 10 (v 10)) 11 (v 11)) 12 (v 12)) 13 (v 13)) 14 (v 14)) 15 (v 15)) 16 w16_20) 17 w17_20) 18 (v 18)) 19 (v 19)) 20 (v 20)) (va_up (va_up (va_up (va_up (va_up (va_up f 9 (f 9)) 10 (f 10)) 11 (f 11)) 12 (f 12)) 13 (f 13)) 14 (f 14)) g H := ⟨hP.1, (gF_up (V := rwV) (F := rwF) (gF_up (V := rwV) (F := rwF) (gF_up (V := rwV) (F := rwF) (gF_up (V := rwV) (F := rwF) (gF_up (V := rwV) (F := rwF) (gF_up (V := rwV) (F := rwF) (gR_up (V := rwV) (F := rwF) (gR_up (V := rwV) (F := rwF) (gR_up (V := rwV) (F := rwF) (gR_up (V := rwV) (F := rwF) (gR_up (V := rwV) (F := rwF) (gR_up (V := rwV) (F := rwF) (gR_up (V := rwV) (F := rwF) (gR_up (V := rwV) (F := rwF) (gR_up (V := rwV) (F := rwF) (gR_up (V := rwV) (F := rwF) (gR_up (V := rwV) (F := rwF) (gR_up (V := rwV) (F := rwF) (gR_up (V := rwV) (F := rwF) (gR_up (V := rwV) (F := rwF) (gR_up (V := rwV) (F := rwF) ⟨hok.1, hok.2⟩ 6 (hP.2.1 6)) 7 (hP.2.1 7)) 8 (hP.2.1 8)) 9 (hP.2.1 9)) 10 (hP.2.1 10)) 11 (hP.2.1 11)) 12 (hP.2.1 12)) 13 (hP.2.1 13)) 14 (hP.2.1 14)) 15 (hP.2.1 15)) 16 (hP.2.1 16)) 17 (hP.2.1 17)) 18 (hP.2.1 18)) 19 (hP.2.1 19)) 20 (hP.2.1 20)) 9 (hP.2.2 9)) 10 (hP.2.2 10)) 11 (hP.2.2 11)) 12 (hP.2.2 12)) 13 (hP.2.2 13)) 14 (hP.2.2 14))⟩
    replace p0_20 : (v 20) = 0 ∨ (v 16) ≠ 0 → w16_20 = (v 16) ∧ w17_20 = (v 17) := p0_20
    replace p1_20 : (v 20) ≠ 0 → (v 16) = 0 → w16_20 = (5 : Int) ∧ w17_20 = pp := p1_20
    have rw16_20 : 0 ≤ w16_20 ∧ w16_20 ≤ 5 := hP.2.1 16
    have rw17_20 : (-1) ≤ w17_20 ∧ w17_20 ≤ 700 := hP.2.1 17
    refine lv_aload_n hx hb dX3_readLaw_116 rfl (lv_at hl 0 rfl) ?_
    refine lv_iconst (v := iI 1) hx hb dX3_readLaw_117 rfl ?_
    refine rwP_reader_tiesTold (v1 := (va_up (va_up (va_up (va_up (va_up (va_up (va_up (va_up (va_up (va_up (va_up (va_up (va_up (va_up (va_up v 6 (v 6)) 7 (v 7)) 8 (v 8)) 9 (v 9)) 10 (v 10)) 11 (v 11)) 12 (v 12)) 13 (v 13)) 14 (v 14)) 15 (v 15)) 16 w16_20) 17 w17_20) 18 (v 18)) 19 (v 19)) 20 1)) C hP hD hS mF_X3_46 (by decide) (by decide) rfl (Or.inr (gF_up (V := rwV) (F := rwF) (gF_up (V := rwV) (F := rwF) (gF_up (V := rwV) (F := rwF) (gF_up (V := rwV) (F := rwF) (gF_up (V := rwV) (F := rwF) (gF_up (V := rwV) (F := rwF) (gR_up (V := rwV) (F := rwF) (gR_up (V := rwV) (F := rwF) (gR_up (V := rwV) (F := rwF) (gR_up (V := rwV) (F := rwF) (gR_up (V := rwV) (F := rwF) (gR_up (V := rwV) (F := rwF) (gR_up (V := rwV) (F := rwF) (gR_up (V := rwV) (F := rwF) (gR_up (V := rwV) (F := rwF) (gR_up (V := rwV) (F := rwF) (gR_up (V := rwV) (F := rwF) (gR_up (V := rwV) (F := rwF) (gR_up (V := rwV) (F := rwF) (gR_up (V := rwV) (F := rwF) (gR_up (V := rwV) (F := rwF) ⟨hok.1, hok.2⟩ 6 (hP.2.1 6)) 7 (hP.2.1 7)) 8 (hP.2.1 8)) 9 (hP.2.1 9)) 10 (hP.2.1 10)) 11 (hP.2.1 11)) 12 (hP.2.1 12)) 13 (hP.2.1 13)) 14 (hP.2.1 14)) 15 (hP.2.1 15)) 16 (hP.2.1 16)) 17 (hP.2.1 17)) 18 (hP.2.1 18)) 19 (hP.2.1 19)) 20 (show 0 ≤ 1 ∧ 1 ≤ 1 from by decide)) 9 (hP.2.2 9)) 10 (hP.2.2 10)) 11 (hP.2.2 11)) 12 (hP.2.2 12)) 13 (hP.2.2 13)) 14 (hP.2.2 14))) dX3_readLaw_118 (fun H locs hP hS => ?_)
    refine lv_aload_n hx hb dX3_readLaw_121 rfl (lv_at hl 0 rfl) ?_
    refine g_cv (As := []) (rest := []) (n := 0) C hml (q_e_La_readTies l D k A ad hD (va_up (va_up (va_up (va_up (va_up (va_up (va_up (va_up (va_up (va_up (va_up (va_up (va_up (va_up (va_up v 6 (v 6)) 7 (v 7)) 8 (v 8)) 9 (v 9)) 10 (v 10)) 11 (v 11)) 12 (v 12)) 13 (v 13)) 14 (v 14)) 15 (v 15)) 16 w16_20) 17 w17_20) 18 (v 18)) 19 (v 19)) 20 1) (va_up (va_up (va_up (va_up (va_up (va_up f 9 (f 9)) 10 (f 10)) 11 (f 11)) 12 (f 12)) 13 (f 13)) 14 (f 14)) g nn pp (show tAt (f 0) nn (f 6) (f 7) (f 8) (v 5) (v 6) pp from hc) (show (tK (f 0) nn pp) ≠ 256 ∧ (tK (f 0) nn pp) ≠ 257 from by omega)) mM_X3_85 mI_X3_readTies mE_X3_readTies mN_X3 mC_X3_readTies (by decide +kernel) 9 (ci := 3) rfl rfl hP hS (fun _ h => h) ⟨Nat.le_of_ble_eq_true rfl, Nat.le_of_ble_eq_true rfl⟩ ⟨Nat.zero_le _, Nat.zero_le _⟩ hl.1 rfl rfl (Nat.le_of_ble_eq_true rfl) dX3_readLaw_122 (fun r_21 v_21 f_21 g_21 H locs hq_21 hP _ hS => ?_)
    obtain ⟨w6_21, w10_21, w16_21, w17_21, rfl, rfl, rfl, rfl, p0_21, p1_21, p2_21⟩ := hq_21
    show W p l e (gRm 5 112) s m args below meth c _ _ 0 0 Q (F0 m 125 ls [])
    have hP : gWd D (rwT k ad) (va_up (va_up (va_up (va_up (va_up (va_up (va_up (va_up (va_up (va_up (va_up (va_up (va_up (va_up (va_up v 6 w6_21) 7 (v 7)) 8 (v 8)) 9 (v 9)) 10 w10_21) 11 (v 11)) 12 (v 12)) 13 (v 13)) 14 (v 14)) 15 (v 15)) 16 w16_21) 17 w17_21) 18 (v 18)) 19 (v 19)) 20 1) (va_up (va_up (va_up (va_up (va_up (va_up f 9 (f 9)) 10 (f 10)) 11 (f 11)) 12 (f 12)) 13 (f 13)) 14 (f 14)) g H := ⟨hP.1, (gF_up (V := rwV) (F := rwF) (gF_up (V := rwV) (F := rwF) (gF_up (V := rwV) (F := rwF) (gF_up (V := rwV) (F := rwF) (gF_up (V := rwV) (F := rwF) (gF_up (V := rwV) (F := rwF) (gR_up (V := rwV) (F := rwF) (gR_up (V := rwV) (F := rwF) (gR_up (V := rwV) (F := rwF) (gR_up (V := rwV) (F := rwF) (gR_up (V := rwV) (F := rwF) (gR_up (V := rwV) (F := rwF) (gR_up (V := rwV) (F := rwF) (gR_up (V := rwV) (F := rwF) (gR_up (V := rwV) (F := rwF) (gR_up (V := rwV) (F := rwF) (gR_up (V := rwV) (F := rwF) (gR_up (V := rwV) (F := rwF) (gR_up (V := rwV) (F := rwF) (gR_up (V := rwV) (F := rwF) (gR_up (V := rwV) (F := rwF) ⟨hok.1, hok.2⟩ 6 (hP.2.1 6)) 7 (hP.2.1 7)) 8 (hP.2.1 8)) 9 (hP.2.1 9)) 10 (hP.2.1 10)) 11 (hP.2.1 11)) 12 (hP.2.1 12)) 13 (hP.2.1 13)) 14 (hP.2.1 14)) 15 (hP.2.1 15)) 16 (hP.2.1 16)) 17 (hP.2.1 17)) 18 (hP.2.1 18)) 19 (hP.2.1 19)) 20 (hP.2.1 20)) 9 (hP.2.2 9)) 10 (hP.2.2 10)) 11 (hP.2.2 11)) 12 (hP.2.2 12)) 13 (hP.2.2 13)) 14 (hP.2.2 14))⟩
    replace p0_21 : w16_20 = 0 → oX (f 0) nn (f 6) (f 7) (f 8) (v 5) (tie (f 0) nn (tX (f 0) nn pp)) w16_21 w17_21 w17_20 w6_21 := p0_21
    replace p1_21 : w16_20 ≠ 0 → w16_21 = w16_20 ∧ w17_21 = w17_20 ∧ w6_21 = (v 6) := p1_21
    replace p2_21 : w16_20 = 0 → w16_21 = 0 → w10_21 = (if tK (f 0) nn (tX (f 0) nn pp) = 264 then 1 else 0) := p2_21
    have rw6_21 : 0 ≤ w6_21 ∧ w6_21 ≤ 700 := hP.2.1 6
    have rw10_21 : 0 ≤ w10_21 ∧ w10_21 ≤ 1 := hP.2.1 10
    have rw16_21 : 0 ≤ w16_21 ∧ w16_21 ≤ 5 := hP.2.1 16
    have rw17_21 : (-1) ≤ w17_21 ∧ w17_21 ≤ 700 := hP.2.1 17
    have hQ0 := p0_21
    have hQ1 := p1_21
    have hOX : oX (f 0) nn (f 6) (f 7) (f 8) (v 5) (law0 (f 0) nn pp (v 7) (v 18) (v 19) (v 20)) w16_21 w17_21 (v 17) w6_21 := (if ht : (v 20) = 0 then (by rw [show (law0 (f 0) nn pp (v 7) (v 18) (v 19) (v 20)) = (tie (f 0) nn (tX (f 0) nn pp)) by unfold law0; rw [if_neg (by omega), if_neg (by omega), if_neg (by omega), if_pos (by omega), if_neg (by omega)]]; have q := hQ0 (by omega); exact ⟨q.1, fun h => by have := q.2.1 h; omega, q.2.2.1, q.2.2.2⟩) else oX_bad (k := 5) (q := pp) (by unfold law0; rw [if_neg (by omega), if_neg (by omega), if_neg (by omega), if_pos (by omega), if_pos (by omega)]) (by decide) (by omega) (by omega) (tAt_eq hc (by omega)))
    have hTC := Bx.mk p2_21
    clear p2_21
    refine lv_goto (tgt := 132) hx hb dX3_readLaw_125 (by decide) ?_
    have hOX : oX (f 0) nn (f 6) (f 7) (f 8) (v 5) (law0 (f 0) nn pp (v 7) (v 18) (v 19) (v 20)) w16_21 w17_21 (v 17) w6_21 := by first | exact hOX | exact oX_bad (k := 5) (q := pp) (by unfold law0; rw [if_neg (by omega), if_pos (by omega), if_pos (by omega)]) (by decide) (by omega) (by omega) (tAt_eq hc (by omega))
    refine lv_aload_n hx hb dX3_readLaw_132 rfl (lv_at hl 0 rfl) ?_
    refine lv_bipush (v := iI 59) hx hb dX3_readLaw_133 (by decide) ?_
    refine g_cv (As := [.int (iI 59)]) (rest := []) (n := 1) C hml (e_La_pass l D k A ad hD (va_up (va_up (va_up (va_up (va_up (va_up (va_up (va_up (va_up (va_up (va_up (va_up (va_up (va_up (va_up v 6 w6_21) 7 (v 7)) 8 (v 8)) 9 (v 9)) 10 w10_21) 11 (v 11)) 12 (v 12)) 13 (v 13)) 14 (v 14)) 15 (v 15)) 16 w16_21) 17 w17_21) 18 (v 18)) 19 (v 19)) 20 1) (va_up (va_up (va_up (va_up (va_up (va_up f 9 (f 9)) 10 (f 10)) 11 (f 11)) 12 (f 12)) 13 (f 13)) 14 (f 14)) g 59 nn (law0 (f 0) nn pp (v 7) (v 18) (v 19) (v 20)).2 (by decide) (show tAt (f 0) nn (f 6) (f 7) (f 8) (v 5) w6_21 (law0 (f 0) nn pp (v 7) (v 18) (v 19) (v 20)).2 from hOX.2.2.2) (show (59 : Int) ≠ 256 ∧ (59 : Int) ≠ 257 from by omega)) mM_X3_91 mI_X3_pass mE_X3_pass mN_X3 mC_X3_pass (by decide +kernel) 9 (ci := 3) rfl rfl hP hS (fun _ h => h) ⟨Nat.le_of_ble_eq_true rfl, Nat.le_of_ble_eq_true rfl⟩ ⟨Nat.zero_le _, Nat.zero_le _⟩ hl.1 rfl rfl (Nat.le_of_ble_eq_true rfl) dX3_readLaw_135 (fun r_22 v_22 f_22 g_22 H locs hq_22 hP _ hS => ?_)
    obtain ⟨w6_22, w16_22, w17_22, rfl, rfl, rfl, rfl, p0_22, p1_22, p2_22, p3_22⟩ := hq_22
    show W p l e (gRm 5 112) s m args below meth c _ _ 0 0 Q (F0 m 138 ls [])
    have hP : gWd D (rwT k ad) (va_up (va_up (va_up (va_up (va_up (va_up (va_up (va_up (va_up (va_up (va_up (va_up (va_up (va_up (va_up v 6 w6_22) 7 (v 7)) 8 (v 8)) 9 (v 9)) 10 w10_21) 11 (v 11)) 12 (v 12)) 13 (v 13)) 14 (v 14)) 15 (v 15)) 16 w16_22) 17 w17_22) 18 (v 18)) 19 (v 19)) 20 1) (va_up (va_up (va_up (va_up (va_up (va_up f 9 (f 9)) 10 (f 10)) 11 (f 11)) 12 (f 12)) 13 (f 13)) 14 (f 14)) g H := ⟨hP.1, (gF_up (V := rwV) (F := rwF) (gF_up (V := rwV) (F := rwF) (gF_up (V := rwV) (F := rwF) (gF_up (V := rwV) (F := rwF) (gF_up (V := rwV) (F := rwF) (gF_up (V := rwV) (F := rwF) (gR_up (V := rwV) (F := rwF) (gR_up (V := rwV) (F := rwF) (gR_up (V := rwV) (F := rwF) (gR_up (V := rwV) (F := rwF) (gR_up (V := rwV) (F := rwF) (gR_up (V := rwV) (F := rwF) (gR_up (V := rwV) (F := rwF) (gR_up (V := rwV) (F := rwF) (gR_up (V := rwV) (F := rwF) (gR_up (V := rwV) (F := rwF) (gR_up (V := rwV) (F := rwF) (gR_up (V := rwV) (F := rwF) (gR_up (V := rwV) (F := rwF) (gR_up (V := rwV) (F := rwF) (gR_up (V := rwV) (F := rwF) ⟨hok.1, hok.2⟩ 6 (hP.2.1 6)) 7 (hP.2.1 7)) 8 (hP.2.1 8)) 9 (hP.2.1 9)) 10 (hP.2.1 10)) 11 (hP.2.1 11)) 12 (hP.2.1 12)) 13 (hP.2.1 13)) 14 (hP.2.1 14)) 15 (hP.2.1 15)) 16 (hP.2.1 16)) 17 (hP.2.1 17)) 18 (hP.2.1 18)) 19 (hP.2.1 19)) 20 (hP.2.1 20)) 9 (hP.2.2 9)) 10 (hP.2.2 10)) 11 (hP.2.2 11)) 12 (hP.2.2 12)) 13 (hP.2.2 13)) 14 (hP.2.2 14))⟩
    replace p0_22 : w16_21 = 0 → (tK (f 0) nn (law0 (f 0) nn pp (v 7) (v 18) (v 19) (v 20)).2) = (59 : Int) → w16_22 = 0 ∧ w17_22 = w17_21 := p0_22
    replace p1_22 : w16_21 = 0 → (tK (f 0) nn (law0 (f 0) nn pp (v 7) (v 18) (v 19) (v 20)).2) ≠ (59 : Int) → w16_22 = (fk (f 0) nn (law0 (f 0) nn pp (v 7) (v 18) (v 19) (v 20)).2) ∧ w17_22 = (law0 (f 0) nn pp (v 7) (v 18) (v 19) (v 20)).2 ∧ w6_22 = w6_21 := p1_22
    replace p2_22 : w16_21 ≠ 0 → w16_22 = w16_21 ∧ w17_22 = w17_21 ∧ w6_22 = w6_21 := p2_22
    replace p3_22 : w16_21 = 0 → (tK (f 0) nn (law0 (f 0) nn pp (v 7) (v 18) (v 19) (v 20)).2) = (59 : Int) → tAt (f 0) nn (f 6) (f 7) (f 8) (v 5) w6_22 (tX (f 0) nn (law0 (f 0) nn pp (v 7) (v 18) (v 19) (v 20)).2) := p3_22
    have rw6_22 : 0 ≤ w6_22 ∧ w6_22 ≤ 700 := hP.2.1 6
    have rw16_22 : 0 ≤ w16_22 ∧ w16_22 ≤ 5 := hP.2.1 16
    have rw17_22 : (-1) ≤ w17_22 ∧ w17_22 ≤ 700 := hP.2.1 17
    have hP0 := p0_22
    have hP1 := p1_22
    have hP2 := p2_22
    have hP3 := p3_22
    exact g_vret hQ C hr hlocks hP hS dX3_readLaw_138 ⟨w6_22, (v 7), (v 8), (v 9), w10_21, (v 11), (v 12), (v 13), (v 14), (v 15), w16_22, w17_22, (v 18), (v 19), 1, (f 9), (f 10), (f 11), (f 12), (f 13), (f 14), rfl, rfl, rfl, rfl, (by unfold law1; exact oX_semi hOX hP0 hP1 hP2 hP3), (by first | (intro h; rw [if_pos (by omega)]; have := hOX.1; have := hRr (by omega); omega) | (intro h; rw [if_neg (by omega)])), (by intro h; first | (exfalso; omega) | (refine ⟨?_, ?_, ?_⟩ <;> first | rw [if_pos (by omega)] | rw [if_neg (by omega)])), (by first | exact fun h => hRs (by have := hP2; omega) | exact fun h => hd), (fun h => by first | exact ⟨fun _ => hSC.get (by omega), hSK⟩ | exact ⟨fun h9 => absurd h9 (by omega), fun e he => rfl⟩ | (exfalso; omega)), (fun h => by first | exact ⟨fun _ => hE3.get (by omega), fun h9 => absurd (show (tK (f 0) nn pp) = 261 by omega) h9⟩ | exact ⟨fun h9 => absurd h9 (by omega), fun _ => ⟨rfl, rfl, rfl⟩⟩ | (exfalso; omega)), (fun h => by first | exact ⟨fun _ => hKC.get (by omega) (by omega), fun h9 => absurd (show (tK (f 0) nn pp) = 262 by omega) h9⟩ | exact ⟨fun h9 => absurd h9 (by omega), fun _ => ⟨rfl, rfl, rfl⟩⟩ | (exfalso; omega)), (fun h => by first | exact ⟨fun _ => hTC.get (by omega) (by omega), fun h9 => absurd (show (tK (f 0) nn pp) = 263 by omega) h9⟩ | exact ⟨fun h9 => absurd h9 (by omega), fun _ => rfl⟩ | (exfalso; omega))⟩
  refine lv_tableOut (tgt := 128) hx hb dX3_readLaw_7 (by rw [iI_toInt (by omega)]; omega) (by decide) ?_
  refine lv_aload_n hx hb dX3_readLaw_128 rfl (lv_at hl 0 rfl) ?_
  refine g_cv (As := []) (rest := []) (n := 0) C hml (e_La_refuseToken l D k A ad hD (va_up (va_up (va_up (va_up (va_up (va_up (va_up (va_up (va_up (va_up (va_up (va_up (va_up (va_up (va_up v 6 (v 6)) 7 (v 7)) 8 (v 8)) 9 (v 9)) 10 (v 10)) 11 (v 11)) 12 (v 12)) 13 (v 13)) 14 (v 14)) 15 (v 15)) 16 (v 16)) 17 (v 17)) 18 (v 18)) 19 (v 19)) 20 (v 20)) (va_up (va_up (va_up (va_up (va_up (va_up f 9 (f 9)) 10 (f 10)) 11 (f 11)) 12 (f 12)) 13 (f 13)) 14 (f 14)) g nn pp (show tAt (f 0) nn (f 6) (f 7) (f 8) (v 5) (v 6) pp from hc)) mM_X3_88 mI_X3_refuseToken mE_X3_refuseToken mN_X3 mC_X3_refuseToken (by decide +kernel) 9 (ci := 3) rfl rfl hP hS (fun _ h => h) ⟨Nat.le_of_ble_eq_true rfl, Nat.le_of_ble_eq_true rfl⟩ ⟨Nat.zero_le _, Nat.zero_le _⟩ hl.1 rfl rfl (Nat.le_of_ble_eq_true rfl) dX3_readLaw_129 (fun r_23 v_23 f_23 g_23 H locs hq_23 hP _ hS => ?_)
  obtain ⟨w16_23, w17_23, rfl, rfl, rfl, rfl, p0_23, p1_23⟩ := hq_23
  show W p l e (gRm 5 112) s m args below meth c _ _ 0 0 Q (F0 m 132 ls [])
  have hP : gWd D (rwT k ad) (va_up (va_up (va_up (va_up (va_up (va_up (va_up (va_up (va_up (va_up (va_up (va_up (va_up (va_up (va_up v 6 (v 6)) 7 (v 7)) 8 (v 8)) 9 (v 9)) 10 (v 10)) 11 (v 11)) 12 (v 12)) 13 (v 13)) 14 (v 14)) 15 (v 15)) 16 w16_23) 17 w17_23) 18 (v 18)) 19 (v 19)) 20 (v 20)) (va_up (va_up (va_up (va_up (va_up (va_up f 9 (f 9)) 10 (f 10)) 11 (f 11)) 12 (f 12)) 13 (f 13)) 14 (f 14)) g H := ⟨hP.1, (gF_up (V := rwV) (F := rwF) (gF_up (V := rwV) (F := rwF) (gF_up (V := rwV) (F := rwF) (gF_up (V := rwV) (F := rwF) (gF_up (V := rwV) (F := rwF) (gF_up (V := rwV) (F := rwF) (gR_up (V := rwV) (F := rwF) (gR_up (V := rwV) (F := rwF) (gR_up (V := rwV) (F := rwF) (gR_up (V := rwV) (F := rwF) (gR_up (V := rwV) (F := rwF) (gR_up (V := rwV) (F := rwF) (gR_up (V := rwV) (F := rwF) (gR_up (V := rwV) (F := rwF) (gR_up (V := rwV) (F := rwF) (gR_up (V := rwV) (F := rwF) (gR_up (V := rwV) (F := rwF) (gR_up (V := rwV) (F := rwF) (gR_up (V := rwV) (F := rwF) (gR_up (V := rwV) (F := rwF) (gR_up (V := rwV) (F := rwF) ⟨hok.1, hok.2⟩ 6 (hP.2.1 6)) 7 (hP.2.1 7)) 8 (hP.2.1 8)) 9 (hP.2.1 9)) 10 (hP.2.1 10)) 11 (hP.2.1 11)) 12 (hP.2.1 12)) 13 (hP.2.1 13)) 14 (hP.2.1 14)) 15 (hP.2.1 15)) 16 (hP.2.1 16)) 17 (hP.2.1 17)) 18 (hP.2.1 18)) 19 (hP.2.1 19)) 20 (hP.2.1 20)) 9 (hP.2.2 9)) 10 (hP.2.2 10)) 11 (hP.2.2 11)) 12 (hP.2.2 12)) 13 (hP.2.2 13)) 14 (hP.2.2 14))⟩
  replace p0_23 : (v 16) = 0 → w16_23 = (fk (f 0) nn pp) ∧ w17_23 = pp := p0_23
  replace p1_23 : (v 16) ≠ 0 → w16_23 = (v 16) ∧ w17_23 = (v 17) := p1_23
  have rw16_23 : 0 ≤ w16_23 ∧ w16_23 ≤ 5 := hP.2.1 16
  have rw17_23 : (-1) ≤ w17_23 ∧ w17_23 ≤ 700 := hP.2.1 17
  first | replace p0_23 := p0_23 (by omega) | clear p0_23
  first | replace p1_23 := p1_23 (by omega) | clear p1_23
  have hOX : oX (f 0) nn (f 6) (f 7) (f 8) (v 5) (law0 (f 0) nn pp (v 7) (v 18) (v 19) (v 20)) w16_23 w17_23 (v 17) (v 6) := oX_bad (k := fk (f 0) nn pp) (q := pp) (by unfold law0; rw [if_neg (by omega), if_neg (by omega), if_neg (by omega), if_neg (by omega)]) (by omega) (by omega) (by omega) hc
  have hOX : oX (f 0) nn (f 6) (f 7) (f 8) (v 5) (law0 (f 0) nn pp (v 7) (v 18) (v 19) (v 20)) w16_23 w17_23 (v 17) (v 6) := by first | exact hOX | exact oX_bad (k := 5) (q := pp) (by unfold law0; rw [if_neg (by omega), if_pos (by omega), if_pos (by omega)]) (by decide) (by omega) (by omega) (tAt_eq hc (by omega))
  refine lv_aload_n hx hb dX3_readLaw_132 rfl (lv_at hl 0 rfl) ?_
  refine lv_bipush (v := iI 59) hx hb dX3_readLaw_133 (by decide) ?_
  refine g_cv (As := [.int (iI 59)]) (rest := []) (n := 1) C hml (e_La_pass l D k A ad hD (va_up (va_up (va_up (va_up (va_up (va_up (va_up (va_up (va_up (va_up (va_up (va_up (va_up (va_up (va_up v 6 (v 6)) 7 (v 7)) 8 (v 8)) 9 (v 9)) 10 (v 10)) 11 (v 11)) 12 (v 12)) 13 (v 13)) 14 (v 14)) 15 (v 15)) 16 w16_23) 17 w17_23) 18 (v 18)) 19 (v 19)) 20 (v 20)) (va_up (va_up (va_up (va_up (va_up (va_up f 9 (f 9)) 10 (f 10)) 11 (f 11)) 12 (f 12)) 13 (f 13)) 14 (f 14)) g 59 nn (law0 (f 0) nn pp (v 7) (v 18) (v 19) (v 20)).2 (by decide) (show tAt (f 0) nn (f 6) (f 7) (f 8) (v 5) (v 6) (law0 (f 0) nn pp (v 7) (v 18) (v 19) (v 20)).2 from hOX.2.2.2) (show (59 : Int) ≠ 256 ∧ (59 : Int) ≠ 257 from by omega)) mM_X3_91 mI_X3_pass mE_X3_pass mN_X3 mC_X3_pass (by decide +kernel) 9 (ci := 3) rfl rfl hP hS (fun _ h => h) ⟨Nat.le_of_ble_eq_true rfl, Nat.le_of_ble_eq_true rfl⟩ ⟨Nat.zero_le _, Nat.zero_le _⟩ hl.1 rfl rfl (Nat.le_of_ble_eq_true rfl) dX3_readLaw_135 (fun r_24 v_24 f_24 g_24 H locs hq_24 hP _ hS => ?_)
  obtain ⟨w6_24, w16_24, w17_24, rfl, rfl, rfl, rfl, p0_24, p1_24, p2_24, p3_24⟩ := hq_24
  show W p l e (gRm 5 112) s m args below meth c _ _ 0 0 Q (F0 m 138 ls [])
  have hP : gWd D (rwT k ad) (va_up (va_up (va_up (va_up (va_up (va_up (va_up (va_up (va_up (va_up (va_up (va_up (va_up (va_up (va_up v 6 w6_24) 7 (v 7)) 8 (v 8)) 9 (v 9)) 10 (v 10)) 11 (v 11)) 12 (v 12)) 13 (v 13)) 14 (v 14)) 15 (v 15)) 16 w16_24) 17 w17_24) 18 (v 18)) 19 (v 19)) 20 (v 20)) (va_up (va_up (va_up (va_up (va_up (va_up f 9 (f 9)) 10 (f 10)) 11 (f 11)) 12 (f 12)) 13 (f 13)) 14 (f 14)) g H := ⟨hP.1, (gF_up (V := rwV) (F := rwF) (gF_up (V := rwV) (F := rwF) (gF_up (V := rwV) (F := rwF) (gF_up (V := rwV) (F := rwF) (gF_up (V := rwV) (F := rwF) (gF_up (V := rwV) (F := rwF) (gR_up (V := rwV) (F := rwF) (gR_up (V := rwV) (F := rwF) (gR_up (V := rwV) (F := rwF) (gR_up (V := rwV) (F := rwF) (gR_up (V := rwV) (F := rwF) (gR_up (V := rwV) (F := rwF) (gR_up (V := rwV) (F := rwF) (gR_up (V := rwV) (F := rwF) (gR_up (V := rwV) (F := rwF) (gR_up (V := rwV) (F := rwF) (gR_up (V := rwV) (F := rwF) (gR_up (V := rwV) (F := rwF) (gR_up (V := rwV) (F := rwF) (gR_up (V := rwV) (F := rwF) (gR_up (V := rwV) (F := rwF) ⟨hok.1, hok.2⟩ 6 (hP.2.1 6)) 7 (hP.2.1 7)) 8 (hP.2.1 8)) 9 (hP.2.1 9)) 10 (hP.2.1 10)) 11 (hP.2.1 11)) 12 (hP.2.1 12)) 13 (hP.2.1 13)) 14 (hP.2.1 14)) 15 (hP.2.1 15)) 16 (hP.2.1 16)) 17 (hP.2.1 17)) 18 (hP.2.1 18)) 19 (hP.2.1 19)) 20 (hP.2.1 20)) 9 (hP.2.2 9)) 10 (hP.2.2 10)) 11 (hP.2.2 11)) 12 (hP.2.2 12)) 13 (hP.2.2 13)) 14 (hP.2.2 14))⟩
  replace p0_24 : w16_23 = 0 → (tK (f 0) nn (law0 (f 0) nn pp (v 7) (v 18) (v 19) (v 20)).2) = (59 : Int) → w16_24 = 0 ∧ w17_24 = w17_23 := p0_24
  replace p1_24 : w16_23 = 0 → (tK (f 0) nn (law0 (f 0) nn pp (v 7) (v 18) (v 19) (v 20)).2) ≠ (59 : Int) → w16_24 = (fk (f 0) nn (law0 (f 0) nn pp (v 7) (v 18) (v 19) (v 20)).2) ∧ w17_24 = (law0 (f 0) nn pp (v 7) (v 18) (v 19) (v 20)).2 ∧ w6_24 = (v 6) := p1_24
  replace p2_24 : w16_23 ≠ 0 → w16_24 = w16_23 ∧ w17_24 = w17_23 ∧ w6_24 = (v 6) := p2_24
  replace p3_24 : w16_23 = 0 → (tK (f 0) nn (law0 (f 0) nn pp (v 7) (v 18) (v 19) (v 20)).2) = (59 : Int) → tAt (f 0) nn (f 6) (f 7) (f 8) (v 5) w6_24 (tX (f 0) nn (law0 (f 0) nn pp (v 7) (v 18) (v 19) (v 20)).2) := p3_24
  have rw6_24 : 0 ≤ w6_24 ∧ w6_24 ≤ 700 := hP.2.1 6
  have rw16_24 : 0 ≤ w16_24 ∧ w16_24 ≤ 5 := hP.2.1 16
  have rw17_24 : (-1) ≤ w17_24 ∧ w17_24 ≤ 700 := hP.2.1 17
  have hP0 := p0_24
  have hP1 := p1_24
  have hP2 := p2_24
  have hP3 := p3_24
  exact g_vret hQ C hr hlocks hP hS dX3_readLaw_138 ⟨w6_24, (v 7), (v 8), (v 9), (v 10), (v 11), (v 12), (v 13), (v 14), (v 15), w16_24, w17_24, (v 18), (v 19), (v 20), (f 9), (f 10), (f 11), (f 12), (f 13), (f 14), rfl, rfl, rfl, rfl, (by unfold law1; exact oX_semi hOX hP0 hP1 hP2 hP3), (by first | (intro h; rw [if_pos (by omega)]; have := hOX.1; have := hRr (by omega); omega) | (intro h; rw [if_neg (by omega)])), (by intro h; first | (exfalso; omega) | (refine ⟨?_, ?_, ?_⟩ <;> first | rw [if_pos (by omega)] | rw [if_neg (by omega)])), (by first | exact fun h => hRs (by have := hP2; omega) | exact fun h => hd), (fun h => by first | exact ⟨fun _ => hSC.get (by omega), hSK⟩ | exact ⟨fun h9 => absurd h9 (by omega), fun e he => rfl⟩ | (exfalso; omega)), (fun h => by first | exact ⟨fun _ => hE3.get (by omega), fun h9 => absurd (show (tK (f 0) nn pp) = 261 by omega) h9⟩ | exact ⟨fun h9 => absurd h9 (by omega), fun _ => ⟨rfl, rfl, rfl⟩⟩ | (exfalso; omega)), (fun h => by first | exact ⟨fun _ => hKC.get (by omega) (by omega), fun h9 => absurd (show (tK (f 0) nn pp) = 262 by omega) h9⟩ | exact ⟨fun h9 => absurd h9 (by omega), fun _ => ⟨rfl, rfl, rfl⟩⟩ | (exfalso; omega)), (fun h => by first | exact ⟨fun _ => hTC.get (by omega) (by omega), fun h9 => absurd (show (tK (f 0) nn pp) = 263 by omega) h9⟩ | exact ⟨fun h9 => absurd h9 (by omega), fun _ => rfl⟩ | (exfalso; omega))⟩

set_option maxHeartbeats 4000000 in
set_option maxRecDepth 100000 in
theorem q_e_La_setUntold (l : Launch) (D : va_G) (k : Nat → ClassId) (A : Nat → Prop) (ad : Nat → Nat) (hD : rwD A k ad) (v : gV) (f g : gF) : GM l D k A (rwT k ad) yX4_setUntold cX4_setUntold 1 none 1 22 [.ref (ad 14)] v f g (fun r v1 f1 g1 => ∃ (w8 : Int) (w9 : Int) (a10_ : Int → Int) (a11_ : Int → Int) (a12_ : Int → Int) (a13_ : Int → Int), r = none ∧ (va_up (va_up (va_up (va_up v 7 0) 8 w8) 9 w9) 10 0) = v1 ∧ (va_up (va_up (va_up (va_up f 10 a10_) 11 a11_) 12 a12_) 13 a13_) = f1 ∧ g = g1 ∧ (repC id [(7, 0), (1, 0), (9, 0), (0, 0), (6, 100)] a10_ a11_ w8) ∧ (w9 = 1 ∧ a12_ 0 = 0 ∧ a13_ 0 = 1)) := by
  refine GM.of (by decide) (Nat.le_of_ble_eq_true rfl) ?_
  intro p e s m args below meth c Q ls hQ C hml hr hlocks hP hl
  have hx := C.1
  have hb := C.2.1
  have hok := hP.2
  have hS : va_S A s.heap s.heap [] := va_S.rf
  have hl : lv_has ls 1 [(0, .ref (ad 14))] := hl
  have hP : gWd D (rwT k ad) (va_up (va_up (va_up (va_up v 7 (v 7)) 8 (v 8)) 9 (v 9)) 10 (v 10)) (va_up (va_up (va_up (va_up f 10 (f 10)) 11 (f 11)) 12 (f 12)) 13 (f 13)) g s.heap := by rw [va_id, va_id, va_id, va_id, va_id, va_id, va_id, va_id]; exact hP
  refine lv_aload_n hx hb dX4_setUntold_0 rfl (lv_at hl 0 rfl) ?_
  refine lv_iconst (v := iI 0) hx hb dX4_setUntold_1 rfl ?_
  refine rwP_reader_draft_rounds (v1 := (va_up (va_up (va_up (va_up v 7 0) 8 (v 8)) 9 (v 9)) 10 (v 10))) C hP hD hS mF_X4_31 (by decide) rfl (Or.inr (gF_up (V := rwV) (F := rwF) (gF_up (V := rwV) (F := rwF) (gF_up (V := rwV) (F := rwF) (gF_up (V := rwV) (F := rwF) (gR_up (V := rwV) (F := rwF) (gR_up (V := rwV) (F := rwF) (gR_up (V := rwV) (F := rwF) (gR_up (V := rwV) (F := rwF) ⟨hok.1, hok.2⟩ 7 (show 0 ≤ 0 ∧ 0 ≤ 4 from by decide)) 8 (hP.2.1 8)) 9 (hP.2.1 9)) 10 (hP.2.1 10)) 10 (hP.2.2 10)) 11 (hP.2.2 11)) 12 (hP.2.2 12)) 13 (hP.2.2 13))) dX4_setUntold_2 (fun H locs hP hS => ?_)
  refine lv_aload_n hx hb dX4_setUntold_5 rfl (lv_at hl 0 rfl) ?_
  refine lv_iconst (v := iI 0) hx hb dX4_setUntold_6 rfl ?_
  refine rwP_reader_draft_items (v1 := (va_up (va_up (va_up (va_up v 7 0) 8 0) 9 (v 9)) 10 (v 10))) C hP hD hS mF_X4_35 (by decide) rfl (Or.inr (gF_up (V := rwV) (F := rwF) (gF_up (V := rwV) (F := rwF) (gF_up (V := rwV) (F := rwF) (gF_up (V := rwV) (F := rwF) (gR_up (V := rwV) (F := rwF) (gR_up (V := rwV) (F := rwF) (gR_up (V := rwV) (F := rwF) (gR_up (V := rwV) (F := rwF) ⟨hok.1, hok.2⟩ 7 (hP.2.1 7)) 8 (show 0 ≤ 0 ∧ 0 ≤ 40 from by decide)) 9 (hP.2.1 9)) 10 (hP.2.1 10)) 10 (hP.2.2 10)) 11 (hP.2.2 11)) 12 (hP.2.2 12)) 13 (hP.2.2 13))) dX4_setUntold_7 (fun H locs hP hS => ?_)
  refine lv_aload_n hx hb dX4_setUntold_10 rfl (lv_at hl 0 rfl) ?_
  refine lv_bipush (v := iI 6) hx hb dX4_setUntold_11 (by decide) ?_
  refine lv_bipush (v := iI 100) hx hb dX4_setUntold_13 (by decide) ?_
  refine g_cv (As := [.int (iI 6), .int (iI 100)]) (rest := []) (n := 2) C hml (e_La_addItem l D k A ad hD (va_up (va_up (va_up (va_up v 7 0) 8 0) 9 (v 9)) 10 (v 10)) (va_up (va_up (va_up (va_up f 10 (f 10)) 11 (f 11)) 12 (f 12)) 13 (f 13)) g 6 100 (by decide) (by decide) (show 0 ≤ (6 : Int) ∧ (6 : Int) ≤ 10 from by omega) (show 0 ≤ (100 : Int) ∧ (100 : Int) ≤ 999999 from by omega)) mM_X4_38 mI_X4_addItem mE_X4_addItem mN_X4 mC_X4_addItem (by decide +kernel) 14 (ci := 4) rfl rfl hP hS (fun _ h => h) ⟨Nat.le_of_ble_eq_true rfl, Nat.le_of_ble_eq_true rfl⟩ ⟨Nat.zero_le _, Nat.zero_le _⟩ hl.1 rfl rfl (Nat.le_of_ble_eq_true rfl) dX4_setUntold_15 (fun r_1 v_1 f_1 g_1 H locs hq_1 hP _ hS => ?_)
  obtain ⟨w8_1, a10_1, a11_1, rfl, rfl, rfl, rfl, p0_1⟩ := hq_1
  show W p l e (gRm 1 22) s m args below meth c _ _ 0 0 Q (F0 m 18 ls [])
  have hP : gWd D (rwT k ad) (va_up (va_up (va_up (va_up v 7 0) 8 w8_1) 9 (v 9)) 10 (v 10)) (va_up (va_up (va_up (va_up f 10 a10_1) 11 a11_1) 12 (f 12)) 13 (f 13)) g H := ⟨hP.1, (gF_up (V := rwV) (F := rwF) (gF_up (V := rwV) (F := rwF) (gF_up (V := rwV) (F := rwF) (gF_up (V := rwV) (F := rwF) (gR_up (V := rwV) (F := rwF) (gR_up (V := rwV) (F := rwF) (gR_up (V := rwV) (F := rwF) (gR_up (V := rwV) (F := rwF) ⟨hok.1, hok.2⟩ 7 (hP.2.1 7)) 8 (hP.2.1 8)) 9 (hP.2.1 9)) 10 (hP.2.1 10)) 10 (hP.2.2 10)) 11 (hP.2.2 11)) 12 (hP.2.2 12)) 13 (hP.2.2 13))⟩
  replace p0_1 : (0 : Int) < 40 → w8_1 = (0 : Int) + 1 ∧ a10_1 = u1 (f 10) (0 : Int) (6 : Int) ∧ a11_1 = u1 (f 11) (0 : Int) (100 : Int) := p0_1
  have rw8_1 : 0 ≤ w8_1 ∧ w8_1 ≤ 40 := hP.2.1 8
  have hA0 := p0_1 (by omega)
  clear p0_1
  have hw0 : w8_1 = 1 := by omega
  have hT0 : a10_1 = (u1 (f 10) 0 6) := hA0.2.1
  have hN0 : a11_1 = (u1 (f 11) 0 100) := hA0.2.2
  refine lv_aload_n hx hb dX4_setUntold_18 rfl (lv_at hl 0 rfl) ?_
  refine lv_iconst (v := iI 0) hx hb dX4_setUntold_19 rfl ?_
  refine lv_iconst (v := iI 0) hx hb dX4_setUntold_20 rfl ?_
  refine g_cv (As := [.int (iI 0), .int (iI 0)]) (rest := []) (n := 2) C hml (e_La_addItem l D k A ad hD (va_up (va_up (va_up (va_up v 7 0) 8 w8_1) 9 (v 9)) 10 (v 10)) (va_up (va_up (va_up (va_up f 10 a10_1) 11 a11_1) 12 (f 12)) 13 (f 13)) g 0 0 (by decide) (by decide) (show 0 ≤ (0 : Int) ∧ (0 : Int) ≤ 10 from by omega) (show 0 ≤ (0 : Int) ∧ (0 : Int) ≤ 999999 from by omega)) mM_X4_38 mI_X4_addItem mE_X4_addItem mN_X4 mC_X4_addItem (by decide +kernel) 14 (ci := 4) rfl rfl hP hS (fun _ h => h) ⟨Nat.le_of_ble_eq_true rfl, Nat.le_of_ble_eq_true rfl⟩ ⟨Nat.zero_le _, Nat.zero_le _⟩ hl.1 rfl rfl (Nat.le_of_ble_eq_true rfl) dX4_setUntold_21 (fun r_2 v_2 f_2 g_2 H locs hq_2 hP _ hS => ?_)
  obtain ⟨w8_2, a10_2, a11_2, rfl, rfl, rfl, rfl, p0_2⟩ := hq_2
  show W p l e (gRm 1 22) s m args below meth c _ _ 0 0 Q (F0 m 24 ls [])
  have hP : gWd D (rwT k ad) (va_up (va_up (va_up (va_up v 7 0) 8 w8_2) 9 (v 9)) 10 (v 10)) (va_up (va_up (va_up (va_up f 10 a10_2) 11 a11_2) 12 (f 12)) 13 (f 13)) g H := ⟨hP.1, (gF_up (V := rwV) (F := rwF) (gF_up (V := rwV) (F := rwF) (gF_up (V := rwV) (F := rwF) (gF_up (V := rwV) (F := rwF) (gR_up (V := rwV) (F := rwF) (gR_up (V := rwV) (F := rwF) (gR_up (V := rwV) (F := rwF) (gR_up (V := rwV) (F := rwF) ⟨hok.1, hok.2⟩ 7 (hP.2.1 7)) 8 (hP.2.1 8)) 9 (hP.2.1 9)) 10 (hP.2.1 10)) 10 (hP.2.2 10)) 11 (hP.2.2 11)) 12 (hP.2.2 12)) 13 (hP.2.2 13))⟩
  replace p0_2 : w8_1 < 40 → w8_2 = w8_1 + 1 ∧ a10_2 = u1 a10_1 w8_1 (0 : Int) ∧ a11_2 = u1 a11_1 w8_1 (0 : Int) := p0_2
  have rw8_2 : 0 ≤ w8_2 ∧ w8_2 ≤ 40 := hP.2.1 8
  have hA1 := p0_2 (by omega)
  clear p0_2
  have hw1 : w8_2 = 2 := by omega
  have hT1 : a10_2 = (u1 (u1 (f 10) 0 6) 1 0) := by rw [hA1.2.1, hT0, hw0]
  have hN1 : a11_2 = (u1 (u1 (f 11) 0 100) 1 0) := by rw [hA1.2.2, hN0, hw0]
  refine lv_aload_n hx hb dX4_setUntold_24 rfl (lv_at hl 0 rfl) ?_
  refine lv_bipush (v := iI 9) hx hb dX4_setUntold_25 (by decide) ?_
  refine lv_iconst (v := iI 0) hx hb dX4_setUntold_27 rfl ?_
  refine g_cv (As := [.int (iI 9), .int (iI 0)]) (rest := []) (n := 2) C hml (e_La_addItem l D k A ad hD (va_up (va_up (va_up (va_up v 7 0) 8 w8_2) 9 (v 9)) 10 (v 10)) (va_up (va_up (va_up (va_up f 10 a10_2) 11 a11_2) 12 (f 12)) 13 (f 13)) g 9 0 (by decide) (by decide) (show 0 ≤ (9 : Int) ∧ (9 : Int) ≤ 10 from by omega) (show 0 ≤ (0 : Int) ∧ (0 : Int) ≤ 999999 from by omega)) mM_X4_38 mI_X4_addItem mE_X4_addItem mN_X4 mC_X4_addItem (by decide +kernel) 14 (ci := 4) rfl rfl hP hS (fun _ h => h) ⟨Nat.le_of_ble_eq_true rfl, Nat.le_of_ble_eq_true rfl⟩ ⟨Nat.zero_le _, Nat.zero_le _⟩ hl.1 rfl rfl (Nat.le_of_ble_eq_true rfl) dX4_setUntold_28 (fun r_3 v_3 f_3 g_3 H locs hq_3 hP _ hS => ?_)
  obtain ⟨w8_3, a10_3, a11_3, rfl, rfl, rfl, rfl, p0_3⟩ := hq_3
  show W p l e (gRm 1 22) s m args below meth c _ _ 0 0 Q (F0 m 31 ls [])
  have hP : gWd D (rwT k ad) (va_up (va_up (va_up (va_up v 7 0) 8 w8_3) 9 (v 9)) 10 (v 10)) (va_up (va_up (va_up (va_up f 10 a10_3) 11 a11_3) 12 (f 12)) 13 (f 13)) g H := ⟨hP.1, (gF_up (V := rwV) (F := rwF) (gF_up (V := rwV) (F := rwF) (gF_up (V := rwV) (F := rwF) (gF_up (V := rwV) (F := rwF) (gR_up (V := rwV) (F := rwF) (gR_up (V := rwV) (F := rwF) (gR_up (V := rwV) (F := rwF) (gR_up (V := rwV) (F := rwF) ⟨hok.1, hok.2⟩ 7 (hP.2.1 7)) 8 (hP.2.1 8)) 9 (hP.2.1 9)) 10 (hP.2.1 10)) 10 (hP.2.2 10)) 11 (hP.2.2 11)) 12 (hP.2.2 12)) 13 (hP.2.2 13))⟩
  replace p0_3 : w8_2 < 40 → w8_3 = w8_2 + 1 ∧ a10_3 = u1 a10_2 w8_2 (9 : Int) ∧ a11_3 = u1 a11_2 w8_2 (0 : Int) := p0_3
  have rw8_3 : 0 ≤ w8_3 ∧ w8_3 ≤ 40 := hP.2.1 8
  have hA2 := p0_3 (by omega)
  clear p0_3
  have hw2 : w8_3 = 3 := by omega
  have hT2 : a10_3 = (u1 (u1 (u1 (f 10) 0 6) 1 0) 2 9) := by rw [hA2.2.1, hT1, hw1]
  have hN2 : a11_3 = (u1 (u1 (u1 (f 11) 0 100) 1 0) 2 0) := by rw [hA2.2.2, hN1, hw1]
  refine lv_aload_n hx hb dX4_setUntold_31 rfl (lv_at hl 0 rfl) ?_
  refine lv_iconst (v := iI 1) hx hb dX4_setUntold_32 rfl ?_
  refine lv_iconst (v := iI 0) hx hb dX4_setUntold_33 rfl ?_
  refine g_cv (As := [.int (iI 1), .int (iI 0)]) (rest := []) (n := 2) C hml (e_La_addItem l D k A ad hD (va_up (va_up (va_up (va_up v 7 0) 8 w8_3) 9 (v 9)) 10 (v 10)) (va_up (va_up (va_up (va_up f 10 a10_3) 11 a11_3) 12 (f 12)) 13 (f 13)) g 1 0 (by decide) (by decide) (show 0 ≤ (1 : Int) ∧ (1 : Int) ≤ 10 from by omega) (show 0 ≤ (0 : Int) ∧ (0 : Int) ≤ 999999 from by omega)) mM_X4_38 mI_X4_addItem mE_X4_addItem mN_X4 mC_X4_addItem (by decide +kernel) 14 (ci := 4) rfl rfl hP hS (fun _ h => h) ⟨Nat.le_of_ble_eq_true rfl, Nat.le_of_ble_eq_true rfl⟩ ⟨Nat.zero_le _, Nat.zero_le _⟩ hl.1 rfl rfl (Nat.le_of_ble_eq_true rfl) dX4_setUntold_34 (fun r_4 v_4 f_4 g_4 H locs hq_4 hP _ hS => ?_)
  obtain ⟨w8_4, a10_4, a11_4, rfl, rfl, rfl, rfl, p0_4⟩ := hq_4
  show W p l e (gRm 1 22) s m args below meth c _ _ 0 0 Q (F0 m 37 ls [])
  have hP : gWd D (rwT k ad) (va_up (va_up (va_up (va_up v 7 0) 8 w8_4) 9 (v 9)) 10 (v 10)) (va_up (va_up (va_up (va_up f 10 a10_4) 11 a11_4) 12 (f 12)) 13 (f 13)) g H := ⟨hP.1, (gF_up (V := rwV) (F := rwF) (gF_up (V := rwV) (F := rwF) (gF_up (V := rwV) (F := rwF) (gF_up (V := rwV) (F := rwF) (gR_up (V := rwV) (F := rwF) (gR_up (V := rwV) (F := rwF) (gR_up (V := rwV) (F := rwF) (gR_up (V := rwV) (F := rwF) ⟨hok.1, hok.2⟩ 7 (hP.2.1 7)) 8 (hP.2.1 8)) 9 (hP.2.1 9)) 10 (hP.2.1 10)) 10 (hP.2.2 10)) 11 (hP.2.2 11)) 12 (hP.2.2 12)) 13 (hP.2.2 13))⟩
  replace p0_4 : w8_3 < 40 → w8_4 = w8_3 + 1 ∧ a10_4 = u1 a10_3 w8_3 (1 : Int) ∧ a11_4 = u1 a11_3 w8_3 (0 : Int) := p0_4
  have rw8_4 : 0 ≤ w8_4 ∧ w8_4 ≤ 40 := hP.2.1 8
  have hA3 := p0_4 (by omega)
  clear p0_4
  have hw3 : w8_4 = 4 := by omega
  have hT3 : a10_4 = (u1 (u1 (u1 (u1 (f 10) 0 6) 1 0) 2 9) 3 1) := by rw [hA3.2.1, hT2, hw2]
  have hN3 : a11_4 = (u1 (u1 (u1 (u1 (f 11) 0 100) 1 0) 2 0) 3 0) := by rw [hA3.2.2, hN2, hw2]
  refine lv_aload_n hx hb dX4_setUntold_37 rfl (lv_at hl 0 rfl) ?_
  refine lv_bipush (v := iI 7) hx hb dX4_setUntold_38 (by decide) ?_
  refine lv_iconst (v := iI 0) hx hb dX4_setUntold_40 rfl ?_
  refine g_cv (As := [.int (iI 7), .int (iI 0)]) (rest := []) (n := 2) C hml (e_La_addItem l D k A ad hD (va_up (va_up (va_up (va_up v 7 0) 8 w8_4) 9 (v 9)) 10 (v 10)) (va_up (va_up (va_up (va_up f 10 a10_4) 11 a11_4) 12 (f 12)) 13 (f 13)) g 7 0 (by decide) (by decide) (show 0 ≤ (7 : Int) ∧ (7 : Int) ≤ 10 from by omega) (show 0 ≤ (0 : Int) ∧ (0 : Int) ≤ 999999 from by omega)) mM_X4_38 mI_X4_addItem mE_X4_addItem mN_X4 mC_X4_addItem (by decide +kernel) 14 (ci := 4) rfl rfl hP hS (fun _ h => h) ⟨Nat.le_of_ble_eq_true rfl, Nat.le_of_ble_eq_true rfl⟩ ⟨Nat.zero_le _, Nat.zero_le _⟩ hl.1 rfl rfl (Nat.le_of_ble_eq_true rfl) dX4_setUntold_41 (fun r_5 v_5 f_5 g_5 H locs hq_5 hP _ hS => ?_)
  obtain ⟨w8_5, a10_5, a11_5, rfl, rfl, rfl, rfl, p0_5⟩ := hq_5
  show W p l e (gRm 1 22) s m args below meth c _ _ 0 0 Q (F0 m 44 ls [])
  have hP : gWd D (rwT k ad) (va_up (va_up (va_up (va_up v 7 0) 8 w8_5) 9 (v 9)) 10 (v 10)) (va_up (va_up (va_up (va_up f 10 a10_5) 11 a11_5) 12 (f 12)) 13 (f 13)) g H := ⟨hP.1, (gF_up (V := rwV) (F := rwF) (gF_up (V := rwV) (F := rwF) (gF_up (V := rwV) (F := rwF) (gF_up (V := rwV) (F := rwF) (gR_up (V := rwV) (F := rwF) (gR_up (V := rwV) (F := rwF) (gR_up (V := rwV) (F := rwF) (gR_up (V := rwV) (F := rwF) ⟨hok.1, hok.2⟩ 7 (hP.2.1 7)) 8 (hP.2.1 8)) 9 (hP.2.1 9)) 10 (hP.2.1 10)) 10 (hP.2.2 10)) 11 (hP.2.2 11)) 12 (hP.2.2 12)) 13 (hP.2.2 13))⟩
  replace p0_5 : w8_4 < 40 → w8_5 = w8_4 + 1 ∧ a10_5 = u1 a10_4 w8_4 (7 : Int) ∧ a11_5 = u1 a11_4 w8_4 (0 : Int) := p0_5
  have rw8_5 : 0 ≤ w8_5 ∧ w8_5 ≤ 40 := hP.2.1 8
  have hA4 := p0_5 (by omega)
  clear p0_5
  have hw4 : w8_5 = 5 := by omega
  have hT4 : a10_5 = (u1 (u1 (u1 (u1 (u1 (f 10) 0 6) 1 0) 2 9) 3 1) 4 7) := by rw [hA4.2.1, hT3, hw3]
  have hN4 : a11_5 = (u1 (u1 (u1 (u1 (u1 (f 11) 0 100) 1 0) 2 0) 3 0) 4 0) := by rw [hA4.2.2, hN3, hw3]
  refine lv_aload_n hx hb dX4_setUntold_44 rfl (lv_at hl 0 rfl) ?_
  refine lv_iconst (v := iI 0) hx hb dX4_setUntold_45 rfl ?_
  refine rwP_reader_draft_keys (v1 := (va_up (va_up (va_up (va_up v 7 0) 8 w8_5) 9 0) 10 (v 10))) C hP hD hS mF_X4_42 (by decide) rfl (Or.inr (gF_up (V := rwV) (F := rwF) (gF_up (V := rwV) (F := rwF) (gF_up (V := rwV) (F := rwF) (gF_up (V := rwV) (F := rwF) (gR_up (V := rwV) (F := rwF) (gR_up (V := rwV) (F := rwF) (gR_up (V := rwV) (F := rwF) (gR_up (V := rwV) (F := rwF) ⟨hok.1, hok.2⟩ 7 (hP.2.1 7)) 8 (hP.2.1 8)) 9 (show 0 ≤ 0 ∧ 0 ≤ 4 from by decide)) 10 (hP.2.1 10)) 10 (hP.2.2 10)) 11 (hP.2.2 11)) 12 (hP.2.2 12)) 13 (hP.2.2 13))) dX4_setUntold_46 (fun H locs hP hS => ?_)
  refine lv_aload_n hx hb dX4_setUntold_49 rfl (lv_at hl 0 rfl) ?_
  refine lv_iconst (v := iI 0) hx hb dX4_setUntold_50 rfl ?_
  refine lv_iconst (v := iI 1) hx hb dX4_setUntold_51 rfl ?_
  refine g_cv (As := [.int (iI 0), .int (iI 1)]) (rest := []) (n := 2) C hml (q_e_La_addKey l D k A ad hD (va_up (va_up (va_up (va_up v 7 0) 8 w8_5) 9 0) 10 (v 10)) (va_up (va_up (va_up (va_up f 10 a10_5) 11 a11_5) 12 (f 12)) 13 (f 13)) g 0 1 (by decide) (by decide) (show 0 ≤ (0 : Int) ∧ (0 : Int) ≤ 3 from by omega)) mM_X4_45 mI_X4_addKey mE_X4_addKey mN_X4 mC_X4_addKey (by decide +kernel) 14 (ci := 4) rfl rfl hP hS (fun _ h => h) ⟨Nat.le_of_ble_eq_true rfl, Nat.le_of_ble_eq_true rfl⟩ ⟨Nat.zero_le _, Nat.zero_le _⟩ hl.1 rfl rfl (Nat.le_of_ble_eq_true rfl) dX4_setUntold_52 (fun r_6 v_6 f_6 g_6 H locs hq_6 hP _ hS => ?_)
  obtain ⟨w9_6, a12_6, a13_6, rfl, rfl, rfl, rfl, p0_6, p1_6⟩ := hq_6
  show W p l e (gRm 1 22) s m args below meth c _ _ 0 0 Q (F0 m 55 ls [])
  have hP : gWd D (rwT k ad) (va_up (va_up (va_up (va_up v 7 0) 8 w8_5) 9 w9_6) 10 (v 10)) (va_up (va_up (va_up (va_up f 10 a10_5) 11 a11_5) 12 a12_6) 13 a13_6) g H := ⟨hP.1, (gF_up (V := rwV) (F := rwF) (gF_up (V := rwV) (F := rwF) (gF_up (V := rwV) (F := rwF) (gF_up (V := rwV) (F := rwF) (gR_up (V := rwV) (F := rwF) (gR_up (V := rwV) (F := rwF) (gR_up (V := rwV) (F := rwF) (gR_up (V := rwV) (F := rwF) ⟨hok.1, hok.2⟩ 7 (hP.2.1 7)) 8 (hP.2.1 8)) 9 (hP.2.1 9)) 10 (hP.2.1 10)) 10 (hP.2.2 10)) 11 (hP.2.2 11)) 12 (hP.2.2 12)) 13 (hP.2.2 13))⟩
  replace p0_6 : (0 : Int) < 4 → w9_6 = (0 : Int) + 1 := p0_6
  replace p1_6 : (0 : Int) < 4 → a12_6 = u1 (f 12) (0 : Int) (0 : Int) ∧ a13_6 = u1 (f 13) (0 : Int) (if (1 : Int) = 0 then 0 else 1) := p1_6
  have rw9_6 : 0 ≤ w9_6 ∧ w9_6 ≤ 4 := hP.2.1 9
  have hK0 := p0_6 (by omega)
  have hK1 := p1_6 (by omega)
  refine lv_aload_n hx hb dX4_setUntold_55 rfl (lv_at hl 0 rfl) ?_
  refine lv_iconst (v := iI 0) hx hb dX4_setUntold_56 rfl ?_
  refine rwP_reader_draft_back (v1 := (va_up (va_up (va_up (va_up v 7 0) 8 w8_5) 9 w9_6) 10 0)) C hP hD hS mF_X4_49 (by decide) (by decide) rfl (Or.inr (gF_up (V := rwV) (F := rwF) (gF_up (V := rwV) (F := rwF) (gF_up (V := rwV) (F := rwF) (gF_up (V := rwV) (F := rwF) (gR_up (V := rwV) (F := rwF) (gR_up (V := rwV) (F := rwF) (gR_up (V := rwV) (F := rwF) (gR_up (V := rwV) (F := rwF) ⟨hok.1, hok.2⟩ 7 (hP.2.1 7)) 8 (hP.2.1 8)) 9 (hP.2.1 9)) 10 (show 0 ≤ 0 ∧ 0 ≤ 1 from by decide)) 10 (hP.2.2 10)) 11 (hP.2.2 11)) 12 (hP.2.2 12)) 13 (hP.2.2 13))) dX4_setUntold_57 (fun H locs hP hS => ?_)
  exact g_vret hQ C hr hlocks hP hS dX4_setUntold_60 ⟨w8_5, w9_6, a10_5, a11_5, a12_6, a13_6, rfl, rfl, rfl, rfl, (by rw [hw4, hT4, hN4]; exact rep_un ⟨rfl, rfl⟩ ⟨rfl, rfl⟩ ⟨rfl, rfl⟩ ⟨rfl, rfl⟩ ⟨rfl, rfl⟩), (by rw [hK1.1, hK1.2]; exact ⟨by omega, rfl, rfl⟩)⟩

set_option maxHeartbeats 4000000 in
set_option maxRecDepth 100000 in
theorem q_e_La_read (l : Launch) (D : va_G) (k : Nat → ClassId) (A : Nat → Prop) (ad : Nat → Nat) (hD : rwD A k ad) (za : Nat → Nat) (v : gV) (f g : gF) (a2 : Int) (h_a2 : inR a2) (h2 : 0 ≤ a2 ∧ a2 ≤ 700) : GE l D k za A (rwT k ad) yX3_read cX3_read 4 none 7 161 [.ref (ad 9), .ref (ad 1), .int (iI a2)] v f g (fun r v1 f1 g1 => ∃ (w5 : Int) (w6 : Int) (w7 : Int) (w8 : Int) (w9 : Int) (w10 : Int) (w11 : Int) (w12 : Int) (w13 : Int) (w14 : Int) (w15 : Int) (w16 : Int) (w17 : Int) (w18 : Int) (w19 : Int) (w20 : Int) (a6_ : Int → Int) (a7_ : Int → Int) (a8_ : Int → Int) (a9_ : Int → Int) (a10_ : Int → Int) (a11_ : Int → Int) (a12_ : Int → Int) (a13_ : Int → Int) (a14_ : Int → Int), r = none ∧ (va_up (va_up (va_up (va_up (va_up (va_up (va_up (va_up (va_up (va_up (va_up (va_up (va_up (va_up (va_up (va_up v 5 w5) 6 w6) 7 w7) 8 w8) 9 w9) 10 w10) 11 w11) 12 w12) 13 w13) 14 w14) 15 w15) 16 w16) 17 w17) 18 w18) 19 w19) 20 w20) = v1 ∧ (va_up (va_up (va_up (va_up (va_up (va_up (va_up (va_up (va_up f 6 a6_) 7 a7_) 8 a8_) 9 a9_) 10 a10_) 11 a11_) 12 a12_) 13 a13_) 14 a14_) = f1 ∧ g = g1 ∧ (w16 = (txt (f 0) a2 702 (run bW (f 0) a2 0) 0 0 0 0).1) ∧ ((txt (f 0) a2 702 (run bW (f 0) a2 0) 0 0 0 0).1 ≠ 0 → w17 = (txt (f 0) a2 702 (run bW (f 0) a2 0) 0 0 0 0).2.1) ∧ ((txt (f 0) a2 702 (run bW (f 0) a2 0) 0 0 0 0).1 = 0 → w17 = (-1) ∧ w7 = (txt (f 0) a2 702 (run bW (f 0) a2 0) 0 0 0 0).2.2) ∧ (w16 = 0 → shOk w7 a9_) ∧ (w16 = 0 → ∀ j, 0 ≤ j → j < w7 → shC (f 0) a2 (rdP (f 0) a2 702 (run bW (f 0) a2 0) 0 j) a9_ j) ∧ (w16 = 0 → repC id (exL (f 0) a2 (txP (f 0) a2 261 702 (run bW (f 0) a2 0) (-1))) a10_ a11_ w8) ∧ (w16 = 0 → kyOk (f 0) a2 (txP (f 0) a2 262 702 (run bW (f 0) a2 0) (-1)) a12_ a13_ w9) ∧ (w16 = 0 → w10 = tiV (f 0) a2 (txP (f 0) a2 263 702 (run bW (f 0) a2 0) (-1)))) := by
  refine GE.of (by decide) (Nat.le_of_ble_eq_true rfl) ?_
  intro p e s m args below meth c Q ls hQ C hml hr hlocks hP hl hE
  have hx := C.1
  have hb := C.2.1
  have hok := hP.2
  have hS : va_S A s.heap s.heap [] := va_S.rf
  have hl : lv_has ls 4 [(0, .ref (ad 9)), (1, .ref (ad 1)), (2, .int (iI a2))] := hl
  have hP : gWd D (rwT k ad) (va_up (va_up (va_up (va_up (va_up (va_up (va_up (va_up (va_up (va_up (va_up (va_up (va_up (va_up (va_up (va_up v 5 (v 5)) 6 (v 6)) 7 (v 7)) 8 (v 8)) 9 (v 9)) 10 (v 10)) 11 (v 11)) 12 (v 12)) 13 (v 13)) 14 (v 14)) 15 (v 15)) 16 (v 16)) 17 (v 17)) 18 (v 18)) 19 (v 19)) 20 (v 20)) (va_up (va_up (va_up (va_up (va_up (va_up (va_up (va_up (va_up f 6 (f 6)) 7 (f 7)) 8 (f 8)) 9 (f 9)) 10 (f 10)) 11 (f 11)) 12 (f 12)) 13 (f 13)) 14 (f 14)) g s.heap := by rw [va_id, va_id, va_id, va_id, va_id, va_id, va_id, va_id, va_id, va_id, va_id, va_id, va_id, va_id, va_id, va_id, va_id, va_id, va_id, va_id, va_id, va_id, va_id, va_id, va_id]; exact hP
  refine lv_aload_n hx hb dX3_read_0 rfl (lv_at hl 0 rfl) ?_
  refine lv_iconst (v := iI 0) hx hb dX3_read_1 rfl ?_
  refine rwP_reader_fault (v1 := (va_up (va_up (va_up (va_up (va_up (va_up (va_up (va_up (va_up (va_up (va_up (va_up (va_up (va_up (va_up (va_up v 5 (v 5)) 6 (v 6)) 7 (v 7)) 8 (v 8)) 9 (v 9)) 10 (v 10)) 11 (v 11)) 12 (v 12)) 13 (v 13)) 14 (v 14)) 15 (v 15)) 16 0) 17 (v 17)) 18 (v 18)) 19 (v 19)) 20 (v 20))) C hP hD hS mF_X3_32 (by decide) rfl (Or.inr (gF_up (V := rwV) (F := rwF) (gF_up (V := rwV) (F := rwF) (gF_up (V := rwV) (F := rwF) (gF_up (V := rwV) (F := rwF) (gF_up (V := rwV) (F := rwF) (gF_up (V := rwV) (F := rwF) (gF_up (V := rwV) (F := rwF) (gF_up (V := rwV) (F := rwF) (gF_up (V := rwV) (F := rwF) (gR_up (V := rwV) (F := rwF) (gR_up (V := rwV) (F := rwF) (gR_up (V := rwV) (F := rwF) (gR_up (V := rwV) (F := rwF) (gR_up (V := rwV) (F := rwF) (gR_up (V := rwV) (F := rwF) (gR_up (V := rwV) (F := rwF) (gR_up (V := rwV) (F := rwF) (gR_up (V := rwV) (F := rwF) (gR_up (V := rwV) (F := rwF) (gR_up (V := rwV) (F := rwF) (gR_up (V := rwV) (F := rwF) (gR_up (V := rwV) (F := rwF) (gR_up (V := rwV) (F := rwF) (gR_up (V := rwV) (F := rwF) (gR_up (V := rwV) (F := rwF) ⟨hok.1, hok.2⟩ 5 (hP.2.1 5)) 6 (hP.2.1 6)) 7 (hP.2.1 7)) 8 (hP.2.1 8)) 9 (hP.2.1 9)) 10 (hP.2.1 10)) 11 (hP.2.1 11)) 12 (hP.2.1 12)) 13 (hP.2.1 13)) 14 (hP.2.1 14)) 15 (hP.2.1 15)) 16 (show 0 ≤ 0 ∧ 0 ≤ 5 from by decide)) 17 (hP.2.1 17)) 18 (hP.2.1 18)) 19 (hP.2.1 19)) 20 (hP.2.1 20)) 6 (hP.2.2 6)) 7 (hP.2.2 7)) 8 (hP.2.2 8)) 9 (hP.2.2 9)) 10 (hP.2.2 10)) 11 (hP.2.2 11)) 12 (hP.2.2 12)) 13 (hP.2.2 13)) 14 (hP.2.2 14))) dX3_read_2 (fun H locs hP hS => ?_)
  refine lv_aload_n hx hb dX3_read_5 rfl (lv_at hl 0 rfl) ?_
  refine lv_iconst (v := iI (-1)) hx hb dX3_read_6 rfl ?_
  refine rwP_reader_faultPlace (v1 := (va_up (va_up (va_up (va_up (va_up (va_up (va_up (va_up (va_up (va_up (va_up (va_up (va_up (va_up (va_up (va_up v 5 (v 5)) 6 (v 6)) 7 (v 7)) 8 (v 8)) 9 (v 9)) 10 (v 10)) 11 (v 11)) 12 (v 12)) 13 (v 13)) 14 (v 14)) 15 (v 15)) 16 0) 17 (-1)) 18 (v 18)) 19 (v 19)) 20 (v 20))) C hP hD hS mF_X3_36 (by decide) rfl (Or.inr (gF_up (V := rwV) (F := rwF) (gF_up (V := rwV) (F := rwF) (gF_up (V := rwV) (F := rwF) (gF_up (V := rwV) (F := rwF) (gF_up (V := rwV) (F := rwF) (gF_up (V := rwV) (F := rwF) (gF_up (V := rwV) (F := rwF) (gF_up (V := rwV) (F := rwF) (gF_up (V := rwV) (F := rwF) (gR_up (V := rwV) (F := rwF) (gR_up (V := rwV) (F := rwF) (gR_up (V := rwV) (F := rwF) (gR_up (V := rwV) (F := rwF) (gR_up (V := rwV) (F := rwF) (gR_up (V := rwV) (F := rwF) (gR_up (V := rwV) (F := rwF) (gR_up (V := rwV) (F := rwF) (gR_up (V := rwV) (F := rwF) (gR_up (V := rwV) (F := rwF) (gR_up (V := rwV) (F := rwF) (gR_up (V := rwV) (F := rwF) (gR_up (V := rwV) (F := rwF) (gR_up (V := rwV) (F := rwF) (gR_up (V := rwV) (F := rwF) (gR_up (V := rwV) (F := rwF) ⟨hok.1, hok.2⟩ 5 (hP.2.1 5)) 6 (hP.2.1 6)) 7 (hP.2.1 7)) 8 (hP.2.1 8)) 9 (hP.2.1 9)) 10 (hP.2.1 10)) 11 (hP.2.1 11)) 12 (hP.2.1 12)) 13 (hP.2.1 13)) 14 (hP.2.1 14)) 15 (hP.2.1 15)) 16 (hP.2.1 16)) 17 (show (-1) ≤ (-1) ∧ (-1) ≤ 700 from by decide)) 18 (hP.2.1 18)) 19 (hP.2.1 19)) 20 (hP.2.1 20)) 6 (hP.2.2 6)) 7 (hP.2.2 7)) 8 (hP.2.2 8)) 9 (hP.2.2 9)) 10 (hP.2.2 10)) 11 (hP.2.2 11)) 12 (hP.2.2 12)) 13 (hP.2.2 13)) 14 (hP.2.2 14))) dX3_read_7 (fun H locs hP hS => ?_)
  refine lv_aload_n hx hb dX3_read_10 rfl (lv_at hl 0 rfl) ?_
  refine lv_iconst (v := iI 0) hx hb dX3_read_11 rfl ?_
  refine rwP_reader_pointsTold (v1 := (va_up (va_up (va_up (va_up (va_up (va_up (va_up (va_up (va_up (va_up (va_up (va_up (va_up (va_up (va_up (va_up v 5 (v 5)) 6 (v 6)) 7 (v 7)) 8 (v 8)) 9 (v 9)) 10 (v 10)) 11 (v 11)) 12 (v 12)) 13 (v 13)) 14 (v 14)) 15 (v 15)) 16 0) 17 (-1)) 18 0) 19 (v 19)) 20 (v 20))) C hP hD hS mF_X3_39 (by decide) (by decide) rfl (Or.inr (gF_up (V := rwV) (F := rwF) (gF_up (V := rwV) (F := rwF) (gF_up (V := rwV) (F := rwF) (gF_up (V := rwV) (F := rwF) (gF_up (V := rwV) (F := rwF) (gF_up (V := rwV) (F := rwF) (gF_up (V := rwV) (F := rwF) (gF_up (V := rwV) (F := rwF) (gF_up (V := rwV) (F := rwF) (gR_up (V := rwV) (F := rwF) (gR_up (V := rwV) (F := rwF) (gR_up (V := rwV) (F := rwF) (gR_up (V := rwV) (F := rwF) (gR_up (V := rwV) (F := rwF) (gR_up (V := rwV) (F := rwF) (gR_up (V := rwV) (F := rwF) (gR_up (V := rwV) (F := rwF) (gR_up (V := rwV) (F := rwF) (gR_up (V := rwV) (F := rwF) (gR_up (V := rwV) (F := rwF) (gR_up (V := rwV) (F := rwF) (gR_up (V := rwV) (F := rwF) (gR_up (V := rwV) (F := rwF) (gR_up (V := rwV) (F := rwF) (gR_up (V := rwV) (F := rwF) ⟨hok.1, hok.2⟩ 5 (hP.2.1 5)) 6 (hP.2.1 6)) 7 (hP.2.1 7)) 8 (hP.2.1 8)) 9 (hP.2.1 9)) 10 (hP.2.1 10)) 11 (hP.2.1 11)) 12 (hP.2.1 12)) 13 (hP.2.1 13)) 14 (hP.2.1 14)) 15 (hP.2.1 15)) 16 (hP.2.1 16)) 17 (hP.2.1 17)) 18 (show 0 ≤ 0 ∧ 0 ≤ 1 from by decide)) 19 (hP.2.1 19)) 20 (hP.2.1 20)) 6 (hP.2.2 6)) 7 (hP.2.2 7)) 8 (hP.2.2 8)) 9 (hP.2.2 9)) 10 (hP.2.2 10)) 11 (hP.2.2 11)) 12 (hP.2.2 12)) 13 (hP.2.2 13)) 14 (hP.2.2 14))) dX3_read_12 (fun H locs hP hS => ?_)
  refine lv_aload_n hx hb dX3_read_15 rfl (lv_at hl 0 rfl) ?_
  refine lv_iconst (v := iI 0) hx hb dX3_read_16 rfl ?_
  refine rwP_reader_keysTold (v1 := (va_up (va_up (va_up (va_up (va_up (va_up (va_up (va_up (va_up (va_up (va_up (va_up (va_up (va_up (va_up (va_up v 5 (v 5)) 6 (v 6)) 7 (v 7)) 8 (v 8)) 9 (v 9)) 10 (v 10)) 11 (v 11)) 12 (v 12)) 13 (v 13)) 14 (v 14)) 15 (v 15)) 16 0) 17 (-1)) 18 0) 19 0) 20 (v 20))) C hP hD hS mF_X3_43 (by decide) (by decide) rfl (Or.inr (gF_up (V := rwV) (F := rwF) (gF_up (V := rwV) (F := rwF) (gF_up (V := rwV) (F := rwF) (gF_up (V := rwV) (F := rwF) (gF_up (V := rwV) (F := rwF) (gF_up (V := rwV) (F := rwF) (gF_up (V := rwV) (F := rwF) (gF_up (V := rwV) (F := rwF) (gF_up (V := rwV) (F := rwF) (gR_up (V := rwV) (F := rwF) (gR_up (V := rwV) (F := rwF) (gR_up (V := rwV) (F := rwF) (gR_up (V := rwV) (F := rwF) (gR_up (V := rwV) (F := rwF) (gR_up (V := rwV) (F := rwF) (gR_up (V := rwV) (F := rwF) (gR_up (V := rwV) (F := rwF) (gR_up (V := rwV) (F := rwF) (gR_up (V := rwV) (F := rwF) (gR_up (V := rwV) (F := rwF) (gR_up (V := rwV) (F := rwF) (gR_up (V := rwV) (F := rwF) (gR_up (V := rwV) (F := rwF) (gR_up (V := rwV) (F := rwF) (gR_up (V := rwV) (F := rwF) ⟨hok.1, hok.2⟩ 5 (hP.2.1 5)) 6 (hP.2.1 6)) 7 (hP.2.1 7)) 8 (hP.2.1 8)) 9 (hP.2.1 9)) 10 (hP.2.1 10)) 11 (hP.2.1 11)) 12 (hP.2.1 12)) 13 (hP.2.1 13)) 14 (hP.2.1 14)) 15 (hP.2.1 15)) 16 (hP.2.1 16)) 17 (hP.2.1 17)) 18 (hP.2.1 18)) 19 (show 0 ≤ 0 ∧ 0 ≤ 1 from by decide)) 20 (hP.2.1 20)) 6 (hP.2.2 6)) 7 (hP.2.2 7)) 8 (hP.2.2 8)) 9 (hP.2.2 9)) 10 (hP.2.2 10)) 11 (hP.2.2 11)) 12 (hP.2.2 12)) 13 (hP.2.2 13)) 14 (hP.2.2 14))) dX3_read_17 (fun H locs hP hS => ?_)
  refine lv_aload_n hx hb dX3_read_20 rfl (lv_at hl 0 rfl) ?_
  refine lv_iconst (v := iI 0) hx hb dX3_read_21 rfl ?_
  refine rwP_reader_tiesTold (v1 := (va_up (va_up (va_up (va_up (va_up (va_up (va_up (va_up (va_up (va_up (va_up (va_up (va_up (va_up (va_up (va_up v 5 (v 5)) 6 (v 6)) 7 (v 7)) 8 (v 8)) 9 (v 9)) 10 (v 10)) 11 (v 11)) 12 (v 12)) 13 (v 13)) 14 (v 14)) 15 (v 15)) 16 0) 17 (-1)) 18 0) 19 0) 20 0)) C hP hD hS mF_X3_46 (by decide) (by decide) rfl (Or.inr (gF_up (V := rwV) (F := rwF) (gF_up (V := rwV) (F := rwF) (gF_up (V := rwV) (F := rwF) (gF_up (V := rwV) (F := rwF) (gF_up (V := rwV) (F := rwF) (gF_up (V := rwV) (F := rwF) (gF_up (V := rwV) (F := rwF) (gF_up (V := rwV) (F := rwF) (gF_up (V := rwV) (F := rwF) (gR_up (V := rwV) (F := rwF) (gR_up (V := rwV) (F := rwF) (gR_up (V := rwV) (F := rwF) (gR_up (V := rwV) (F := rwF) (gR_up (V := rwV) (F := rwF) (gR_up (V := rwV) (F := rwF) (gR_up (V := rwV) (F := rwF) (gR_up (V := rwV) (F := rwF) (gR_up (V := rwV) (F := rwF) (gR_up (V := rwV) (F := rwF) (gR_up (V := rwV) (F := rwF) (gR_up (V := rwV) (F := rwF) (gR_up (V := rwV) (F := rwF) (gR_up (V := rwV) (F := rwF) (gR_up (V := rwV) (F := rwF) (gR_up (V := rwV) (F := rwF) ⟨hok.1, hok.2⟩ 5 (hP.2.1 5)) 6 (hP.2.1 6)) 7 (hP.2.1 7)) 8 (hP.2.1 8)) 9 (hP.2.1 9)) 10 (hP.2.1 10)) 11 (hP.2.1 11)) 12 (hP.2.1 12)) 13 (hP.2.1 13)) 14 (hP.2.1 14)) 15 (hP.2.1 15)) 16 (hP.2.1 16)) 17 (hP.2.1 17)) 18 (hP.2.1 18)) 19 (hP.2.1 19)) 20 (show 0 ≤ 0 ∧ 0 ≤ 1 from by decide)) 6 (hP.2.2 6)) 7 (hP.2.2 7)) 8 (hP.2.2 8)) 9 (hP.2.2 9)) 10 (hP.2.2 10)) 11 (hP.2.2 11)) 12 (hP.2.2 12)) 13 (hP.2.2 13)) 14 (hP.2.2 14))) dX3_read_22 (fun H locs hP hS => ?_)
  refine lv_aload_n hx hb dX3_read_25 rfl (lv_at hl 0 rfl) ?_
  refine rwG_reader_draft C hP mF_X3_21 dX3_read_26 ?_
  refine g_cv (As := []) (rest := []) (n := 0) C hml (q_e_La_setUntold l D k A ad hD (va_up (va_up (va_up (va_up (va_up (va_up (va_up (va_up (va_up (va_up (va_up (va_up (va_up (va_up (va_up (va_up v 5 (v 5)) 6 (v 6)) 7 (v 7)) 8 (v 8)) 9 (v 9)) 10 (v 10)) 11 (v 11)) 12 (v 12)) 13 (v 13)) 14 (v 14)) 15 (v 15)) 16 0) 17 (-1)) 18 0) 19 0) 20 0) (va_up (va_up (va_up (va_up (va_up (va_up (va_up (va_up (va_up f 6 (f 6)) 7 (f 7)) 8 (f 8)) 9 (f 9)) 10 (f 10)) 11 (f 11)) 12 (f 12)) 13 (f 13)) 14 (f 14)) g) mM_X3_49 mI_X4_setUntold mE_X4_setUntold mN_X4 mC_X4_setUntold (by decide +kernel) 14 (ci := 4) rfl rfl hP hS (fun _ h => h) ⟨Nat.le_of_ble_eq_true rfl, Nat.le_of_ble_eq_true rfl⟩ ⟨Nat.zero_le _, Nat.zero_le _⟩ hl.1 rfl rfl (Nat.le_of_ble_eq_true rfl) dX3_read_29 (fun r_1 v_1 f_1 g_1 H locs hq_1 hP _ hS => ?_)
  obtain ⟨w8_1, w9_1, a10_1, a11_1, a12_1, a13_1, rfl, rfl, rfl, rfl, p0_1, p1_1⟩ := hq_1
  show W p l e (gRm 7 161) s m args below meth c _ _ 0 0 Q (F0 m 32 ls [])
  have hP : gWd D (rwT k ad) (va_up (va_up (va_up (va_up (va_up (va_up (va_up (va_up (va_up (va_up (va_up (va_up (va_up (va_up (va_up (va_up v 5 (v 5)) 6 (v 6)) 7 0) 8 w8_1) 9 w9_1) 10 0) 11 (v 11)) 12 (v 12)) 13 (v 13)) 14 (v 14)) 15 (v 15)) 16 0) 17 (-1)) 18 0) 19 0) 20 0) (va_up (va_up (va_up (va_up (va_up (va_up (va_up (va_up (va_up f 6 (f 6)) 7 (f 7)) 8 (f 8)) 9 (f 9)) 10 a10_1) 11 a11_1) 12 a12_1) 13 a13_1) 14 (f 14)) g H := ⟨hP.1, (gF_up (V := rwV) (F := rwF) (gF_up (V := rwV) (F := rwF) (gF_up (V := rwV) (F := rwF) (gF_up (V := rwV) (F := rwF) (gF_up (V := rwV) (F := rwF) (gF_up (V := rwV) (F := rwF) (gF_up (V := rwV) (F := rwF) (gF_up (V := rwV) (F := rwF) (gF_up (V := rwV) (F := rwF) (gR_up (V := rwV) (F := rwF) (gR_up (V := rwV) (F := rwF) (gR_up (V := rwV) (F := rwF) (gR_up (V := rwV) (F := rwF) (gR_up (V := rwV) (F := rwF) (gR_up (V := rwV) (F := rwF) (gR_up (V := rwV) (F := rwF) (gR_up (V := rwV) (F := rwF) (gR_up (V := rwV) (F := rwF) (gR_up (V := rwV) (F := rwF) (gR_up (V := rwV) (F := rwF) (gR_up (V := rwV) (F := rwF) (gR_up (V := rwV) (F := rwF) (gR_up (V := rwV) (F := rwF) (gR_up (V := rwV) (F := rwF) (gR_up (V := rwV) (F := rwF) ⟨hok.1, hok.2⟩ 5 (hP.2.1 5)) 6 (hP.2.1 6)) 7 (hP.2.1 7)) 8 (hP.2.1 8)) 9 (hP.2.1 9)) 10 (hP.2.1 10)) 11 (hP.2.1 11)) 12 (hP.2.1 12)) 13 (hP.2.1 13)) 14 (hP.2.1 14)) 15 (hP.2.1 15)) 16 (hP.2.1 16)) 17 (hP.2.1 17)) 18 (hP.2.1 18)) 19 (hP.2.1 19)) 20 (hP.2.1 20)) 6 (hP.2.2 6)) 7 (hP.2.2 7)) 8 (hP.2.2 8)) 9 (hP.2.2 9)) 10 (hP.2.2 10)) 11 (hP.2.2 11)) 12 (hP.2.2 12)) 13 (hP.2.2 13)) 14 (hP.2.2 14))⟩
  replace p0_1 : repC id [(7, 0), (1, 0), (9, 0), (0, 0), (6, 100)] a10_1 a11_1 w8_1 := p0_1
  replace p1_1 : w9_1 = 1 ∧ a12_1 0 = 0 ∧ a13_1 0 = 1 := p1_1
  have rw8_1 : 0 ≤ w8_1 ∧ w8_1 ≤ 40 := hP.2.1 8
  have rw9_1 : 0 ≤ w9_1 ∧ w9_1 ≤ 4 := hP.2.1 9
  have hU0 : repC id (exL (f 0) a2 (-1)) a10_1 a11_1 w8_1 := p0_1
  have hU1 := p1_1
  refine lv_aload_n hx hb dX3_read_32 rfl (lv_at hl 0 rfl) ?_
  refine rwG_reader_tokens C hP mF_X3_12 dX3_read_33 ?_
  refine lv_aload_n hx hb dX3_read_36 rfl (lv_at hl 1 rfl) ?_
  refine lv_iload_n hx hb dX3_read_37 rfl (lv_at hl 2 rfl) ?_
  refine g_cvE (As := [.ref (ad 1), .int (iI a2)]) (rest := []) (n := 2) C hE hml (e_To_split l D k A ad hD za (va_up (va_up (va_up (va_up (va_up (va_up (va_up (va_up (va_up (va_up (va_up (va_up (va_up (va_up (va_up (va_up v 5 (v 5)) 6 (v 6)) 7 0) 8 w8_1) 9 w9_1) 10 0) 11 (v 11)) 12 (v 12)) 13 (v 13)) 14 (v 14)) 15 (v 15)) 16 0) 17 (-1)) 18 0) 19 0) 20 0) (va_up (va_up (va_up (va_up (va_up (va_up (va_up (va_up (va_up f 6 (f 6)) 7 (f 7)) 8 (f 8)) 9 (f 9)) 10 a10_1) 11 a11_1) 12 a12_1) 13 a13_1) 14 (f 14)) g a2 (by omega) (show 0 ≤ a2 ∧ a2 ≤ 700 from h2)) mM_X3_52 mI_X6_split mE_X6_split mN_X6 mC_X6_split (by decide +kernel) 10 (ci := 6) rfl rfl hP hS (fun _ h => h) ⟨Nat.le_of_ble_eq_true rfl, Nat.le_of_ble_eq_true rfl⟩ ⟨Nat.zero_le _, Nat.zero_le _⟩ hl.1 rfl rfl (Nat.le_of_ble_eq_true rfl) dX3_read_38 (fun r_2 v_2 f_2 g_2 H locs hq_2 hP _ hS => ?_)
  obtain ⟨w5_2, a6_2, a7_2, a8_2, rfl, rfl, rfl, rfl, p0_2⟩ := hq_2
  show W p l e (gRm 7 161) s m args below meth c _ _ 0 0 Q (F0 m 41 ls [])
  have hP : gWd D (rwT k ad) (va_up (va_up (va_up (va_up (va_up (va_up (va_up (va_up (va_up (va_up (va_up (va_up (va_up (va_up (va_up (va_up v 5 w5_2) 6 0) 7 0) 8 w8_1) 9 w9_1) 10 0) 11 (v 11)) 12 (v 12)) 13 (v 13)) 14 (v 14)) 15 (v 15)) 16 0) 17 (-1)) 18 0) 19 0) 20 0) (va_up (va_up (va_up (va_up (va_up (va_up (va_up (va_up (va_up f 6 a6_2) 7 a7_2) 8 a8_2) 9 (f 9)) 10 a10_1) 11 a11_1) 12 a12_1) 13 a13_1) 14 (f 14)) g H := ⟨hP.1, (gF_up (V := rwV) (F := rwF) (gF_up (V := rwV) (F := rwF) (gF_up (V := rwV) (F := rwF) (gF_up (V := rwV) (F := rwF) (gF_up (V := rwV) (F := rwF) (gF_up (V := rwV) (F := rwF) (gF_up (V := rwV) (F := rwF) (gF_up (V := rwV) (F := rwF) (gF_up (V := rwV) (F := rwF) (gR_up (V := rwV) (F := rwF) (gR_up (V := rwV) (F := rwF) (gR_up (V := rwV) (F := rwF) (gR_up (V := rwV) (F := rwF) (gR_up (V := rwV) (F := rwF) (gR_up (V := rwV) (F := rwF) (gR_up (V := rwV) (F := rwF) (gR_up (V := rwV) (F := rwF) (gR_up (V := rwV) (F := rwF) (gR_up (V := rwV) (F := rwF) (gR_up (V := rwV) (F := rwF) (gR_up (V := rwV) (F := rwF) (gR_up (V := rwV) (F := rwF) (gR_up (V := rwV) (F := rwF) (gR_up (V := rwV) (F := rwF) (gR_up (V := rwV) (F := rwF) ⟨hok.1, hok.2⟩ 5 (hP.2.1 5)) 6 (hP.2.1 6)) 7 (hP.2.1 7)) 8 (hP.2.1 8)) 9 (hP.2.1 9)) 10 (hP.2.1 10)) 11 (hP.2.1 11)) 12 (hP.2.1 12)) 13 (hP.2.1 13)) 14 (hP.2.1 14)) 15 (hP.2.1 15)) 16 (hP.2.1 16)) 17 (hP.2.1 17)) 18 (hP.2.1 18)) 19 (hP.2.1 19)) 20 (hP.2.1 20)) 6 (hP.2.2 6)) 7 (hP.2.2 7)) 8 (hP.2.2 8)) 9 (hP.2.2 9)) 10 (hP.2.2 10)) 11 (hP.2.2 11)) 12 (hP.2.2 12)) 13 (hP.2.2 13)) 14 (hP.2.2 14))⟩
  replace p0_2 : tRow (f 0) a2 a6_2 a7_2 a8_2 w5_2 := p0_2
  have rw5_2 : 0 ≤ w5_2 ∧ w5_2 ≤ 701 := hP.2.1 5
  have hRow := p0_2
  refine lv_iconst (v := iI 0) hx hb dX3_read_41 rfl ?_
  refine lv_istore_n (lv' := [(3, .int (iI 0)), (0, .ref (ad 9)), (1, .ref (ad 1)), (2, .int (iI a2))]) hx hb dX3_read_42 rfl hl (by decide) rfl (fun ls hl => ?_)
  have L_3 : ∀ (n : Nat) (x3 : Int) (qq : Int) (e1 : Int) (e2 : Int) (e3 : Int) (y6_3 : Int) (y7_3 : Int) (y8_3 : Int) (y9_3 : Int) (y10_3 : Int) (y11_3 : Int) (y12_3 : Int) (y13_3 : Int) (y14_3 : Int) (y15_3 : Int) (y16_3 : Int) (y17_3 : Int) (y18_3 : Int) (y19_3 : Int) (y20_3 : Int) (c9_3 : Int → Int) (c10_3 : Int → Int) (c11_3 : Int → Int) (c12_3 : Int → Int) (c13_3 : Int → Int) (c14_3 : Int → Int) (H : Heap) (locs : List Loc) (ls : Array Slot), 701 - x3 < (n : Int) → (0 ≤ x3 ∧ x3 ≤ 701) → (tAt (f 0) a2 a6_2 a7_2 a8_2 w5_2 y6_3 qq) → (y16_3 = 0 → y17_3 = (-1) ∧ x3 ≤ qq) → (y16_3 = 0 → txt (f 0) a2 (702 - x3).toNat qq y7_3 y18_3 y19_3 y20_3 = (txt (f 0) a2 702 (run bW (f 0) a2 0) 0 0 0 0)) → (y16_3 ≠ 0 → y16_3 = (txt (f 0) a2 702 (run bW (f 0) a2 0) 0 0 0 0).1 ∧ y17_3 = (txt (f 0) a2 702 (run bW (f 0) a2 0) 0 0 0 0).2.1) → (y16_3 = 0 → shOk y7_3 c9_3) → (y16_3 = 0 → ∀ j, 0 ≤ j → j < y7_3 → shC (f 0) a2 (rdP (f 0) a2 702 (run bW (f 0) a2 0) 0 j) c9_3 j) → (y16_3 = 0 → repC id (exL (f 0) a2 e1) c10_3 c11_3 y8_3) → (y16_3 = 0 → kyOk (f 0) a2 e2 c12_3 c13_3 y9_3) → (y16_3 = 0 → y10_3 = tiV (f 0) a2 e3) → (y16_3 = 0 → ∀ j, y7_3 ≤ j → rdP (f 0) a2 (702 - x3).toNat qq y7_3 j = (rdP (f 0) a2 702 (run bW (f 0) a2 0) 0 j)) → (y16_3 = 0 → txP (f 0) a2 261 (702 - x3).toNat qq e1 = (txP (f 0) a2 261 702 (run bW (f 0) a2 0) (-1))) → (y16_3 = 0 → txP (f 0) a2 262 (702 - x3).toNat qq e2 = (txP (f 0) a2 262 702 (run bW (f 0) a2 0) (-1))) → (y16_3 = 0 → txP (f 0) a2 263 (702 - x3).toNat qq e3 = (txP (f 0) a2 263 702 (run bW (f 0) a2 0) (-1))) → gWd D (rwT k ad) (va_up (va_up (va_up (va_up (va_up (va_up (va_up (va_up (va_up (va_up (va_up (va_up (va_up (va_up (va_up (va_up v 5 w5_2) 6 y6_3) 7 y7_3) 8 y8_3) 9 y9_3) 10 y10_3) 11 y11_3) 12 y12_3) 13 y13_3) 14 y14_3) 15 y15_3) 16 y16_3) 17 y17_3) 18 y18_3) 19 y19_3) 20 y20_3) (va_up (va_up (va_up (va_up (va_up (va_up (va_up (va_up (va_up f 6 a6_2) 7 a7_2) 8 a8_2) 9 c9_3) 10 c10_3) 11 c11_3) 12 c12_3) 13 c13_3) 14 c14_3) g H → va_S A s.heap H locs → lv_has ls 4 [(0, .ref (ad 9)), (1, .ref (ad 1)), (2, .int (iI a2)), (3, .int (iI x3))] → W p l e (gRm 7 161) s m args below meth c H locs 0 0 Q (F0 m 43 ls []) := by
    intro n
    induction n with
    | zero =>
      intro x3 qq e1 e2 e3 y6_3 y7_3 y8_3 y9_3 y10_3 y11_3 y12_3 y13_3 y14_3 y15_3 y16_3 y17_3 y18_3 y19_3 y20_3 c9_3 c10_3 c11_3 c12_3 c13_3 c14_3 H locs ls hn_3 i3_0 i3_1 i3_2 i3_3 i3_4 i3_5 i3_6 i3_7 i3_8 i3_9 i3_10 i3_11 i3_12 i3_13 hP hS hl
      have ry6_3 : 0 ≤ y6_3 ∧ y6_3 ≤ 700 := hP.2.1 6
      have ry7_3 : 0 ≤ y7_3 ∧ y7_3 ≤ 4 := hP.2.1 7
      have ry8_3 : 0 ≤ y8_3 ∧ y8_3 ≤ 40 := hP.2.1 8
      have ry9_3 : 0 ≤ y9_3 ∧ y9_3 ≤ 4 := hP.2.1 9
      have ry10_3 : 0 ≤ y10_3 ∧ y10_3 ≤ 1 := hP.2.1 10
      have ry11_3 : 0 ≤ y11_3 ∧ y11_3 ≤ 27 := hP.2.1 11
      have ry12_3 : 0 ≤ y12_3 ∧ y12_3 ≤ 9 := hP.2.1 12
      have ry13_3 : 0 ≤ y13_3 ∧ y13_3 ≤ 9 := hP.2.1 13
      have ry14_3 : 0 ≤ y14_3 ∧ y14_3 ≤ 41 := hP.2.1 14
      have ry15_3 : 0 ≤ y15_3 ∧ y15_3 ≤ 5 := hP.2.1 15
      have ry16_3 : 0 ≤ y16_3 ∧ y16_3 ≤ 5 := hP.2.1 16
      have ry17_3 : (-1) ≤ y17_3 ∧ y17_3 ≤ 700 := hP.2.1 17
      have ry18_3 : 0 ≤ y18_3 ∧ y18_3 ≤ 1 := hP.2.1 18
      have ry19_3 : 0 ≤ y19_3 ∧ y19_3 ≤ 1 := hP.2.1 19
      have ry20_3 : 0 ≤ y20_3 ∧ y20_3 ≤ 1 := hP.2.1 20
      exfalso; omega
    | succ n ih_43 =>
      intro x3 qq e1 e2 e3 y6_3 y7_3 y8_3 y9_3 y10_3 y11_3 y12_3 y13_3 y14_3 y15_3 y16_3 y17_3 y18_3 y19_3 y20_3 c9_3 c10_3 c11_3 c12_3 c13_3 c14_3 H locs ls hn_3 i3_0 i3_1 i3_2 i3_3 i3_4 i3_5 i3_6 i3_7 i3_8 i3_9 i3_10 i3_11 i3_12 i3_13 hP hS hl
      have ry6_3 : 0 ≤ y6_3 ∧ y6_3 ≤ 700 := hP.2.1 6
      have ry7_3 : 0 ≤ y7_3 ∧ y7_3 ≤ 4 := hP.2.1 7
      have ry8_3 : 0 ≤ y8_3 ∧ y8_3 ≤ 40 := hP.2.1 8
      have ry9_3 : 0 ≤ y9_3 ∧ y9_3 ≤ 4 := hP.2.1 9
      have ry10_3 : 0 ≤ y10_3 ∧ y10_3 ≤ 1 := hP.2.1 10
      have ry11_3 : 0 ≤ y11_3 ∧ y11_3 ≤ 27 := hP.2.1 11
      have ry12_3 : 0 ≤ y12_3 ∧ y12_3 ≤ 9 := hP.2.1 12
      have ry13_3 : 0 ≤ y13_3 ∧ y13_3 ≤ 9 := hP.2.1 13
      have ry14_3 : 0 ≤ y14_3 ∧ y14_3 ≤ 41 := hP.2.1 14
      have ry15_3 : 0 ≤ y15_3 ∧ y15_3 ≤ 5 := hP.2.1 15
      have ry16_3 : 0 ≤ y16_3 ∧ y16_3 ≤ 5 := hP.2.1 16
      have ry17_3 : (-1) ≤ y17_3 ∧ y17_3 ≤ 700 := hP.2.1 17
      have ry18_3 : 0 ≤ y18_3 ∧ y18_3 ≤ 1 := hP.2.1 18
      have ry19_3 : 0 ≤ y19_3 ∧ y19_3 ≤ 1 := hP.2.1 19
      have ry20_3 : 0 ≤ y20_3 ∧ y20_3 ≤ 1 := hP.2.1 20
      have hC1 := Bx.mk i3_6
      have hC2 := Bx.mk i3_7
      have hC3 := Bx.mk i3_8
      have hC4 := Bx.mk i3_9
      have hC5 := Bx.mk i3_10
      have hC6 := Bx.mk i3_11
      have hC7 := Bx.mk i3_12
      have hC8 := Bx.mk i3_13
      clear i3_6 i3_7 i3_8 i3_9 i3_10 i3_11 i3_12 i3_13
      have hJ1 := i3_1
      have hJ2 := i3_2
      have hJ3 := i3_3
      have hJ4 := i3_4
      have hI := i3_5
      have hq1 := hJ1.p
      refine lv_iload_n hx hb dX3_read_43 rfl (lv_at hl 3 rfl) ?_
      refine lv_sipush (v := iI 700) hx hb dX3_read_44 (by decide) ?_
      refine gi_cgt (tgt := 80) hx hb dX3_read_47 (by decide) (by omega) (by decide) (fun c_4 => ?_) (fun c_4 => ?_)
      · exact g_vret hQ C hr hlocks hP hS dX3_read_80 ⟨w5_2, y6_3, y7_3, y8_3, y9_3, y10_3, y11_3, y12_3, y13_3, y14_3, y15_3, y16_3, y17_3, y18_3, y19_3, y20_3, a6_2, a7_2, a8_2, c9_3, c10_3, c11_3, c12_3, c13_3, c14_3, rfl, rfl, rfl, rfl, (if h0 : y16_3 = 0 then (by first | (exfalso; have h1 := hJ2 h0; omega) | (rw [← hJ3 h0, show (702 - x3).toNat = (702 - (x3 + 1)).toNat + 1 by omega, txt_end _ (by omega)]; exact h0)) else (hJ4 h0).1), (fun h => if h0 : y16_3 = 0 then (by exfalso; first | (have h1 := hJ2 h0; omega) | (rw [← hJ3 h0, show (702 - x3).toNat = (702 - (x3 + 1)).toNat + 1 by omega, txt_end _ (by omega)] at h; exact h rfl)) else (hJ4 h0).2), (fun h => if h0 : y16_3 = 0 then ⟨(hJ2 h0).1, by first | (exfalso; have h1 := hJ2 h0; omega) | (rw [← hJ3 h0, show (702 - x3).toNat = (702 - (x3 + 1)).toNat + 1 by omega, txt_end _ (by omega)])⟩ else absurd ((hJ4 h0).1.trans h) h0), hI, (fun h => hC1.get h), (fun h => by have h9 := hC6.get h; first | (exfalso; have h1 := hJ2 h; omega) | (rw [show (702 - x3).toNat = (702 - (x3 + 1)).toNat + 1 by omega, txP_end _ (by omega)] at h9; rw [← h9]; exact hC2.get h)), (fun h => by have h9 := hC7.get h; first | (exfalso; have h1 := hJ2 h; omega) | (rw [show (702 - x3).toNat = (702 - (x3 + 1)).toNat + 1 by omega, txP_end _ (by omega)] at h9; rw [← h9]; exact hC3.get h)), (fun h => by have h9 := hC8.get h; first | (exfalso; have h1 := hJ2 h; omega) | (rw [show (702 - x3).toNat = (702 - (x3 + 1)).toNat + 1 by omega, txP_end _ (by omega)] at h9; rw [← h9]; exact hC4.get h))⟩
      · refine lv_aload_n hx hb dX3_read_50 rfl (lv_at hl 0 rfl) ?_
        refine rwG_reader_fault C hP mF_X3_32 dX3_read_51 ?_
        show W p l e (gRm 7 161) s m args below meth c _ _ 0 0 Q (F0 m 54 ls [.int (iI y16_3)])
        have r_5 : 0 ≤ y16_3 ∧ y16_3 ≤ 5 := hP.2.1 16
        refine gi_zne (tgt := 80) hx hb dX3_read_54 (by decide) (by omega) (fun c_6 => ?_) (fun c_6 => ?_)
        · exact g_vret hQ C hr hlocks hP hS dX3_read_80 ⟨w5_2, y6_3, y7_3, y8_3, y9_3, y10_3, y11_3, y12_3, y13_3, y14_3, y15_3, y16_3, y17_3, y18_3, y19_3, y20_3, a6_2, a7_2, a8_2, c9_3, c10_3, c11_3, c12_3, c13_3, c14_3, rfl, rfl, rfl, rfl, (if h0 : y16_3 = 0 then (by first | (exfalso; have h1 := hJ2 h0; omega) | (rw [← hJ3 h0, show (702 - x3).toNat = (702 - (x3 + 1)).toNat + 1 by omega, txt_end _ (by omega)]; exact h0)) else (hJ4 h0).1), (fun h => if h0 : y16_3 = 0 then (by exfalso; first | (have h1 := hJ2 h0; omega) | (rw [← hJ3 h0, show (702 - x3).toNat = (702 - (x3 + 1)).toNat + 1 by omega, txt_end _ (by omega)] at h; exact h rfl)) else (hJ4 h0).2), (fun h => if h0 : y16_3 = 0 then ⟨(hJ2 h0).1, by first | (exfalso; have h1 := hJ2 h0; omega) | (rw [← hJ3 h0, show (702 - x3).toNat = (702 - (x3 + 1)).toNat + 1 by omega, txt_end _ (by omega)])⟩ else absurd ((hJ4 h0).1.trans h) h0), hI, (fun h => hC1.get h), (fun h => by have h9 := hC6.get h; first | (exfalso; have h1 := hJ2 h; omega) | (rw [show (702 - x3).toNat = (702 - (x3 + 1)).toNat + 1 by omega, txP_end _ (by omega)] at h9; rw [← h9]; exact hC2.get h)), (fun h => by have h9 := hC7.get h; first | (exfalso; have h1 := hJ2 h; omega) | (rw [show (702 - x3).toNat = (702 - (x3 + 1)).toNat + 1 by omega, txP_end _ (by omega)] at h9; rw [← h9]; exact hC3.get h)), (fun h => by have h9 := hC8.get h; first | (exfalso; have h1 := hJ2 h; omega) | (rw [show (702 - x3).toNat = (702 - (x3 + 1)).toNat + 1 by omega, txP_end _ (by omega)] at h9; rw [← h9]; exact hC4.get h))⟩
        · refine lv_aload_n hx hb dX3_read_57 rfl (lv_at hl 0 rfl) ?_
          refine rwG_reader_tokens C hP mF_X3_12 dX3_read_58 ?_
          refine g_cv (As := []) (rest := []) (n := 0) C hml (e_To_kind l D k A ad hD (va_up (va_up (va_up (va_up (va_up (va_up (va_up (va_up (va_up (va_up (va_up (va_up (va_up (va_up (va_up (va_up v 5 w5_2) 6 y6_3) 7 y7_3) 8 y8_3) 9 y9_3) 10 y10_3) 11 y11_3) 12 y12_3) 13 y13_3) 14 y14_3) 15 y15_3) 16 y16_3) 17 y17_3) 18 y18_3) 19 y19_3) 20 y20_3) (va_up (va_up (va_up (va_up (va_up (va_up (va_up (va_up (va_up f 6 a6_2) 7 a7_2) 8 a8_2) 9 c9_3) 10 c10_3) 11 c11_3) 12 c12_3) 13 c13_3) 14 c14_3) g a2 qq (show tAt (f 0) a2 a6_2 a7_2 a8_2 w5_2 y6_3 qq from hJ1)) mM_X3_56 mI_X6_kind mE_X6_kind mN_X6 mC_X6_kind (by decide +kernel) 10 (ci := 6) rfl rfl hP hS (fun _ h => h) ⟨Nat.le_of_ble_eq_true rfl, Nat.le_of_ble_eq_true rfl⟩ ⟨Nat.zero_le _, Nat.zero_le _⟩ hl.1 rfl rfl (Nat.le_of_ble_eq_true rfl) dX3_read_61 (fun r_7 v_7 f_7 g_7 H locs hq_7 hP _ hS => ?_)
          obtain ⟨z_7, rfl, rfl, rfl, rfl, p0_7, p1_7⟩ := hq_7
          show W p l e (gRm 7 161) s m args below meth c _ _ 0 0 Q (F0 m 64 ls [.int (iI z_7)])
          replace p0_7 : z_7 = (tK (f 0) a2 qq) := p0_7
          replace p1_7 : 40 ≤ z_7 ∧ z_7 ≤ 277 := p1_7
          have hz_7 : inR z_7 := (by first | omega | (rw [p0_7]; split <;> omega))
          have hKK := p0_7
          refine lv_sipush (v := iI 256) hx hb dX3_read_64 (by decide) ?_
          refine gi_ceq (tgt := 80) hx hb dX3_read_67 (by decide) (by omega) (by decide) (fun c_8 => ?_) (fun c_8 => ?_)
          · exact g_vret hQ C hr hlocks hP hS dX3_read_80 ⟨w5_2, y6_3, y7_3, y8_3, y9_3, y10_3, y11_3, y12_3, y13_3, y14_3, y15_3, y16_3, y17_3, y18_3, y19_3, y20_3, a6_2, a7_2, a8_2, c9_3, c10_3, c11_3, c12_3, c13_3, c14_3, rfl, rfl, rfl, rfl, (if h0 : y16_3 = 0 then (by first | (exfalso; have h1 := hJ2 h0; omega) | (rw [← hJ3 h0, show (702 - x3).toNat = (702 - (x3 + 1)).toNat + 1 by omega, txt_end _ (by omega)]; exact h0)) else (hJ4 h0).1), (fun h => if h0 : y16_3 = 0 then (by exfalso; first | (have h1 := hJ2 h0; omega) | (rw [← hJ3 h0, show (702 - x3).toNat = (702 - (x3 + 1)).toNat + 1 by omega, txt_end _ (by omega)] at h; exact h rfl)) else (hJ4 h0).2), (fun h => if h0 : y16_3 = 0 then ⟨(hJ2 h0).1, by first | (exfalso; have h1 := hJ2 h0; omega) | (rw [← hJ3 h0, show (702 - x3).toNat = (702 - (x3 + 1)).toNat + 1 by omega, txt_end _ (by omega)])⟩ else absurd ((hJ4 h0).1.trans h) h0), hI, (fun h => hC1.get h), (fun h => by have h9 := hC6.get h; first | (exfalso; have h1 := hJ2 h; omega) | (rw [show (702 - x3).toNat = (702 - (x3 + 1)).toNat + 1 by omega, txP_end _ (by omega)] at h9; rw [← h9]; exact hC2.get h)), (fun h => by have h9 := hC7.get h; first | (exfalso; have h1 := hJ2 h; omega) | (rw [show (702 - x3).toNat = (702 - (x3 + 1)).toNat + 1 by omega, txP_end _ (by omega)] at h9; rw [← h9]; exact hC3.get h)), (fun h => by have h9 := hC8.get h; first | (exfalso; have h1 := hJ2 h; omega) | (rw [show (702 - x3).toNat = (702 - (x3 + 1)).toNat + 1 by omega, txP_end _ (by omega)] at h9; rw [← h9]; exact hC4.get h))⟩
          · have hf0 : y16_3 = 0 := by omega
            have hlt : qq < a2 := by have := (not_congr (tK_end (B := (f 0)) (n := a2) (q := qq))).mp (by omega); omega
            have hge := tX_up (B := (f 0)) (n := a2) (q := qq) hlt
            refine lv_aload_n hx hb dX3_read_70 rfl (lv_at hl 0 rfl) ?_
            refine g_cvE (As := []) (rest := []) (n := 0) C hE hml (q_e_La_readLaw l D k A ad hD za (va_up (va_up (va_up (va_up (va_up (va_up (va_up (va_up (va_up (va_up (va_up (va_up (va_up (va_up (va_up (va_up v 5 w5_2) 6 y6_3) 7 y7_3) 8 y8_3) 9 y9_3) 10 y10_3) 11 y11_3) 12 y12_3) 13 y13_3) 14 y14_3) 15 y15_3) 16 y16_3) 17 y17_3) 18 y18_3) 19 y19_3) 20 y20_3) (va_up (va_up (va_up (va_up (va_up (va_up (va_up (va_up (va_up f 6 a6_2) 7 a7_2) 8 a8_2) 9 c9_3) 10 c10_3) 11 c11_3) 12 c12_3) 13 c13_3) 14 c14_3) g a2 qq (show tAt (f 0) a2 a6_2 a7_2 a8_2 w5_2 y6_3 qq from hJ1) (show a2 ≤ 700 from by omega) (show y16_3 = 0 from by omega) (show (tK (f 0) a2 qq) ≠ 256 from by omega) (show shOk y7_3 c9_3 from hI hf0)) mM_X3_60 mI_X3_readLaw mE_X3_readLaw mN_X3 mC_X3_readLaw (by decide +kernel) 9 (ci := 3) rfl rfl hP hS (fun _ h => h) ⟨Nat.le_of_ble_eq_true rfl, Nat.le_of_ble_eq_true rfl⟩ ⟨Nat.zero_le _, Nat.zero_le _⟩ hl.1 rfl rfl (Nat.le_of_ble_eq_true rfl) dX3_read_71 (fun r_9 v_9 f_9 g_9 H locs hq_9 hP _ hS => ?_)
            obtain ⟨w6_9, w7_9, w8_9, w9_9, w10_9, w11_9, w12_9, w13_9, w14_9, w15_9, w16_9, w17_9, w18_9, w19_9, w20_9, a9_9, a10_9, a11_9, a12_9, a13_9, a14_9, rfl, rfl, rfl, rfl, p0_9, p1_9, p2_9, p3_9, p4_9, p5_9, p6_9, p7_9⟩ := hq_9
            show W p l e (gRm 7 161) s m args below meth c _ _ 0 0 Q (F0 m 74 ls [])
            have hP : gWd D (rwT k ad) (va_up (va_up (va_up (va_up (va_up (va_up (va_up (va_up (va_up (va_up (va_up (va_up (va_up (va_up (va_up (va_up v 5 w5_2) 6 w6_9) 7 w7_9) 8 w8_9) 9 w9_9) 10 w10_9) 11 w11_9) 12 w12_9) 13 w13_9) 14 w14_9) 15 w15_9) 16 w16_9) 17 w17_9) 18 w18_9) 19 w19_9) 20 w20_9) (va_up (va_up (va_up (va_up (va_up (va_up (va_up (va_up (va_up f 6 a6_2) 7 a7_2) 8 a8_2) 9 a9_9) 10 a10_9) 11 a11_9) 12 a12_9) 13 a13_9) 14 a14_9) g H := ⟨hP.1, (gF_up (V := rwV) (F := rwF) (gF_up (V := rwV) (F := rwF) (gF_up (V := rwV) (F := rwF) (gF_up (V := rwV) (F := rwF) (gF_up (V := rwV) (F := rwF) (gF_up (V := rwV) (F := rwF) (gF_up (V := rwV) (F := rwF) (gF_up (V := rwV) (F := rwF) (gF_up (V := rwV) (F := rwF) (gR_up (V := rwV) (F := rwF) (gR_up (V := rwV) (F := rwF) (gR_up (V := rwV) (F := rwF) (gR_up (V := rwV) (F := rwF) (gR_up (V := rwV) (F := rwF) (gR_up (V := rwV) (F := rwF) (gR_up (V := rwV) (F := rwF) (gR_up (V := rwV) (F := rwF) (gR_up (V := rwV) (F := rwF) (gR_up (V := rwV) (F := rwF) (gR_up (V := rwV) (F := rwF) (gR_up (V := rwV) (F := rwF) (gR_up (V := rwV) (F := rwF) (gR_up (V := rwV) (F := rwF) (gR_up (V := rwV) (F := rwF) (gR_up (V := rwV) (F := rwF) ⟨hok.1, hok.2⟩ 5 (hP.2.1 5)) 6 (hP.2.1 6)) 7 (hP.2.1 7)) 8 (hP.2.1 8)) 9 (hP.2.1 9)) 10 (hP.2.1 10)) 11 (hP.2.1 11)) 12 (hP.2.1 12)) 13 (hP.2.1 13)) 14 (hP.2.1 14)) 15 (hP.2.1 15)) 16 (hP.2.1 16)) 17 (hP.2.1 17)) 18 (hP.2.1 18)) 19 (hP.2.1 19)) 20 (hP.2.1 20)) 6 (hP.2.2 6)) 7 (hP.2.2 7)) 8 (hP.2.2 8)) 9 (hP.2.2 9)) 10 (hP.2.2 10)) 11 (hP.2.2 11)) 12 (hP.2.2 12)) 13 (hP.2.2 13)) 14 (hP.2.2 14))⟩
            replace p0_9 : oX (f 0) a2 a6_2 a7_2 a8_2 w5_2 (law1 (f 0) a2 qq y7_3 y18_3 y19_3 y20_3) w16_9 w17_9 y17_3 w6_9 := p0_9
            replace p1_9 : w16_9 = 0 → w7_9 = (if (tK (f 0) a2 qq) = 260 then y7_3 + 1 else y7_3) := p1_9
            replace p2_9 : w16_9 = 0 → w18_9 = (if (tK (f 0) a2 qq) = 261 then 1 else y18_3) ∧ w19_9 = (if (tK (f 0) a2 qq) = 262 then 1 else y19_3) ∧ w20_9 = (if (tK (f 0) a2 qq) = 263 then 1 else y20_3) := p2_9
            replace p3_9 : w16_9 = 0 → shOk w7_9 a9_9 := p3_9
            replace p4_9 : w16_9 = 0 → ((tK (f 0) a2 qq) = 260 → shC (f 0) a2 (tX (f 0) a2 qq) a9_9 y7_3) ∧ (∀ e, e < y7_3 * 4 → a9_9 e = c9_3 e) := p4_9
            replace p5_9 : w16_9 = 0 → ((tK (f 0) a2 qq) = 261 → repC id (exF (f 0) a2 702 (tX (f 0) a2 qq) 0 [] []).2.2 a10_9 a11_9 w8_9) ∧ ((tK (f 0) a2 qq) ≠ 261 → w8_9 = y8_3 ∧ a10_9 = c10_3 ∧ a11_9 = c11_3) := p5_9
            replace p6_9 : w16_9 = 0 → ((tK (f 0) a2 qq) = 262 → w9_9 = kyN (f 0) a2 4 (tX (f 0) a2 qq) ∧ kyC (f 0) a2 (tX (f 0) a2 qq) a12_9 a13_9 w9_9) ∧ ((tK (f 0) a2 qq) ≠ 262 → w9_9 = y9_3 ∧ a12_9 = c12_3 ∧ a13_9 = c13_3) := p6_9
            replace p7_9 : w16_9 = 0 → ((tK (f 0) a2 qq) = 263 → w10_9 = (if tK (f 0) a2 (tX (f 0) a2 qq) = 264 then 1 else 0)) ∧ ((tK (f 0) a2 qq) ≠ 263 → w10_9 = y10_3) := p7_9
            have rw6_9 : 0 ≤ w6_9 ∧ w6_9 ≤ 700 := hP.2.1 6
            have rw7_9 : 0 ≤ w7_9 ∧ w7_9 ≤ 4 := hP.2.1 7
            have rw8_9 : 0 ≤ w8_9 ∧ w8_9 ≤ 40 := hP.2.1 8
            have rw9_9 : 0 ≤ w9_9 ∧ w9_9 ≤ 4 := hP.2.1 9
            have rw10_9 : 0 ≤ w10_9 ∧ w10_9 ≤ 1 := hP.2.1 10
            have rw11_9 : 0 ≤ w11_9 ∧ w11_9 ≤ 27 := hP.2.1 11
            have rw12_9 : 0 ≤ w12_9 ∧ w12_9 ≤ 9 := hP.2.1 12
            have rw13_9 : 0 ≤ w13_9 ∧ w13_9 ≤ 9 := hP.2.1 13
            have rw14_9 : 0 ≤ w14_9 ∧ w14_9 ≤ 41 := hP.2.1 14
            have rw15_9 : 0 ≤ w15_9 ∧ w15_9 ≤ 5 := hP.2.1 15
            have rw16_9 : 0 ≤ w16_9 ∧ w16_9 ≤ 5 := hP.2.1 16
            have rw17_9 : (-1) ≤ w17_9 ∧ w17_9 ≤ 700 := hP.2.1 17
            have rw18_9 : 0 ≤ w18_9 ∧ w18_9 ≤ 1 := hP.2.1 18
            have rw19_9 : 0 ≤ w19_9 ∧ w19_9 ≤ 1 := hP.2.1 19
            have rw20_9 : 0 ≤ w20_9 ∧ w20_9 ≤ 1 := hP.2.1 20
            have hOX := p0_9
            have hW1 := p1_9
            have hW2 := p2_9
            have hL := p3_9
            have hL4 := Bx.mk p4_9
            have hL5 := Bx.mk p5_9
            have hL6 := Bx.mk p6_9
            have hL7 := Bx.mk p7_9
            clear p4_9 p5_9 p6_9 p7_9
            refine lv_iinc (v := iI (x3 + 1)) (lv' := [(3, .int (iI (x3 + 1))), (0, .ref (ad 9)), (1, .ref (ad 1)), (2, .int (iI a2))]) hx hb dX3_read_74 hl (k := 3) rfl (by show iI _ + iI 1 = _; rw [iI_add]) (by decide) rfl (fun ls hl => ?_)
            refine lv_goto (tgt := 43) hx hb dX3_read_77 (by decide) ?_
            exact ih_43 (x3 + 1) ((law1 (f 0) a2 qq y7_3 y18_3 y19_3 y20_3).2) ((if tK (f 0) a2 qq = 261 then tX (f 0) a2 qq else e1)) ((if tK (f 0) a2 qq = 262 then tX (f 0) a2 qq else e2)) ((if tK (f 0) a2 qq = 263 then tX (f 0) a2 qq else e3)) w6_9 w7_9 w8_9 w9_9 w10_9 w11_9 w12_9 w13_9 w14_9 w15_9 w16_9 w17_9 w18_9 w19_9 w20_9 a9_9 a10_9 a11_9 a12_9 a13_9 a14_9 _ _ _ (by omega) (by omega) hOX.2.2.2 (fun h => by have h1 := hOX.1; have h2 := hOX.2.1 (by omega); have h3 := law1_ge (B := (f 0)) (n := a2) (p := qq) hlt (show (law1 (f 0) a2 qq y7_3 y18_3 y19_3 y20_3).1 = 0 by omega); omega) (fun h => by rw [← hJ3 hf0, show (702 - x3).toNat = (702 - (x3 + 1)).toNat + 1 by omega]; exact (txt_go _ (by omega) (show (law1 (f 0) a2 qq y7_3 y18_3 y19_3 y20_3).1 = 0 by have := hOX.1; omega) (hW1 h) (hW2 h).1 (hW2 h).2.1 (hW2 h).2.2).symm) (fun h => by rw [← hJ3 hf0, show (702 - x3).toNat = (702 - (x3 + 1)).toNat + 1 by omega, txt_bad _ (by omega) (show (law1 (f 0) a2 qq y7_3 y18_3 y19_3 y20_3).1 ≠ 0 by have := hOX.1; omega)]; exact ⟨hOX.1, hOX.2.2.1 (by have := hOX.1; omega)⟩) hL (fun h j j0 j1 => by have hl := hL4.get (by omega); have hr := hW1 (by omega); exact (if e : tK (f 0) a2 qq = 260 ∧ j = y7_3 then (by have h2 := hl.1 e.1; rw [e.2, ← hC5.get hf0 _ (Int.le_refl _), show (702 - x3).toNat = (702 - (x3 + 1)).toNat + 1 by omega, rdP_here _ e.1]; exact h2) else (fun i i0 i1 => by rw [hl.2 _ (by first | (rw [if_pos (show tK (f 0) a2 qq = 260 by omega)] at hr; omega) | (rw [if_neg (show tK (f 0) a2 qq ≠ 260 by omega)] at hr; omega) | omega)]; exact hC1.get hf0 j j0 (by by_cases h8 : tK (f 0) a2 qq = 260; (rw [if_pos h8] at hr; omega); (rw [if_neg h8] at hr; omega)) i i0 i1))) (fun h => by have hl := hL5.get (by omega); by_cases e : tK (f 0) a2 qq = 261; (rw [if_pos e]; have h2 := hl.1 e; unfold exL; rw [if_neg (by have := hge; omega)]; exact h2); (rw [if_neg e, (hl.2 e).1, (hl.2 e).2.1, (hl.2 e).2.2]; exact hC2.get hf0)) (fun h => by have hl := hL6.get (by omega); by_cases e : tK (f 0) a2 qq = 262; (rw [if_pos e]; exact kyOk_told (by have := hge; omega) (hl.1 e)); (rw [if_neg e, (hl.2 e).1, (hl.2 e).2.1, (hl.2 e).2.2]; exact hC3.get hf0)) (fun h => by have hl := hL7.get (by omega); by_cases e : tK (f 0) a2 qq = 263; (rw [if_pos e]; unfold tiV; rw [if_neg (by have := hge; omega)]; exact hl.1 e); (rw [if_neg e, hl.2 e]; exact hC4.get hf0)) (fun h j hj => by rw [← hC5.get hf0 j (by have hr := hW1 (by omega); by_cases h8 : tK (f 0) a2 qq = 260; (rw [if_pos h8] at hr; omega); (rw [if_neg h8] at hr; omega)), show (702 - x3).toNat = (702 - (x3 + 1)).toNat + 1 by omega]; exact (rdP_go _ (by omega) (nxL_z (by have := hOX.1; omega)) (hW1 (by omega)) hj).symm) (fun h => by rw [← hC6.get hf0, show (702 - x3).toNat = (702 - (x3 + 1)).toNat + 1 by omega]; exact (txP_go _ (by omega) (nxL_z (by have := hOX.1; omega)) rfl).symm) (fun h => by rw [← hC7.get hf0, show (702 - x3).toNat = (702 - (x3 + 1)).toNat + 1 by omega]; exact (txP_go _ (by omega) (nxL_z (by have := hOX.1; omega)) rfl).symm) (fun h => by rw [← hC8.get hf0, show (702 - x3).toNat = (702 - (x3 + 1)).toNat + 1 by omega]; exact (txP_go _ (by omega) (nxL_z (by have := hOX.1; omega)) rfl).symm) hP hS (lv_sub hl [1, 2, 3, 0] rfl)
  exact L_3 702 0 ((run bW (f 0) a2 0)) ((-1)) ((-1)) ((-1)) 0 0 w8_1 w9_1 0 (v 11) (v 12) (v 13) (v 14) (v 15) 0 (-1) 0 0 0 (f 9) a10_1 a11_1 a12_1 a13_1 (f 14) _ _ _ (by omega) (by omega) (tAt0 hRow) (by have h := runW_spec (f 0) a2 0; omega) (fun _ => rfl) (fun h => absurd rfl h) (fun _ => sh00) (fun _ j h0 h1 => by omega) (fun _ => hU0) (fun _ => kyOk_un hU1) (fun _ => rfl) (fun _ j _ => rfl) (fun _ => rfl) (fun _ => rfl) (fun _ => rfl) hP hS (lv_sub hl [1, 2, 3, 0] rfl)
end
