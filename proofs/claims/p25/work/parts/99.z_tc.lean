section
theorem repN_un {it nu : Int → Int} (h0 : it 0 = 0 ∧ nu 0 = 100) (h1 : it 1 = 1) (h2 : it 2 = 9) (h3 : it 3 = 2) (h4 : it 4 = 7) : repN mp [(7, 0), (1, 0), (9, 0), (0, 0), (6, 100)] it nu 5 := ⟨h4, fun q => absurd q (by decide), h3, fun q => absurd q (by decide), h2, fun q => absurd q (by decide), h1, fun q => absurd q (by decide), h0.1, fun _ => h0.2, rfl⟩
theorem kyOm_told {B : Int → Int} {n p : Int} {ky up : Int → Int} {m : Int} (hp : p ≠ -1) (h : m = kyN B n 4 p ∧ kyM B n p ky up m) : kyOm B n p ky up m := ⟨fun q => absurd q hp, fun _ => h⟩
end

section
set_option maxHeartbeats 40000000 in
set_option maxRecDepth 100000 in
theorem q_n_readText (l : Launch) (D : va_G) (k : Nat → ClassId) (A : Nat → Prop) (ad : Nat → Nat) (hD : mdD A k ad) (v : gV) (f g : gF) (B : Int → Int) (hB : ∀ k, (f 0) k % 256 = B k) (hj : (v 10) = 0 ∧ (v 6) = 0) : GM l D k A (mdT k ad) yX11_readText cX11_readText 3 none 5 113 [.ref (ad 0)] v f g (fun r v1 f1 g1 => ∃ (w6 : Int) (w7 : Int) (w8 : Int) (w9 : Int) (w10 : Int) (w11 : Int) (w16 : Int) (w20 : Int) (w21 : Int) (w27 : Int) (w17 : Int) (w15 : Int) (w19 : Int) (a11_ : Int → Int) (a12_ : Int → Int) (a17_ : Int → Int) (a14_ : Int → Int) (a16_ : Int → Int) (a5_ : Int → Int) (a6_ : Int → Int) (a7_ : Int → Int) (a8_ : Int → Int) (b0_ : Int → Int), r = none ∧ (va_up (va_up (va_up (va_up (va_up (va_up (va_up (va_up (va_up (va_up (va_up (va_up (va_up v 6 w6) 7 w7) 8 w8) 9 w9) 10 w10) 11 w11) 16 w16) 20 w20) 21 w21) 27 w27) 17 w17) 15 w15) 19 w19) = v1 ∧ (va_up (va_up (va_up (va_up (va_up (va_up (va_up (va_up (va_up f 11 a11_) 12 a12_) 17 a17_) 14 a14_) 16 a16_) 5 a5_) 6 a6_) 7 a7_) 8 a8_) = f1 ∧ (va_up g 0 b0_) = g1 ∧ (w6 = (txt B (v 3) 702 (run bW B (v 3) 0) 0 0 0 0).1) ∧ ((txt B (v 3) 702 (run bW B (v 3) 0) 0 0 0 0).1 ≠ 0 → w7 = (txt B (v 3) 702 (run bW B (v 3) 0) 0 0 0 0).2.1) ∧ ((txt B (v 3) 702 (run bW B (v 3) 0) 0 0 0 0).1 = 0 → w15 = (txt B (v 3) 702 (run bW B (v 3) 0) 0 0 0 0).2.2) ∧ (w6 = 0 → rpOk w16 a11_ ∧ w16 ≤ 40) ∧ (w6 = 0 → ∀ j, 0 ≤ j → j < w15 → rwC B (v 3) (rdP B (v 3) 702 (run bW B (v 3) 0) 0 j) a5_ a6_ a7_ a8_ j) ∧ (w6 = 0 → repN mp (exL B (v 3) (txP B (v 3) 261 702 (run bW B (v 3) 0) (-1))) a11_ a12_ w16) ∧ (w6 = 0 → kyOm B (v 3) (txP B (v 3) 262 702 (run bW B (v 3) 0) (-1)) a14_ a16_ w17) ∧ (w6 = 0 → w19 = tiV B (v 3) (txP B (v 3) 263 702 (run bW B (v 3) 0) (-1)))) := by
  refine GM.of (by decide) (Nat.le_of_ble_eq_true rfl) ?_
  intro p e s m args below meth c Q ls hQ C hml hr hlocks hP hl
  have hx := C.1
  have hb := C.2.1
  have hok := hP.2
  have hS : va_S A s.heap s.heap [] := va_S.rf
  have hl : lv_has ls 3 [(0, .ref (ad 0))] := hl
  have hP : gWd D (mdT k ad) (va_up (va_up (va_up (va_up (va_up (va_up (va_up (va_up (va_up (va_up (va_up (va_up (va_up v 6 (v 6)) 7 (v 7)) 8 (v 8)) 9 (v 9)) 10 (v 10)) 11 (v 11)) 16 (v 16)) 20 (v 20)) 21 (v 21)) 27 (v 27)) 17 (v 17)) 15 (v 15)) 19 (v 19)) (va_up (va_up (va_up (va_up (va_up (va_up (va_up (va_up (va_up f 11 (f 11)) 12 (f 12)) 17 (f 17)) 14 (f 14)) 16 (f 16)) 5 (f 5)) 6 (f 6)) 7 (f 7)) 8 (f 8)) (va_up g 0 (g 0)) s.heap := by rw [va_id, va_id, va_id, va_id, va_id, va_id, va_id, va_id, va_id, va_id, va_id, va_id, va_id, va_id, va_id, va_id, va_id, va_id, va_id, va_id, va_id, va_id, va_id]; exact hP
  have r_1 : 0 ≤ (v 9) ∧ (v 9) ≤ 700 := hok.1 9
  have r_2 : 0 ≤ (v 10) ∧ (v 10) ≤ 700 := hok.1 10
  have r_3 : 0 ≤ (v 3) ∧ (v 3) ≤ 700 := hok.1 3
  have r_4 : 0 ≤ (v 8) ∧ (v 8) ≤ 4 := hok.1 8
  have r_5 : 0 ≤ (v 6) ∧ (v 6) ≤ 5 := hok.1 6
  have r_6 : 0 ≤ (v 17) ∧ (v 17) ≤ 4 := hok.1 17
  have r_7 : 0 ≤ (v 15) ∧ (v 15) ≤ 4 := hok.1 15
  have r_8 : 0 ≤ (v 16) ∧ (v 16) ≤ 41 := hok.1 16
  refine lv_aload_n hx hb dX11_readText_0 rfl (lv_at hl 0 rfl) ?_
  refine lv_iconst (v := iI 0) hx hb dX11_readText_1 rfl ?_
  refine mdP_newRounds (v1 := (va_up (va_up (va_up (va_up (va_up (va_up (va_up (va_up (va_up (va_up (va_up (va_up (va_up v 6 (v 6)) 7 (v 7)) 8 (v 8)) 9 (v 9)) 10 (v 10)) 11 (v 11)) 16 (v 16)) 20 (v 20)) 21 (v 21)) 27 (v 27)) 17 (v 17)) 15 0) 19 (v 19))) C hP hD hS mF_X11_207 (by decide) rfl (Or.inr (gF_up (V := mdV) (F := mdF) (gF_up (V := mdV) (F := mdF) (gF_up (V := mdV) (F := mdF) (gF_up (V := mdV) (F := mdF) (gF_up (V := mdV) (F := mdF) (gF_up (V := mdV) (F := mdF) (gF_up (V := mdV) (F := mdF) (gF_up (V := mdV) (F := mdF) (gF_up (V := mdV) (F := mdF) (gR_up (V := mdV) (F := mdF) (gR_up (V := mdV) (F := mdF) (gR_up (V := mdV) (F := mdF) (gR_up (V := mdV) (F := mdF) (gR_up (V := mdV) (F := mdF) (gR_up (V := mdV) (F := mdF) (gR_up (V := mdV) (F := mdF) (gR_up (V := mdV) (F := mdF) (gR_up (V := mdV) (F := mdF) (gR_up (V := mdV) (F := mdF) (gR_up (V := mdV) (F := mdF) (gR_up (V := mdV) (F := mdF) (gR_up (V := mdV) (F := mdF) ⟨hok.1, hok.2⟩ 6 (hP.2.1 6)) 7 (hP.2.1 7)) 8 (hP.2.1 8)) 9 (hP.2.1 9)) 10 (hP.2.1 10)) 11 (hP.2.1 11)) 16 (hP.2.1 16)) 20 (hP.2.1 20)) 21 (hP.2.1 21)) 27 (hP.2.1 27)) 17 (hP.2.1 17)) 15 (show 0 ≤ 0 ∧ 0 ≤ 4 from by decide)) 19 (hP.2.1 19)) 11 (hP.2.2 11)) 12 (hP.2.2 12)) 17 (hP.2.2 17)) 14 (hP.2.2 14)) 16 (hP.2.2 16)) 5 (hP.2.2 5)) 6 (hP.2.2 6)) 7 (hP.2.2 7)) 8 (hP.2.2 8))) dX11_readText_2 (fun H locs hP hS => ?_)
  refine lv_aload_n hx hb dX11_readText_5 rfl (lv_at hl 0 rfl) ?_
  refine lv_iconst (v := iI 0) hx hb dX11_readText_6 rfl ?_
  refine mdP_newBack (v1 := (va_up (va_up (va_up (va_up (va_up (va_up (va_up (va_up (va_up (va_up (va_up (va_up (va_up v 6 (v 6)) 7 (v 7)) 8 (v 8)) 9 (v 9)) 10 (v 10)) 11 (v 11)) 16 (v 16)) 20 (v 20)) 21 (v 21)) 27 (v 27)) 17 (v 17)) 15 0) 19 0)) C hP hD hS mF_X11_210 (by decide) (by decide) rfl (Or.inr (gF_up (V := mdV) (F := mdF) (gF_up (V := mdV) (F := mdF) (gF_up (V := mdV) (F := mdF) (gF_up (V := mdV) (F := mdF) (gF_up (V := mdV) (F := mdF) (gF_up (V := mdV) (F := mdF) (gF_up (V := mdV) (F := mdF) (gF_up (V := mdV) (F := mdF) (gF_up (V := mdV) (F := mdF) (gR_up (V := mdV) (F := mdF) (gR_up (V := mdV) (F := mdF) (gR_up (V := mdV) (F := mdF) (gR_up (V := mdV) (F := mdF) (gR_up (V := mdV) (F := mdF) (gR_up (V := mdV) (F := mdF) (gR_up (V := mdV) (F := mdF) (gR_up (V := mdV) (F := mdF) (gR_up (V := mdV) (F := mdF) (gR_up (V := mdV) (F := mdF) (gR_up (V := mdV) (F := mdF) (gR_up (V := mdV) (F := mdF) (gR_up (V := mdV) (F := mdF) ⟨hok.1, hok.2⟩ 6 (hP.2.1 6)) 7 (hP.2.1 7)) 8 (hP.2.1 8)) 9 (hP.2.1 9)) 10 (hP.2.1 10)) 11 (hP.2.1 11)) 16 (hP.2.1 16)) 20 (hP.2.1 20)) 21 (hP.2.1 21)) 27 (hP.2.1 27)) 17 (hP.2.1 17)) 15 (hP.2.1 15)) 19 (show 0 ≤ 0 ∧ 0 ≤ 1 from by decide)) 11 (hP.2.2 11)) 12 (hP.2.2 12)) 17 (hP.2.2 17)) 14 (hP.2.2 14)) 16 (hP.2.2 16)) 5 (hP.2.2 5)) 6 (hP.2.2 6)) 7 (hP.2.2 7)) 8 (hP.2.2 8))) dX11_readText_7 (fun H locs hP hS => ?_)
  refine lv_aload_n hx hb dX11_readText_10 rfl (lv_at hl 0 rfl) ?_
  refine lv_iconst (v := iI 1) hx hb dX11_readText_11 rfl ?_
  refine mdP_newKeys (v1 := (va_up (va_up (va_up (va_up (va_up (va_up (va_up (va_up (va_up (va_up (va_up (va_up (va_up v 6 (v 6)) 7 (v 7)) 8 (v 8)) 9 (v 9)) 10 (v 10)) 11 (v 11)) 16 (v 16)) 20 (v 20)) 21 (v 21)) 27 (v 27)) 17 1) 15 0) 19 0)) C hP hD hS mF_X11_214 (by decide) rfl (Or.inr (gF_up (V := mdV) (F := mdF) (gF_up (V := mdV) (F := mdF) (gF_up (V := mdV) (F := mdF) (gF_up (V := mdV) (F := mdF) (gF_up (V := mdV) (F := mdF) (gF_up (V := mdV) (F := mdF) (gF_up (V := mdV) (F := mdF) (gF_up (V := mdV) (F := mdF) (gF_up (V := mdV) (F := mdF) (gR_up (V := mdV) (F := mdF) (gR_up (V := mdV) (F := mdF) (gR_up (V := mdV) (F := mdF) (gR_up (V := mdV) (F := mdF) (gR_up (V := mdV) (F := mdF) (gR_up (V := mdV) (F := mdF) (gR_up (V := mdV) (F := mdF) (gR_up (V := mdV) (F := mdF) (gR_up (V := mdV) (F := mdF) (gR_up (V := mdV) (F := mdF) (gR_up (V := mdV) (F := mdF) (gR_up (V := mdV) (F := mdF) (gR_up (V := mdV) (F := mdF) ⟨hok.1, hok.2⟩ 6 (hP.2.1 6)) 7 (hP.2.1 7)) 8 (hP.2.1 8)) 9 (hP.2.1 9)) 10 (hP.2.1 10)) 11 (hP.2.1 11)) 16 (hP.2.1 16)) 20 (hP.2.1 20)) 21 (hP.2.1 21)) 27 (hP.2.1 27)) 17 (show 0 ≤ 1 ∧ 1 ≤ 4 from by decide)) 15 (hP.2.1 15)) 19 (hP.2.1 19)) 11 (hP.2.2 11)) 12 (hP.2.2 12)) 17 (hP.2.2 17)) 14 (hP.2.2 14)) 16 (hP.2.2 16)) 5 (hP.2.2 5)) 6 (hP.2.2 6)) 7 (hP.2.2 7)) 8 (hP.2.2 8))) dX11_readText_12 (fun H locs hP hS => ?_)
  refine lv_aload_n hx hb dX11_readText_15 rfl (lv_at hl 0 rfl) ?_
  refine mdG_newKey C hP mF_X11_60 dX11_readText_16 ?_
  refine lv_iconst (v := iI 0) hx hb dX11_readText_19 rfl ?_
  refine lv_iconst (v := iI 0) hx hb dX11_readText_20 rfl ?_
  refine mdS_newKey (f1 := (va_up (va_up (va_up (va_up (va_up (va_up (va_up (va_up (va_up f 11 (f 11)) 12 (f 12)) 17 (f 17)) 14 (u1 (f 14) 0 0)) 16 (f 16)) 5 (f 5)) 6 (f 6)) 7 (f 7)) 8 (f 8))) C hP hD hS (by decide) (by decide) (by decide) rfl (Or.inr (gF_up (V := mdV) (F := mdF) (gF_up (V := mdV) (F := mdF) (gF_up (V := mdV) (F := mdF) (gF_up (V := mdV) (F := mdF) (gF_up (V := mdV) (F := mdF) (gF_up (V := mdV) (F := mdF) (gF_up (V := mdV) (F := mdF) (gF_up (V := mdV) (F := mdF) (gF_up (V := mdV) (F := mdF) (gR_up (V := mdV) (F := mdF) (gR_up (V := mdV) (F := mdF) (gR_up (V := mdV) (F := mdF) (gR_up (V := mdV) (F := mdF) (gR_up (V := mdV) (F := mdF) (gR_up (V := mdV) (F := mdF) (gR_up (V := mdV) (F := mdF) (gR_up (V := mdV) (F := mdF) (gR_up (V := mdV) (F := mdF) (gR_up (V := mdV) (F := mdF) (gR_up (V := mdV) (F := mdF) (gR_up (V := mdV) (F := mdF) (gR_up (V := mdV) (F := mdF) ⟨hok.1, hok.2⟩ 6 (hP.2.1 6)) 7 (hP.2.1 7)) 8 (hP.2.1 8)) 9 (hP.2.1 9)) 10 (hP.2.1 10)) 11 (hP.2.1 11)) 16 (hP.2.1 16)) 20 (hP.2.1 20)) 21 (hP.2.1 21)) 27 (hP.2.1 27)) 17 (hP.2.1 17)) 15 (hP.2.1 15)) 19 (hP.2.1 19)) 11 (hP.2.2 11)) 12 (hP.2.2 12)) 17 (hP.2.2 17)) 14 (u1_rng (hP.2.2 14) (show 0 ≤ 0 ∧ 0 ≤ 3 from (by decide)))) 16 (hP.2.2 16)) 5 (hP.2.2 5)) 6 (hP.2.2 6)) 7 (hP.2.2 7)) 8 (hP.2.2 8))) dX11_readText_21 (fun H locs hP hS => ?_)
  refine lv_aload_n hx hb dX11_readText_22 rfl (lv_at hl 0 rfl) ?_
  refine mdG_newUp C hP mF_X11_67 dX11_readText_23 ?_
  refine lv_iconst (v := iI 0) hx hb dX11_readText_26 rfl ?_
  refine lv_iconst (v := iI 0) hx hb dX11_readText_27 rfl ?_
  refine mdS_newUp (f1 := (va_up (va_up (va_up (va_up (va_up (va_up (va_up (va_up (va_up f 11 (f 11)) 12 (f 12)) 17 (f 17)) 14 (u1 (f 14) 0 0)) 16 (u1 (f 16) 0 0)) 5 (f 5)) 6 (f 6)) 7 (f 7)) 8 (f 8))) C hP hD hS (by decide) (by decide) (by decide) (by decide) rfl (Or.inr (gF_up (V := mdV) (F := mdF) (gF_up (V := mdV) (F := mdF) (gF_up (V := mdV) (F := mdF) (gF_up (V := mdV) (F := mdF) (gF_up (V := mdV) (F := mdF) (gF_up (V := mdV) (F := mdF) (gF_up (V := mdV) (F := mdF) (gF_up (V := mdV) (F := mdF) (gF_up (V := mdV) (F := mdF) (gR_up (V := mdV) (F := mdF) (gR_up (V := mdV) (F := mdF) (gR_up (V := mdV) (F := mdF) (gR_up (V := mdV) (F := mdF) (gR_up (V := mdV) (F := mdF) (gR_up (V := mdV) (F := mdF) (gR_up (V := mdV) (F := mdF) (gR_up (V := mdV) (F := mdF) (gR_up (V := mdV) (F := mdF) (gR_up (V := mdV) (F := mdF) (gR_up (V := mdV) (F := mdF) (gR_up (V := mdV) (F := mdF) (gR_up (V := mdV) (F := mdF) ⟨hok.1, hok.2⟩ 6 (hP.2.1 6)) 7 (hP.2.1 7)) 8 (hP.2.1 8)) 9 (hP.2.1 9)) 10 (hP.2.1 10)) 11 (hP.2.1 11)) 16 (hP.2.1 16)) 20 (hP.2.1 20)) 21 (hP.2.1 21)) 27 (hP.2.1 27)) 17 (hP.2.1 17)) 15 (hP.2.1 15)) 19 (hP.2.1 19)) 11 (hP.2.2 11)) 12 (hP.2.2 12)) 17 (hP.2.2 17)) 14 (hP.2.2 14)) 16 (u1_rng (hP.2.2 16) (show 0 ≤ 0 ∧ 0 ≤ 1 from (by decide)))) 5 (hP.2.2 5)) 6 (hP.2.2 6)) 7 (hP.2.2 7)) 8 (hP.2.2 8))) dX11_readText_28 (fun H locs hP hS => ?_)
  refine lv_aload_n hx hb dX11_readText_29 rfl (lv_at hl 0 rfl) ?_
  refine lv_iconst (v := iI 5) hx hb dX11_readText_30 rfl ?_
  refine mdP_newParts (v1 := (va_up (va_up (va_up (va_up (va_up (va_up (va_up (va_up (va_up (va_up (va_up (va_up (va_up v 6 (v 6)) 7 (v 7)) 8 (v 8)) 9 (v 9)) 10 (v 10)) 11 (v 11)) 16 5) 20 (v 20)) 21 (v 21)) 27 (v 27)) 17 1) 15 0) 19 0)) C hP hD hS mF_X11_217 (by decide) rfl (Or.inr (gF_up (V := mdV) (F := mdF) (gF_up (V := mdV) (F := mdF) (gF_up (V := mdV) (F := mdF) (gF_up (V := mdV) (F := mdF) (gF_up (V := mdV) (F := mdF) (gF_up (V := mdV) (F := mdF) (gF_up (V := mdV) (F := mdF) (gF_up (V := mdV) (F := mdF) (gF_up (V := mdV) (F := mdF) (gR_up (V := mdV) (F := mdF) (gR_up (V := mdV) (F := mdF) (gR_up (V := mdV) (F := mdF) (gR_up (V := mdV) (F := mdF) (gR_up (V := mdV) (F := mdF) (gR_up (V := mdV) (F := mdF) (gR_up (V := mdV) (F := mdF) (gR_up (V := mdV) (F := mdF) (gR_up (V := mdV) (F := mdF) (gR_up (V := mdV) (F := mdF) (gR_up (V := mdV) (F := mdF) (gR_up (V := mdV) (F := mdF) (gR_up (V := mdV) (F := mdF) ⟨hok.1, hok.2⟩ 6 (hP.2.1 6)) 7 (hP.2.1 7)) 8 (hP.2.1 8)) 9 (hP.2.1 9)) 10 (hP.2.1 10)) 11 (hP.2.1 11)) 16 (show 0 ≤ 5 ∧ 5 ≤ 41 from by decide)) 20 (hP.2.1 20)) 21 (hP.2.1 21)) 27 (hP.2.1 27)) 17 (hP.2.1 17)) 15 (hP.2.1 15)) 19 (hP.2.1 19)) 11 (hP.2.2 11)) 12 (hP.2.2 12)) 17 (hP.2.2 17)) 14 (hP.2.2 14)) 16 (hP.2.2 16)) 5 (hP.2.2 5)) 6 (hP.2.2 6)) 7 (hP.2.2 7)) 8 (hP.2.2 8))) dX11_readText_31 (fun H locs hP hS => ?_)
  refine lv_aload_n hx hb dX11_readText_34 rfl (lv_at hl 0 rfl) ?_
  refine mdG_newPart C hP mF_X11_51 dX11_readText_35 ?_
  refine lv_iconst (v := iI 0) hx hb dX11_readText_38 rfl ?_
  refine lv_iconst (v := iI 0) hx hb dX11_readText_39 rfl ?_
  refine mdS_newPart (f1 := (va_up (va_up (va_up (va_up (va_up (va_up (va_up (va_up (va_up f 11 (u1 (f 11) 0 0)) 12 (f 12)) 17 (f 17)) 14 (u1 (f 14) 0 0)) 16 (u1 (f 16) 0 0)) 5 (f 5)) 6 (f 6)) 7 (f 7)) 8 (f 8))) C hP hD hS (by decide) (by decide) (by decide) rfl (Or.inr (gF_up (V := mdV) (F := mdF) (gF_up (V := mdV) (F := mdF) (gF_up (V := mdV) (F := mdF) (gF_up (V := mdV) (F := mdF) (gF_up (V := mdV) (F := mdF) (gF_up (V := mdV) (F := mdF) (gF_up (V := mdV) (F := mdF) (gF_up (V := mdV) (F := mdF) (gF_up (V := mdV) (F := mdF) (gR_up (V := mdV) (F := mdF) (gR_up (V := mdV) (F := mdF) (gR_up (V := mdV) (F := mdF) (gR_up (V := mdV) (F := mdF) (gR_up (V := mdV) (F := mdF) (gR_up (V := mdV) (F := mdF) (gR_up (V := mdV) (F := mdF) (gR_up (V := mdV) (F := mdF) (gR_up (V := mdV) (F := mdF) (gR_up (V := mdV) (F := mdF) (gR_up (V := mdV) (F := mdF) (gR_up (V := mdV) (F := mdF) (gR_up (V := mdV) (F := mdF) ⟨hok.1, hok.2⟩ 6 (hP.2.1 6)) 7 (hP.2.1 7)) 8 (hP.2.1 8)) 9 (hP.2.1 9)) 10 (hP.2.1 10)) 11 (hP.2.1 11)) 16 (hP.2.1 16)) 20 (hP.2.1 20)) 21 (hP.2.1 21)) 27 (hP.2.1 27)) 17 (hP.2.1 17)) 15 (hP.2.1 15)) 19 (hP.2.1 19)) 11 (u1_rng (hP.2.2 11) (show 0 ≤ 0 ∧ 0 ≤ 11 from (by decide)))) 12 (hP.2.2 12)) 17 (hP.2.2 17)) 14 (hP.2.2 14)) 16 (hP.2.2 16)) 5 (hP.2.2 5)) 6 (hP.2.2 6)) 7 (hP.2.2 7)) 8 (hP.2.2 8))) dX11_readText_40 (fun H locs hP hS => ?_)
  refine lv_aload_n hx hb dX11_readText_41 rfl (lv_at hl 0 rfl) ?_
  refine mdG_newNumber C hP mF_X11_54 dX11_readText_42 ?_
  refine lv_iconst (v := iI 0) hx hb dX11_readText_45 rfl ?_
  refine lv_bipush (v := iI 100) hx hb dX11_readText_46 (by decide) ?_
  refine mdS_newNumber (f1 := (va_up (va_up (va_up (va_up (va_up (va_up (va_up (va_up (va_up f 11 (u1 (f 11) 0 0)) 12 (u1 (f 12) 0 100)) 17 (f 17)) 14 (u1 (f 14) 0 0)) 16 (u1 (f 16) 0 0)) 5 (f 5)) 6 (f 6)) 7 (f 7)) 8 (f 8))) C hP hD hS (by decide) (by decide) (by decide) rfl (Or.inr (gF_up (V := mdV) (F := mdF) (gF_up (V := mdV) (F := mdF) (gF_up (V := mdV) (F := mdF) (gF_up (V := mdV) (F := mdF) (gF_up (V := mdV) (F := mdF) (gF_up (V := mdV) (F := mdF) (gF_up (V := mdV) (F := mdF) (gF_up (V := mdV) (F := mdF) (gF_up (V := mdV) (F := mdF) (gR_up (V := mdV) (F := mdF) (gR_up (V := mdV) (F := mdF) (gR_up (V := mdV) (F := mdF) (gR_up (V := mdV) (F := mdF) (gR_up (V := mdV) (F := mdF) (gR_up (V := mdV) (F := mdF) (gR_up (V := mdV) (F := mdF) (gR_up (V := mdV) (F := mdF) (gR_up (V := mdV) (F := mdF) (gR_up (V := mdV) (F := mdF) (gR_up (V := mdV) (F := mdF) (gR_up (V := mdV) (F := mdF) (gR_up (V := mdV) (F := mdF) ⟨hok.1, hok.2⟩ 6 (hP.2.1 6)) 7 (hP.2.1 7)) 8 (hP.2.1 8)) 9 (hP.2.1 9)) 10 (hP.2.1 10)) 11 (hP.2.1 11)) 16 (hP.2.1 16)) 20 (hP.2.1 20)) 21 (hP.2.1 21)) 27 (hP.2.1 27)) 17 (hP.2.1 17)) 15 (hP.2.1 15)) 19 (hP.2.1 19)) 11 (hP.2.2 11)) 12 (u1_rng (hP.2.2 12) (show 0 ≤ 100 ∧ 100 ≤ 999999 from (by decide)))) 17 (hP.2.2 17)) 14 (hP.2.2 14)) 16 (hP.2.2 16)) 5 (hP.2.2 5)) 6 (hP.2.2 6)) 7 (hP.2.2 7)) 8 (hP.2.2 8))) dX11_readText_48 (fun H locs hP hS => ?_)
  refine lv_aload_n hx hb dX11_readText_49 rfl (lv_at hl 0 rfl) ?_
  refine mdG_newPart C hP mF_X11_51 dX11_readText_50 ?_
  refine lv_iconst (v := iI 1) hx hb dX11_readText_53 rfl ?_
  refine lv_iconst (v := iI 1) hx hb dX11_readText_54 rfl ?_
  refine mdS_newPart (f1 := (va_up (va_up (va_up (va_up (va_up (va_up (va_up (va_up (va_up f 11 (u1 (u1 (f 11) 0 0) 1 1)) 12 (u1 (f 12) 0 100)) 17 (f 17)) 14 (u1 (f 14) 0 0)) 16 (u1 (f 16) 0 0)) 5 (f 5)) 6 (f 6)) 7 (f 7)) 8 (f 8))) C hP hD hS (by decide) (by decide) (by decide) rfl (Or.inr (gF_up (V := mdV) (F := mdF) (gF_up (V := mdV) (F := mdF) (gF_up (V := mdV) (F := mdF) (gF_up (V := mdV) (F := mdF) (gF_up (V := mdV) (F := mdF) (gF_up (V := mdV) (F := mdF) (gF_up (V := mdV) (F := mdF) (gF_up (V := mdV) (F := mdF) (gF_up (V := mdV) (F := mdF) (gR_up (V := mdV) (F := mdF) (gR_up (V := mdV) (F := mdF) (gR_up (V := mdV) (F := mdF) (gR_up (V := mdV) (F := mdF) (gR_up (V := mdV) (F := mdF) (gR_up (V := mdV) (F := mdF) (gR_up (V := mdV) (F := mdF) (gR_up (V := mdV) (F := mdF) (gR_up (V := mdV) (F := mdF) (gR_up (V := mdV) (F := mdF) (gR_up (V := mdV) (F := mdF) (gR_up (V := mdV) (F := mdF) (gR_up (V := mdV) (F := mdF) ⟨hok.1, hok.2⟩ 6 (hP.2.1 6)) 7 (hP.2.1 7)) 8 (hP.2.1 8)) 9 (hP.2.1 9)) 10 (hP.2.1 10)) 11 (hP.2.1 11)) 16 (hP.2.1 16)) 20 (hP.2.1 20)) 21 (hP.2.1 21)) 27 (hP.2.1 27)) 17 (hP.2.1 17)) 15 (hP.2.1 15)) 19 (hP.2.1 19)) 11 (u1_rng (hP.2.2 11) (show 0 ≤ 1 ∧ 1 ≤ 11 from (by decide)))) 12 (hP.2.2 12)) 17 (hP.2.2 17)) 14 (hP.2.2 14)) 16 (hP.2.2 16)) 5 (hP.2.2 5)) 6 (hP.2.2 6)) 7 (hP.2.2 7)) 8 (hP.2.2 8))) dX11_readText_55 (fun H locs hP hS => ?_)
  refine lv_aload_n hx hb dX11_readText_56 rfl (lv_at hl 0 rfl) ?_
  refine mdG_newPart C hP mF_X11_51 dX11_readText_57 ?_
  refine lv_iconst (v := iI 2) hx hb dX11_readText_60 rfl ?_
  refine lv_bipush (v := iI 9) hx hb dX11_readText_61 (by decide) ?_
  refine mdS_newPart (f1 := (va_up (va_up (va_up (va_up (va_up (va_up (va_up (va_up (va_up f 11 (u1 (u1 (u1 (f 11) 0 0) 1 1) 2 9)) 12 (u1 (f 12) 0 100)) 17 (f 17)) 14 (u1 (f 14) 0 0)) 16 (u1 (f 16) 0 0)) 5 (f 5)) 6 (f 6)) 7 (f 7)) 8 (f 8))) C hP hD hS (by decide) (by decide) (by decide) rfl (Or.inr (gF_up (V := mdV) (F := mdF) (gF_up (V := mdV) (F := mdF) (gF_up (V := mdV) (F := mdF) (gF_up (V := mdV) (F := mdF) (gF_up (V := mdV) (F := mdF) (gF_up (V := mdV) (F := mdF) (gF_up (V := mdV) (F := mdF) (gF_up (V := mdV) (F := mdF) (gF_up (V := mdV) (F := mdF) (gR_up (V := mdV) (F := mdF) (gR_up (V := mdV) (F := mdF) (gR_up (V := mdV) (F := mdF) (gR_up (V := mdV) (F := mdF) (gR_up (V := mdV) (F := mdF) (gR_up (V := mdV) (F := mdF) (gR_up (V := mdV) (F := mdF) (gR_up (V := mdV) (F := mdF) (gR_up (V := mdV) (F := mdF) (gR_up (V := mdV) (F := mdF) (gR_up (V := mdV) (F := mdF) (gR_up (V := mdV) (F := mdF) (gR_up (V := mdV) (F := mdF) ⟨hok.1, hok.2⟩ 6 (hP.2.1 6)) 7 (hP.2.1 7)) 8 (hP.2.1 8)) 9 (hP.2.1 9)) 10 (hP.2.1 10)) 11 (hP.2.1 11)) 16 (hP.2.1 16)) 20 (hP.2.1 20)) 21 (hP.2.1 21)) 27 (hP.2.1 27)) 17 (hP.2.1 17)) 15 (hP.2.1 15)) 19 (hP.2.1 19)) 11 (u1_rng (hP.2.2 11) (show 0 ≤ 9 ∧ 9 ≤ 11 from (by decide)))) 12 (hP.2.2 12)) 17 (hP.2.2 17)) 14 (hP.2.2 14)) 16 (hP.2.2 16)) 5 (hP.2.2 5)) 6 (hP.2.2 6)) 7 (hP.2.2 7)) 8 (hP.2.2 8))) dX11_readText_63 (fun H locs hP hS => ?_)
  refine lv_aload_n hx hb dX11_readText_64 rfl (lv_at hl 0 rfl) ?_
  refine mdG_newPart C hP mF_X11_51 dX11_readText_65 ?_
  refine lv_iconst (v := iI 3) hx hb dX11_readText_68 rfl ?_
  refine lv_iconst (v := iI 2) hx hb dX11_readText_69 rfl ?_
  refine mdS_newPart (f1 := (va_up (va_up (va_up (va_up (va_up (va_up (va_up (va_up (va_up f 11 (u1 (u1 (u1 (u1 (f 11) 0 0) 1 1) 2 9) 3 2)) 12 (u1 (f 12) 0 100)) 17 (f 17)) 14 (u1 (f 14) 0 0)) 16 (u1 (f 16) 0 0)) 5 (f 5)) 6 (f 6)) 7 (f 7)) 8 (f 8))) C hP hD hS (by decide) (by decide) (by decide) rfl (Or.inr (gF_up (V := mdV) (F := mdF) (gF_up (V := mdV) (F := mdF) (gF_up (V := mdV) (F := mdF) (gF_up (V := mdV) (F := mdF) (gF_up (V := mdV) (F := mdF) (gF_up (V := mdV) (F := mdF) (gF_up (V := mdV) (F := mdF) (gF_up (V := mdV) (F := mdF) (gF_up (V := mdV) (F := mdF) (gR_up (V := mdV) (F := mdF) (gR_up (V := mdV) (F := mdF) (gR_up (V := mdV) (F := mdF) (gR_up (V := mdV) (F := mdF) (gR_up (V := mdV) (F := mdF) (gR_up (V := mdV) (F := mdF) (gR_up (V := mdV) (F := mdF) (gR_up (V := mdV) (F := mdF) (gR_up (V := mdV) (F := mdF) (gR_up (V := mdV) (F := mdF) (gR_up (V := mdV) (F := mdF) (gR_up (V := mdV) (F := mdF) (gR_up (V := mdV) (F := mdF) ⟨hok.1, hok.2⟩ 6 (hP.2.1 6)) 7 (hP.2.1 7)) 8 (hP.2.1 8)) 9 (hP.2.1 9)) 10 (hP.2.1 10)) 11 (hP.2.1 11)) 16 (hP.2.1 16)) 20 (hP.2.1 20)) 21 (hP.2.1 21)) 27 (hP.2.1 27)) 17 (hP.2.1 17)) 15 (hP.2.1 15)) 19 (hP.2.1 19)) 11 (u1_rng (hP.2.2 11) (show 0 ≤ 2 ∧ 2 ≤ 11 from (by decide)))) 12 (hP.2.2 12)) 17 (hP.2.2 17)) 14 (hP.2.2 14)) 16 (hP.2.2 16)) 5 (hP.2.2 5)) 6 (hP.2.2 6)) 7 (hP.2.2 7)) 8 (hP.2.2 8))) dX11_readText_70 (fun H locs hP hS => ?_)
  refine lv_aload_n hx hb dX11_readText_71 rfl (lv_at hl 0 rfl) ?_
  refine mdG_newPart C hP mF_X11_51 dX11_readText_72 ?_
  refine lv_iconst (v := iI 4) hx hb dX11_readText_75 rfl ?_
  refine lv_bipush (v := iI 7) hx hb dX11_readText_76 (by decide) ?_
  refine mdS_newPart (f1 := (va_up (va_up (va_up (va_up (va_up (va_up (va_up (va_up (va_up f 11 (u1 (u1 (u1 (u1 (u1 (f 11) 0 0) 1 1) 2 9) 3 2) 4 7)) 12 (u1 (f 12) 0 100)) 17 (f 17)) 14 (u1 (f 14) 0 0)) 16 (u1 (f 16) 0 0)) 5 (f 5)) 6 (f 6)) 7 (f 7)) 8 (f 8))) C hP hD hS (by decide) (by decide) (by decide) rfl (Or.inr (gF_up (V := mdV) (F := mdF) (gF_up (V := mdV) (F := mdF) (gF_up (V := mdV) (F := mdF) (gF_up (V := mdV) (F := mdF) (gF_up (V := mdV) (F := mdF) (gF_up (V := mdV) (F := mdF) (gF_up (V := mdV) (F := mdF) (gF_up (V := mdV) (F := mdF) (gF_up (V := mdV) (F := mdF) (gR_up (V := mdV) (F := mdF) (gR_up (V := mdV) (F := mdF) (gR_up (V := mdV) (F := mdF) (gR_up (V := mdV) (F := mdF) (gR_up (V := mdV) (F := mdF) (gR_up (V := mdV) (F := mdF) (gR_up (V := mdV) (F := mdF) (gR_up (V := mdV) (F := mdF) (gR_up (V := mdV) (F := mdF) (gR_up (V := mdV) (F := mdF) (gR_up (V := mdV) (F := mdF) (gR_up (V := mdV) (F := mdF) (gR_up (V := mdV) (F := mdF) ⟨hok.1, hok.2⟩ 6 (hP.2.1 6)) 7 (hP.2.1 7)) 8 (hP.2.1 8)) 9 (hP.2.1 9)) 10 (hP.2.1 10)) 11 (hP.2.1 11)) 16 (hP.2.1 16)) 20 (hP.2.1 20)) 21 (hP.2.1 21)) 27 (hP.2.1 27)) 17 (hP.2.1 17)) 15 (hP.2.1 15)) 19 (hP.2.1 19)) 11 (u1_rng (hP.2.2 11) (show 0 ≤ 7 ∧ 7 ≤ 11 from (by decide)))) 12 (hP.2.2 12)) 17 (hP.2.2 17)) 14 (hP.2.2 14)) 16 (hP.2.2 16)) 5 (hP.2.2 5)) 6 (hP.2.2 6)) 7 (hP.2.2 7)) 8 (hP.2.2 8))) dX11_readText_78 (fun H locs hP hS => ?_)
  refine lv_iconst (v := iI 0) hx hb dX11_readText_79 rfl ?_
  refine lv_istore_n (lv' := [(1, .int (iI 0)), (0, .ref (ad 0))]) hx hb dX11_readText_80 rfl hl (by decide) rfl (fun ls hl => ?_)
  refine lv_aload_n hx hb dX11_readText_81 rfl (lv_at hl 1 rfl) ?_
  refine g_cv (As := []) (rest := []) (n := 0) C hml (n_next l D k A ad hD (va_up (va_up (va_up (va_up (va_up (va_up (va_up (va_up (va_up (va_up (va_up (va_up (va_up v 6 (v 6)) 7 (v 7)) 8 (v 8)) 9 (v 9)) 10 (v 10)) 11 (v 11)) 16 5) 20 (v 20)) 21 (v 21)) 27 (v 27)) 17 1) 15 0) 19 0) (va_up (va_up (va_up (va_up (va_up (va_up (va_up (va_up (va_up f 11 (u1 (u1 (u1 (u1 (u1 (f 11) 0 0) 1 1) 2 9) 3 2) 4 7)) 12 (u1 (f 12) 0 100)) 17 (f 17)) 14 (u1 (f 14) 0 0)) 16 (u1 (f 16) 0 0)) 5 (f 5)) 6 (f 6)) 7 (f 7)) 8 (f 8)) (va_up g 0 (g 0)) B (show ∀ k, (f 0) k % 256 = B k from hB) (show 0 ≤ (v 10) ∧ (v 10) ≤ (v 3) from by omega)) mM_X11_201 mI_X11_next mE_X11_next mN_X11 mC_X11_next (by decide +kernel) 0 (ci := 11) rfl rfl hP hS (fun _ h => h) ⟨Nat.le_of_ble_eq_true rfl, Nat.le_of_ble_eq_true rfl⟩ ⟨Nat.zero_le _, Nat.zero_le _⟩ hl.1 rfl rfl (Nat.le_of_ble_eq_true rfl) dX11_readText_82 (fun r_9 v_9 f_9 g_9 H locs hq_9 hP _ hS => ?_)
  obtain ⟨w8_9, w9_9, w10_9, w11_9, b0_9, rfl, rfl, rfl, rfl, p0_9⟩ := hq_9
  show W p l e (gRm 5 113) s m args below meth c _ _ 0 0 Q (F0 m 85 ls [])
  have hP : gWd D (mdT k ad) (va_up (va_up (va_up (va_up (va_up (va_up (va_up (va_up (va_up (va_up (va_up (va_up (va_up v 6 (v 6)) 7 (v 7)) 8 w8_9) 9 w9_9) 10 w10_9) 11 w11_9) 16 5) 20 (v 20)) 21 (v 21)) 27 (v 27)) 17 1) 15 0) 19 0) (va_up (va_up (va_up (va_up (va_up (va_up (va_up (va_up (va_up f 11 (u1 (u1 (u1 (u1 (u1 (f 11) 0 0) 1 1) 2 9) 3 2) 4 7)) 12 (u1 (f 12) 0 100)) 17 (f 17)) 14 (u1 (f 14) 0 0)) 16 (u1 (f 16) 0 0)) 5 (f 5)) 6 (f 6)) 7 (f 7)) 8 (f 8)) (va_up g 0 b0_9) H := ⟨hP.1, (gF_up (V := mdV) (F := mdF) (gF_up (V := mdV) (F := mdF) (gF_up (V := mdV) (F := mdF) (gF_up (V := mdV) (F := mdF) (gF_up (V := mdV) (F := mdF) (gF_up (V := mdV) (F := mdF) (gF_up (V := mdV) (F := mdF) (gF_up (V := mdV) (F := mdF) (gF_up (V := mdV) (F := mdF) (gR_up (V := mdV) (F := mdF) (gR_up (V := mdV) (F := mdF) (gR_up (V := mdV) (F := mdF) (gR_up (V := mdV) (F := mdF) (gR_up (V := mdV) (F := mdF) (gR_up (V := mdV) (F := mdF) (gR_up (V := mdV) (F := mdF) (gR_up (V := mdV) (F := mdF) (gR_up (V := mdV) (F := mdF) (gR_up (V := mdV) (F := mdF) (gR_up (V := mdV) (F := mdF) (gR_up (V := mdV) (F := mdF) (gR_up (V := mdV) (F := mdF) ⟨hok.1, hok.2⟩ 6 (hP.2.1 6)) 7 (hP.2.1 7)) 8 (hP.2.1 8)) 9 (hP.2.1 9)) 10 (hP.2.1 10)) 11 (hP.2.1 11)) 16 (hP.2.1 16)) 20 (hP.2.1 20)) 21 (hP.2.1 21)) 27 (hP.2.1 27)) 17 (hP.2.1 17)) 15 (hP.2.1 15)) 19 (hP.2.1 19)) 11 (hP.2.2 11)) 12 (hP.2.2 12)) 17 (hP.2.2 17)) 14 (hP.2.2 14)) 16 (hP.2.2 16)) 5 (hP.2.2 5)) 6 (hP.2.2 6)) 7 (hP.2.2 7)) 8 (hP.2.2 8))⟩
  replace p0_9 : mAt B (v 3) w9_9 w10_9 w8_9 w11_9 (b0_9 0) (run bW B (v 3) (v 10)) := p0_9
  have rw8_9 : 0 ≤ w8_9 ∧ w8_9 ≤ 4 := hP.2.1 8
  have rw9_9 : 0 ≤ w9_9 ∧ w9_9 ≤ 700 := hP.2.1 9
  have rw10_9 : 0 ≤ w10_9 ∧ w10_9 ≤ 700 := hP.2.1 10
  have rw11_9 : 0 ≤ w11_9 ∧ w11_9 ≤ 999999 := hP.2.1 11
  have hN0 := p0_9
  have hN0 : mAt B (v 3) w9_9 w10_9 w8_9 w11_9 (b0_9 0) (run bW B (v 3) 0) := by have h := p0_9; rw [show (v 10) = 0 from hj.1] at h; exact h
  have hr0 := runW_spec B (v 3) 0
  have hq0 : 0 ≤ run bW B (v 3) 0 ∧ run bW B (v 3) 0 ≤ (v 3) := ⟨hr0.1, hr0.2.1 (by have := hok.1 3; have h3 : 0 ≤ (v 3) := (hok.1 3).1; exact h3)⟩
  have L_10 : ∀ (n : Nat) (x1 : Int) (qq : Int) (kk : Nat) (t1 : Int) (t2 : Int) (t3 : Int) (e1 : Int) (e2 : Int) (e3 : Int) (y6_10 : Int) (y7_10 : Int) (y8_10 : Int) (y9_10 : Int) (y10_10 : Int) (y11_10 : Int) (y16_10 : Int) (y20_10 : Int) (y21_10 : Int) (y27_10 : Int) (y17_10 : Int) (y15_10 : Int) (y19_10 : Int) (c11_10 : Int → Int) (c12_10 : Int → Int) (c17_10 : Int → Int) (c14_10 : Int → Int) (c16_10 : Int → Int) (c5_10 : Int → Int) (c6_10 : Int → Int) (c7_10 : Int → Int) (c8_10 : Int → Int) (d0_10 : Int → Int) (H : Heap) (locs : List Loc) (ls : Array Slot), 10 * ((v 3) - qq) + 5 - y6_10 < (n : Int) → (0 ≤ qq ∧ qq ≤ (v 3)) → ((0 ≤ t1 ∧ t1 ≤ 1) ∧ (0 ≤ t2 ∧ t2 ≤ 1) ∧ (0 ≤ t3 ∧ t3 ≤ 1)) → (x1 = 2 * t1 + 4 * t2 + 8 * t3) → (mAt B (v 3) y9_10 y10_10 y8_10 y11_10 (d0_10 0) qq) → (y6_10 = 0 → txt B (v 3) kk qq y15_10 t1 t2 t3 = (txt B (v 3) 702 (run bW B (v 3) 0) 0 0 0 0)) → (y6_10 ≠ 0 → y6_10 = (txt B (v 3) 702 (run bW B (v 3) 0) 0 0 0 0).1 ∧ y7_10 = (txt B (v 3) 702 (run bW B (v 3) 0) 0 0 0 0).2.1) → (y6_10 = 0 → rpOk y16_10 c11_10 ∧ y16_10 ≤ 40) → (y6_10 = 0 → (v 3) - qq < (kk : Int)) → (y6_10 = 0 → ∀ j, 0 ≤ j → j < y15_10 → rwC B (v 3) (rdP B (v 3) 702 (run bW B (v 3) 0) 0 j) c5_10 c6_10 c7_10 c8_10 j) → (y6_10 = 0 → repN mp (exL B (v 3) e1) c11_10 c12_10 y16_10) → (y6_10 = 0 → kyOm B (v 3) e2 c14_10 c16_10 y17_10) → (y6_10 = 0 → y19_10 = tiV B (v 3) e3) → (y6_10 = 0 → ∀ j, y15_10 ≤ j → rdP B (v 3) kk qq y15_10 j = (rdP B (v 3) 702 (run bW B (v 3) 0) 0 j)) → (y6_10 = 0 → txP B (v 3) 261 kk qq e1 = (txP B (v 3) 261 702 (run bW B (v 3) 0) (-1))) → (y6_10 = 0 → txP B (v 3) 262 kk qq e2 = (txP B (v 3) 262 702 (run bW B (v 3) 0) (-1))) → (y6_10 = 0 → txP B (v 3) 263 kk qq e3 = (txP B (v 3) 263 702 (run bW B (v 3) 0) (-1))) → gWd D (mdT k ad) (va_up (va_up (va_up (va_up (va_up (va_up (va_up (va_up (va_up (va_up (va_up (va_up (va_up v 6 y6_10) 7 y7_10) 8 y8_10) 9 y9_10) 10 y10_10) 11 y11_10) 16 y16_10) 20 y20_10) 21 y21_10) 27 y27_10) 17 y17_10) 15 y15_10) 19 y19_10) (va_up (va_up (va_up (va_up (va_up (va_up (va_up (va_up (va_up f 11 c11_10) 12 c12_10) 17 c17_10) 14 c14_10) 16 c16_10) 5 c5_10) 6 c6_10) 7 c7_10) 8 c8_10) (va_up g 0 d0_10) H → va_S A s.heap H locs → lv_has ls 3 [(0, .ref (ad 0)), (1, .int (iI x1))] → W p l e (gRm 5 113) s m args below meth c H locs 0 0 Q (F0 m 85 ls []) := by
    intro n
    induction n with
    | zero =>
      intro x1 qq kk t1 t2 t3 e1 e2 e3 y6_10 y7_10 y8_10 y9_10 y10_10 y11_10 y16_10 y20_10 y21_10 y27_10 y17_10 y15_10 y19_10 c11_10 c12_10 c17_10 c14_10 c16_10 c5_10 c6_10 c7_10 c8_10 d0_10 H locs ls hn_10 i10_0 i10_1 i10_2 i10_3 i10_4 i10_5 i10_6 i10_7 i10_8 i10_9 i10_10 i10_11 i10_12 i10_13 i10_14 i10_15 hP hS hl
      have ry6_10 : 0 ≤ y6_10 ∧ y6_10 ≤ 5 := hP.2.1 6
      have ry7_10 : 0 ≤ y7_10 ∧ y7_10 ≤ 700 := hP.2.1 7
      have ry8_10 : 0 ≤ y8_10 ∧ y8_10 ≤ 4 := hP.2.1 8
      have ry9_10 : 0 ≤ y9_10 ∧ y9_10 ≤ 700 := hP.2.1 9
      have ry10_10 : 0 ≤ y10_10 ∧ y10_10 ≤ 700 := hP.2.1 10
      have ry11_10 : 0 ≤ y11_10 ∧ y11_10 ≤ 999999 := hP.2.1 11
      have ry16_10 : 0 ≤ y16_10 ∧ y16_10 ≤ 41 := hP.2.1 16
      have ry20_10 : 0 ≤ y20_10 ∧ y20_10 ≤ 64 := hP.2.1 20
      have ry21_10 : 0 ≤ y21_10 ∧ y21_10 ≤ 9 := hP.2.1 21
      have ry27_10 : 0 ≤ y27_10 ∧ y27_10 ≤ 41 := hP.2.1 27
      have ry17_10 : 0 ≤ y17_10 ∧ y17_10 ≤ 4 := hP.2.1 17
      have ry15_10 : 0 ≤ y15_10 ∧ y15_10 ≤ 4 := hP.2.1 15
      have ry19_10 : 0 ≤ y19_10 ∧ y19_10 ≤ 1 := hP.2.1 19
      exfalso; omega
    | succ n ih_85 =>
      intro x1 qq kk t1 t2 t3 e1 e2 e3 y6_10 y7_10 y8_10 y9_10 y10_10 y11_10 y16_10 y20_10 y21_10 y27_10 y17_10 y15_10 y19_10 c11_10 c12_10 c17_10 c14_10 c16_10 c5_10 c6_10 c7_10 c8_10 d0_10 H locs ls hn_10 i10_0 i10_1 i10_2 i10_3 i10_4 i10_5 i10_6 i10_7 i10_8 i10_9 i10_10 i10_11 i10_12 i10_13 i10_14 i10_15 hP hS hl
      have ry6_10 : 0 ≤ y6_10 ∧ y6_10 ≤ 5 := hP.2.1 6
      have ry7_10 : 0 ≤ y7_10 ∧ y7_10 ≤ 700 := hP.2.1 7
      have ry8_10 : 0 ≤ y8_10 ∧ y8_10 ≤ 4 := hP.2.1 8
      have ry9_10 : 0 ≤ y9_10 ∧ y9_10 ≤ 700 := hP.2.1 9
      have ry10_10 : 0 ≤ y10_10 ∧ y10_10 ≤ 700 := hP.2.1 10
      have ry11_10 : 0 ≤ y11_10 ∧ y11_10 ≤ 999999 := hP.2.1 11
      have ry16_10 : 0 ≤ y16_10 ∧ y16_10 ≤ 41 := hP.2.1 16
      have ry20_10 : 0 ≤ y20_10 ∧ y20_10 ≤ 64 := hP.2.1 20
      have ry21_10 : 0 ≤ y21_10 ∧ y21_10 ≤ 9 := hP.2.1 21
      have ry27_10 : 0 ≤ y27_10 ∧ y27_10 ≤ 41 := hP.2.1 27
      have ry17_10 : 0 ≤ y17_10 ∧ y17_10 ≤ 4 := hP.2.1 17
      have ry15_10 : 0 ≤ y15_10 ∧ y15_10 ≤ 4 := hP.2.1 15
      have ry19_10 : 0 ≤ y19_10 ∧ y19_10 ≤ 1 := hP.2.1 19
      have hC1 := Bx.mk i10_8
      have hC2 := Bx.mk i10_9
      have hC3 := Bx.mk i10_10
      have hC4 := Bx.mk i10_11
      have hC5 := Bx.mk i10_12
      have hC6 := Bx.mk i10_13
      have hC7 := Bx.mk i10_14
      have hC8 := Bx.mk i10_15
      clear i10_8 i10_9 i10_10 i10_11 i10_12 i10_13 i10_14 i10_15
      have ht := i10_1
      have hsn := i10_2
      have hM := i10_3
      have hJ3 := Bx.mk i10_4
      have hJ5 := Bx.mk i10_5
      have hR := Bx.mk i10_6
      clear i10_4 i10_5 i10_6
      have hat : y9_10 = qq := hM.of.1
      have hso : y8_10 = 0 ↔ tK B (v 3) qq = 256 := hM.of.2.2.2.2.1
      have hfk := fk_rng B (v 3) qq
      refine lv_aload_n hx hb dX11_readText_85 rfl (lv_at hl 0 rfl) ?_
      refine mdG_bad C hP mF_X11_188 dX11_readText_86 ?_
      show W p l e (gRm 5 113) s m args below meth c _ _ 0 0 Q (F0 m 89 ls [.int (iI y6_10)])
      have r_11 : 0 ≤ y6_10 ∧ y6_10 ≤ 5 := hP.2.1 6
      refine gi_zne (tgt := 166) hx hb dX11_readText_89 (by decide) (by omega) (fun c_12 => ?_) (fun c_12 => ?_)
      · exact g_vret hQ C hr hlocks hP hS dX11_readText_166 ⟨y6_10, y7_10, y8_10, y9_10, y10_10, y11_10, y16_10, y20_10, y21_10, y27_10, y17_10, y15_10, y19_10, c11_10, c12_10, c17_10, c14_10, c16_10, c5_10, c6_10, c7_10, c8_10, d0_10, rfl, rfl, rfl, rfl, (by first | exact (hJ5.get (by omega)).1 | (rw [← hJ3.get (by omega), show kk = (kk - 1) + 1 by omega, txt_end _ (by omega)]; show _ = (0 : Int); omega)), (by first | exact fun _ => (hJ5.get (by omega)).2 | (intro h; exfalso; rw [← hJ3.get (by omega), show kk = (kk - 1) + 1 by omega, txt_end _ (by omega)] at h; exact h rfl)), (by first | (intro h; have h5 := (hJ5.get (by omega)).1; exfalso; omega) | (intro h; rw [← hJ3.get (by omega), show kk = (kk - 1) + 1 by omega, txt_end _ (by omega)])), hR.get, (fun h => hC1.get h), (fun h => by have h9 := hC6.get h; first | (exfalso; omega) | (rw [show kk = (kk - 1) + 1 by omega, txP_end _ (by omega)] at h9; rw [← h9]; exact hC2.get h)), (fun h => by have h9 := hC7.get h; first | (exfalso; omega) | (rw [show kk = (kk - 1) + 1 by omega, txP_end _ (by omega)] at h9; rw [← h9]; exact hC3.get h)), (fun h => by have h9 := hC8.get h; first | (exfalso; omega) | (rw [show kk = (kk - 1) + 1 by omega, txP_end _ (by omega)] at h9; rw [← h9]; exact hC4.get h))⟩
      · refine lv_aload_n hx hb dX11_readText_92 rfl (lv_at hl 0 rfl) ?_
        refine mdG_sort C hP mF_X11_165 dX11_readText_93 ?_
        show W p l e (gRm 5 113) s m args below meth c _ _ 0 0 Q (F0 m 96 ls [.int (iI y8_10)])
        have r_13 : 0 ≤ y8_10 ∧ y8_10 ≤ 4 := hP.2.1 8
        refine gi_zeq (tgt := 166) hx hb dX11_readText_96 (by decide) (by omega) (fun c_14 => ?_) (fun c_14 => ?_)
        · exact g_vret hQ C hr hlocks hP hS dX11_readText_166 ⟨y6_10, y7_10, y8_10, y9_10, y10_10, y11_10, y16_10, y20_10, y21_10, y27_10, y17_10, y15_10, y19_10, c11_10, c12_10, c17_10, c14_10, c16_10, c5_10, c6_10, c7_10, c8_10, d0_10, rfl, rfl, rfl, rfl, (by first | exact (hJ5.get (by omega)).1 | (rw [← hJ3.get (by omega), show kk = (kk - 1) + 1 by omega, txt_end _ (by omega)]; show _ = (0 : Int); omega)), (by first | exact fun _ => (hJ5.get (by omega)).2 | (intro h; exfalso; rw [← hJ3.get (by omega), show kk = (kk - 1) + 1 by omega, txt_end _ (by omega)] at h; exact h rfl)), (by first | (intro h; have h5 := (hJ5.get (by omega)).1; exfalso; omega) | (intro h; rw [← hJ3.get (by omega), show kk = (kk - 1) + 1 by omega, txt_end _ (by omega)])), hR.get, (fun h => hC1.get h), (fun h => by have h9 := hC6.get h; first | (exfalso; omega) | (rw [show kk = (kk - 1) + 1 by omega, txP_end _ (by omega)] at h9; rw [← h9]; exact hC2.get h)), (fun h => by have h9 := hC7.get h; first | (exfalso; omega) | (rw [show kk = (kk - 1) + 1 by omega, txP_end _ (by omega)] at h9; rw [← h9]; exact hC3.get h)), (fun h => by have h9 := hC8.get h; first | (exfalso; omega) | (rw [show kk = (kk - 1) + 1 by omega, txP_end _ (by omega)] at h9; rw [← h9]; exact hC4.get h))⟩
        · refine lv_aload_n hx hb dX11_readText_99 rfl (lv_at hl 0 rfl) ?_
          refine g_cv (As := []) (rest := []) (n := 0) C hml (n_lawOf l D k A ad hD (va_up (va_up (va_up (va_up (va_up (va_up (va_up (va_up (va_up (va_up (va_up (va_up (va_up v 6 y6_10) 7 y7_10) 8 y8_10) 9 y9_10) 10 y10_10) 11 y11_10) 16 y16_10) 20 y20_10) 21 y21_10) 27 y27_10) 17 y17_10) 15 y15_10) 19 y19_10) (va_up (va_up (va_up (va_up (va_up (va_up (va_up (va_up (va_up f 11 c11_10) 12 c12_10) 17 c17_10) 14 c14_10) 16 c16_10) 5 c5_10) 6 c6_10) 7 c7_10) 8 c8_10) (va_up g 0 d0_10) B qq (show mAt B (v 3) y9_10 y10_10 y8_10 y11_10 (d0_10 0) qq from hM)) mM_X11_220 mI_X11_lawOf mE_X11_lawOf mN_X11 mC_X11_lawOf (by decide +kernel) 0 (ci := 11) rfl rfl hP hS (fun _ h => h) ⟨Nat.le_of_ble_eq_true rfl, Nat.le_of_ble_eq_true rfl⟩ ⟨Nat.zero_le _, Nat.zero_le _⟩ hl.1 rfl rfl (Nat.le_of_ble_eq_true rfl) dX11_readText_100 (fun r_15 v_15 f_15 g_15 H locs hq_15 hP _ hS => ?_)
          obtain ⟨z_15, rfl, rfl, rfl, rfl, p0_15, p1_15, p2_15, p3_15, p4_15⟩ := hq_15
          show W p l e (gRm 5 113) s m args below meth c _ _ 0 0 Q (F0 m 103 ls [.int (iI z_15)])
          replace p0_15 : (-1) ≤ z_15 ∧ z_15 ≤ 3 := p0_15
          replace p1_15 : z_15 = 0 ↔ (tK B (v 3) qq) = 260 := p1_15
          replace p2_15 : z_15 = 1 ↔ (tK B (v 3) qq) = 261 := p2_15
          replace p3_15 : z_15 = 2 ↔ (tK B (v 3) qq) = 262 := p3_15
          replace p4_15 : z_15 = 3 ↔ (tK B (v 3) qq) = 263 := p4_15
          refine lv_istore_n (lv' := [(2, .int (iI z_15)), (0, .ref (ad 0)), (1, .int (iI x1))]) hx hb dX11_readText_103 rfl hl (by decide) rfl (fun ls hl => ?_)
          rcases (show z_15 = (-1) ∨ z_15 = 0 ∨ z_15 = 1 ∨ z_15 = 2 ∨ z_15 = 3 by omega) with hz | hz | hz | hz | hz
          · have hn256 : tK B (v 3) qq ≠ 256 := fun q => c_14 (hso.mpr q)
            have hk0 := mt p1_15.mpr (show ¬ z_15 = 0 by omega)
            have hk1 := mt p2_15.mpr (show ¬ z_15 = 1 by omega)
            have hk2 := mt p3_15.mpr (show ¬ z_15 = 2 by omega)
            have hk3 := mt p4_15.mpr (show ¬ z_15 = 3 by omega)
            clear p1_15 p2_15 p3_15 p4_15 hso
            refine lv_iload_n hx hb dX11_readText_104 rfl (lv_at hl 0 rfl) ?_
            refine gi_zge (tgt := 115) hx hb dX11_readText_105 (by decide) (by omega) (fun c_16 => ?_) (fun c_16 => ?_)
            · exfalso; omega
            · refine lv_aload_n hx hb dX11_readText_108 rfl (lv_at hl 1 rfl) ?_
              refine g_cv (As := []) (rest := []) (n := 0) C hml (n_wrC l D k A ad hD (va_up (va_up (va_up (va_up (va_up (va_up (va_up (va_up (va_up (va_up (va_up (va_up (va_up v 6 y6_10) 7 y7_10) 8 y8_10) 9 y9_10) 10 y10_10) 11 y11_10) 16 y16_10) 20 y20_10) 21 y21_10) 27 y27_10) 17 y17_10) 15 y15_10) 19 y19_10) (va_up (va_up (va_up (va_up (va_up (va_up (va_up (va_up (va_up f 11 c11_10) 12 c12_10) 17 c17_10) 14 c14_10) 16 c16_10) 5 c5_10) 6 c6_10) 7 c7_10) 8 c8_10) (va_up g 0 d0_10) B qq (show mAt B (v 3) y9_10 y10_10 y8_10 y11_10 (d0_10 0) qq from hM)) mM_X11_198 mI_X11_wrong mE_X11_wrong mN_X11 mC_X11_wrong (by decide +kernel) 0 (ci := 11) rfl rfl hP hS (fun _ h => h) ⟨Nat.le_of_ble_eq_true rfl, Nat.le_of_ble_eq_true rfl⟩ ⟨Nat.zero_le _, Nat.zero_le _⟩ hl.1 rfl rfl (Nat.le_of_ble_eq_true rfl) dX11_readText_109 (fun r_17 v_17 f_17 g_17 H locs hq_17 hP _ hS => ?_)
              obtain ⟨w6_17, w7_17, rfl, rfl, rfl, rfl, p0_17, p1_17⟩ := hq_17
              show W p l e (gRm 5 113) s m args below meth c _ _ 0 0 Q (F0 m 112 ls [])
              have hP : gWd D (mdT k ad) (va_up (va_up (va_up (va_up (va_up (va_up (va_up (va_up (va_up (va_up (va_up (va_up (va_up v 6 w6_17) 7 w7_17) 8 y8_10) 9 y9_10) 10 y10_10) 11 y11_10) 16 y16_10) 20 y20_10) 21 y21_10) 27 y27_10) 17 y17_10) 15 y15_10) 19 y19_10) (va_up (va_up (va_up (va_up (va_up (va_up (va_up (va_up (va_up f 11 c11_10) 12 c12_10) 17 c17_10) 14 c14_10) 16 c16_10) 5 c5_10) 6 c6_10) 7 c7_10) 8 c8_10) (va_up g 0 d0_10) H := ⟨hP.1, (gF_up (V := mdV) (F := mdF) (gF_up (V := mdV) (F := mdF) (gF_up (V := mdV) (F := mdF) (gF_up (V := mdV) (F := mdF) (gF_up (V := mdV) (F := mdF) (gF_up (V := mdV) (F := mdF) (gF_up (V := mdV) (F := mdF) (gF_up (V := mdV) (F := mdF) (gF_up (V := mdV) (F := mdF) (gR_up (V := mdV) (F := mdF) (gR_up (V := mdV) (F := mdF) (gR_up (V := mdV) (F := mdF) (gR_up (V := mdV) (F := mdF) (gR_up (V := mdV) (F := mdF) (gR_up (V := mdV) (F := mdF) (gR_up (V := mdV) (F := mdF) (gR_up (V := mdV) (F := mdF) (gR_up (V := mdV) (F := mdF) (gR_up (V := mdV) (F := mdF) (gR_up (V := mdV) (F := mdF) (gR_up (V := mdV) (F := mdF) (gR_up (V := mdV) (F := mdF) ⟨hok.1, hok.2⟩ 6 (hP.2.1 6)) 7 (hP.2.1 7)) 8 (hP.2.1 8)) 9 (hP.2.1 9)) 10 (hP.2.1 10)) 11 (hP.2.1 11)) 16 (hP.2.1 16)) 20 (hP.2.1 20)) 21 (hP.2.1 21)) 27 (hP.2.1 27)) 17 (hP.2.1 17)) 15 (hP.2.1 15)) 19 (hP.2.1 19)) 11 (hP.2.2 11)) 12 (hP.2.2 12)) 17 (hP.2.2 17)) 14 (hP.2.2 14)) 16 (hP.2.2 16)) 5 (hP.2.2 5)) 6 (hP.2.2 6)) 7 (hP.2.2 7)) 8 (hP.2.2 8))⟩
              replace p0_17 : y6_10 = 0 → w6_17 = (fk B (v 3) qq) ∧ w7_17 = qq := p0_17
              replace p1_17 : 0 < y6_10 → w6_17 = y6_10 ∧ w7_17 = y7_10 := p1_17
              have rw6_17 : 0 ≤ w6_17 ∧ w6_17 ≤ 5 := hP.2.1 6
              have rw7_17 : 0 ≤ w7_17 ∧ w7_17 ≤ 700 := hP.2.1 7
              first | replace p0_17 := p0_17 (by omega) | clear p0_17
              first | replace p1_17 := p1_17 (by omega) | clear p1_17
              refine lv_goto (tgt := 137) hx hb dX11_readText_112 (by decide) ?_
              refine lv_iload_n hx hb dX11_readText_137 rfl (lv_at hl 2 rfl) ?_
              refine lv_iload_n hx hb dX11_readText_138 rfl (lv_at hl 0 rfl) ?_
              refine gi_zle (tgt := 148) hx hb dX11_readText_139 (by decide) (by omega) (fun c_18 => ?_) (fun c_18 => ?_)
              · refine lv_iconst (v := iI 0) hx hb dX11_readText_148 rfl ?_
                obtain ⟨x_19, ex_19, hx_19⟩ : ∃ z : Int, iI x1 ||| iI 0 = iI z ∧ inR z := ⟨(iI x1 ||| iI 0).toInt, (iI_of _).symm, iI_rng _⟩
                refine gi_or (z := x_19) hx hb dX11_readText_149 ex_19 ?_
                refine lv_istore_n (lv' := [(1, .int (iI x_19)), (2, .int (iI z_15)), (0, .ref (ad 0))]) hx hb dX11_readText_150 rfl hl (by decide) rfl (fun ls hl => ?_)
                have hy0 := seen0 ht.1 ht.2.1 ht.2.2 hsn ex_19 (by omega)
                refine lv_aload_n hx hb dX11_readText_151 rfl (lv_at hl 2 rfl) ?_
                refine mdG_bad C hP mF_X11_188 dX11_readText_152 ?_
                show W p l e (gRm 5 113) s m args below meth c _ _ 0 0 Q (F0 m 155 ls [.int (iI w6_17)])
                have r_20 : 0 ≤ w6_17 ∧ w6_17 ≤ 5 := hP.2.1 6
                refine gi_zne (tgt := 163) hx hb dX11_readText_155 (by decide) (by omega) (fun c_21 => ?_) (fun c_21 => ?_)
                · refine lv_goto (tgt := 85) hx hb dX11_readText_163 (by decide) ?_
                  exact ih_85 x_19 (qq) (kk) (t1) (t2) (t3) (e1) (e2) (e3) w6_17 w7_17 y8_10 y9_10 y10_10 y11_10 y16_10 y20_10 y21_10 y27_10 y17_10 y15_10 y19_10 c11_10 c12_10 c17_10 c14_10 c16_10 c5_10 c6_10 c7_10 c8_10 d0_10 _ _ _ (by omega) (by omega) (by omega) (by omega) hM (by first | (intro h; exfalso; omega) | exact hJ3.get) (by first | (intro h; exfalso; omega) | exact (fun h => by rw [← hJ3.get (by omega), show kk = (kk - 1) + 1 by omega, txt_bad _ (by omega) (by rw [law1_no (by omega)]; show _ ≠ (0 : Int); omega), law1_no (by omega)]; exact ⟨by omega, by show _ = qq; omega⟩)) (by first | (intro h; exfalso; omega) | exact hR.get) (by omega) (by first | (intro h; exfalso; omega) | exact (fun h => fun j j0 j1 => (by have hl := hL3.get (by omega); have hr := hW1.get (by omega); exact (if e : tK B (v 3) qq = 260 ∧ j = y15_10 then (by have h2 := hl.1 e.1; rw [e.2, ← hC5.get (by omega) _ (Int.le_refl _), show kk = (kk - 1) + 1 by omega, rdP_here _ e.1]; exact h2) else (by have hlt9 : j < y15_10 := (by by_cases h8 : tK B (v 3) qq = 260; (rw [if_pos h8] at hr; omega); (rw [if_neg h8] at hr; omega)); have h9 := hC1.get (by omega) j j0 hlt9; have h7 := hl.2 j hlt9; exact ⟨h7.1.trans h9.1, h7.2.1.trans h9.2.1, h7.2.2.1.trans h9.2.2.1, h7.2.2.2.trans h9.2.2.2⟩))))) (by first | (intro h; exfalso; omega) | exact (fun h => (by have hl := hL4.get (by omega); by_cases e : tK B (v 3) qq = 261; (rw [if_pos e]; have h2 := hl.1 e; unfold exL; rw [if_neg (by have := hge; omega)]; exact repN_of _ _ _ _ h2); (rw [if_neg e, (hl.2 e).1, (hl.2 e).2.1, (hl.2 e).2.2]; exact hC2.get (by omega))))) (by first | (intro h; exfalso; omega) | exact (fun h => (by have hl := hL5.get (by omega); by_cases e : tK B (v 3) qq = 262; (rw [if_pos e]; exact kyOm_told (by have := hge; omega) (hl.1 e)); (rw [if_neg e, (hl.2 e).1, (hl.2 e).2.1, (hl.2 e).2.2]; exact hC3.get (by omega))))) (by first | (intro h; exfalso; omega) | exact (fun h => (by have hl := hL6.get (by omega); by_cases e : tK B (v 3) qq = 263; (rw [if_pos e]; unfold tiV; rw [if_neg (by have := hge; omega)]; exact hl.1 e); (rw [if_neg e, hl.2 e]; exact hC4.get (by omega))))) (by first | (intro h; exfalso; omega) | exact (fun h => fun j hj => (by have hr := hW1.get (by omega); rw [← hC5.get (by omega) j (by by_cases h8 : tK B (v 3) qq = 260; (rw [if_pos h8] at hr; omega); (rw [if_neg h8] at hr; omega)), show kk = (kk - 1) + 1 by omega]; exact (rdP_go _ (by omega) (nxL_z (by have := hOI.1; omega)) (hW1.get (by omega)) hj).symm))) (by first | (intro h; exfalso; omega) | exact (fun h => (by rw [← hC6.get (by omega), show kk = (kk - 1) + 1 by omega]; exact (txP_go _ (by omega) (nxL_z (by have := hOI.1; omega)) rfl).symm))) (by first | (intro h; exfalso; omega) | exact (fun h => (by rw [← hC7.get (by omega), show kk = (kk - 1) + 1 by omega]; exact (txP_go _ (by omega) (nxL_z (by have := hOI.1; omega)) rfl).symm))) (by first | (intro h; exfalso; omega) | exact (fun h => (by rw [← hC8.get (by omega), show kk = (kk - 1) + 1 by omega]; exact (txP_go _ (by omega) (nxL_z (by have := hOI.1; omega)) rfl).symm))) hP hS (lv_sub hl [2, 0] rfl)
                · exfalso; omega
              · exfalso; omega
          · have hn256 : tK B (v 3) qq ≠ 256 := fun q => c_14 (hso.mpr q)
            have hk := p1_15.mp hz
            clear p1_15 p2_15 p3_15 p4_15 hso
            refine lv_iload_n hx hb dX11_readText_104 rfl (lv_at hl 0 rfl) ?_
            refine gi_zge (tgt := 115) hx hb dX11_readText_105 (by decide) (by omega) (fun c_22 => ?_) (fun c_22 => ?_)
            · refine lv_iload_n hx hb dX11_readText_115 rfl (lv_at hl 0 rfl) ?_
              refine gi_zle (tgt := 137) hx hb dX11_readText_116 (by decide) (by omega) (fun c_23 => ?_) (fun c_23 => ?_)
              · refine lv_iload_n hx hb dX11_readText_137 rfl (lv_at hl 2 rfl) ?_
                refine lv_iload_n hx hb dX11_readText_138 rfl (lv_at hl 0 rfl) ?_
                refine gi_zle (tgt := 148) hx hb dX11_readText_139 (by decide) (by omega) (fun c_24 => ?_) (fun c_24 => ?_)
                · refine lv_iconst (v := iI 0) hx hb dX11_readText_148 rfl ?_
                  obtain ⟨x_25, ex_25, hx_25⟩ : ∃ z : Int, iI x1 ||| iI 0 = iI z ∧ inR z := ⟨(iI x1 ||| iI 0).toInt, (iI_of _).symm, iI_rng _⟩
                  refine gi_or (z := x_25) hx hb dX11_readText_149 ex_25 ?_
                  refine lv_istore_n (lv' := [(1, .int (iI x_25)), (2, .int (iI z_15)), (0, .ref (ad 0))]) hx hb dX11_readText_150 rfl hl (by decide) rfl (fun ls hl => ?_)
                  have hy0 := seen0 ht.1 ht.2.1 ht.2.2 hsn ex_25 (by omega)
                  refine lv_aload_n hx hb dX11_readText_151 rfl (lv_at hl 2 rfl) ?_
                  refine mdG_bad C hP mF_X11_188 dX11_readText_152 ?_
                  show W p l e (gRm 5 113) s m args below meth c _ _ 0 0 Q (F0 m 155 ls [.int (iI y6_10)])
                  refine gi_zne (tgt := 163) hx hb dX11_readText_155 (by decide) (by omega) (fun c_26 => ?_) (fun c_26 => ?_)
                  · exfalso; omega
                  · refine lv_aload_n hx hb dX11_readText_158 rfl (lv_at hl 2 rfl) ?_
                    refine lv_iload_n hx hb dX11_readText_159 rfl (lv_at hl 1 rfl) ?_
                    refine g_cv (As := [.int (iI z_15)]) (rest := []) (n := 1) C hml (q_n_readLaw l D k A ad hD (va_up (va_up (va_up (va_up (va_up (va_up (va_up (va_up (va_up (va_up (va_up (va_up (va_up v 6 y6_10) 7 y7_10) 8 y8_10) 9 y9_10) 10 y10_10) 11 y11_10) 16 y16_10) 20 y20_10) 21 y21_10) 27 y27_10) 17 y17_10) 15 y15_10) 19 y19_10) (va_up (va_up (va_up (va_up (va_up (va_up (va_up (va_up (va_up f 11 c11_10) 12 c12_10) 17 c17_10) 14 c14_10) 16 c16_10) 5 c5_10) 6 c6_10) 7 c7_10) 8 c8_10) (va_up g 0 d0_10) z_15 B qq (by omega) (show ∀ k, (f 0) k % 256 = B k from hB) (show mAt B (v 3) y9_10 y10_10 y8_10 y11_10 (d0_10 0) qq from hM) (show y6_10 = 0 from by omega) (show z_15 = (tK B (v 3) qq) - 260 ∧ 0 ≤ z_15 ∧ z_15 ≤ 3 from by omega) (show rpOk y16_10 c11_10 ∧ y16_10 ≤ 40 from hR.get (by omega))) mM_X11_224 mI_X11_readLaw mE_X11_readLaw mN_X11 mC_X11_readLaw (by decide +kernel) 0 (ci := 11) rfl rfl hP hS (fun _ h => h) ⟨Nat.le_of_ble_eq_true rfl, Nat.le_of_ble_eq_true rfl⟩ ⟨Nat.zero_le _, Nat.zero_le _⟩ hl.1 rfl rfl (Nat.le_of_ble_eq_true rfl) dX11_readText_160 (fun r_27 v_27 f_27 g_27 H locs hq_27 hP _ hS => ?_)
                    obtain ⟨w6_27, w7_27, w8_27, w9_27, w10_27, w11_27, w16_27, w20_27, w21_27, w27_27, w17_27, w15_27, w19_27, a11_27, a12_27, a17_27, a14_27, a16_27, a5_27, a6_27, a7_27, a8_27, b0_27, rfl, rfl, rfl, rfl, p0_27, p1_27, p2_27, p3_27, p4_27, p5_27, p6_27⟩ := hq_27
                    show W p l e (gRm 5 113) s m args below meth c _ _ 0 0 Q (F0 m 163 ls [])
                    have hP : gWd D (mdT k ad) (va_up (va_up (va_up (va_up (va_up (va_up (va_up (va_up (va_up (va_up (va_up (va_up (va_up v 6 w6_27) 7 w7_27) 8 w8_27) 9 w9_27) 10 w10_27) 11 w11_27) 16 w16_27) 20 w20_27) 21 w21_27) 27 w27_27) 17 w17_27) 15 w15_27) 19 w19_27) (va_up (va_up (va_up (va_up (va_up (va_up (va_up (va_up (va_up f 11 a11_27) 12 a12_27) 17 a17_27) 14 a14_27) 16 a16_27) 5 a5_27) 6 a6_27) 7 a7_27) 8 a8_27) (va_up g 0 b0_27) H := ⟨hP.1, (gF_up (V := mdV) (F := mdF) (gF_up (V := mdV) (F := mdF) (gF_up (V := mdV) (F := mdF) (gF_up (V := mdV) (F := mdF) (gF_up (V := mdV) (F := mdF) (gF_up (V := mdV) (F := mdF) (gF_up (V := mdV) (F := mdF) (gF_up (V := mdV) (F := mdF) (gF_up (V := mdV) (F := mdF) (gR_up (V := mdV) (F := mdF) (gR_up (V := mdV) (F := mdF) (gR_up (V := mdV) (F := mdF) (gR_up (V := mdV) (F := mdF) (gR_up (V := mdV) (F := mdF) (gR_up (V := mdV) (F := mdF) (gR_up (V := mdV) (F := mdF) (gR_up (V := mdV) (F := mdF) (gR_up (V := mdV) (F := mdF) (gR_up (V := mdV) (F := mdF) (gR_up (V := mdV) (F := mdF) (gR_up (V := mdV) (F := mdF) (gR_up (V := mdV) (F := mdF) ⟨hok.1, hok.2⟩ 6 (hP.2.1 6)) 7 (hP.2.1 7)) 8 (hP.2.1 8)) 9 (hP.2.1 9)) 10 (hP.2.1 10)) 11 (hP.2.1 11)) 16 (hP.2.1 16)) 20 (hP.2.1 20)) 21 (hP.2.1 21)) 27 (hP.2.1 27)) 17 (hP.2.1 17)) 15 (hP.2.1 15)) 19 (hP.2.1 19)) 11 (hP.2.2 11)) 12 (hP.2.2 12)) 17 (hP.2.2 17)) 14 (hP.2.2 14)) 16 (hP.2.2 16)) 5 (hP.2.2 5)) 6 (hP.2.2 6)) 7 (hP.2.2 7)) 8 (hP.2.2 8))⟩
                    replace p0_27 : oM B (v 3) (law1 B (v 3) qq y15_10 0 0 0) w6_27 w7_27 w9_27 w10_27 w8_27 w11_27 (b0_27 0) := p0_27
                    replace p1_27 : w6_27 = 0 → w15_27 = (if (tK B (v 3) qq) = 260 then y15_10 + 1 else y15_10) := p1_27
                    replace p2_27 : w6_27 = 0 → rpOk w16_27 a11_27 ∧ w16_27 ≤ 40 := p2_27
                    replace p3_27 : w6_27 = 0 → ((tK B (v 3) qq) = 260 → rwC B (v 3) (tX B (v 3) qq) a5_27 a6_27 a7_27 a8_27 y15_10) ∧ (∀ e, e < y15_10 → a5_27 e = c5_10 e ∧ a6_27 e = c6_10 e ∧ a7_27 e = c7_10 e ∧ a8_27 e = c8_10 e) := p3_27
                    replace p4_27 : w6_27 = 0 → ((tK B (v 3) qq) = 261 → repC mp (exF B (v 3) 702 (tX B (v 3) qq) 0 [] []).2.2 a11_27 a12_27 w16_27) ∧ ((tK B (v 3) qq) ≠ 261 → w16_27 = y16_10 ∧ a11_27 = c11_10 ∧ a12_27 = c12_10) := p4_27
                    replace p5_27 : w6_27 = 0 → ((tK B (v 3) qq) = 262 → w17_27 = kyN B (v 3) 4 (tX B (v 3) qq) ∧ kyM B (v 3) (tX B (v 3) qq) a14_27 a16_27 w17_27) ∧ ((tK B (v 3) qq) ≠ 262 → w17_27 = y17_10 ∧ a14_27 = c14_10 ∧ a16_27 = c16_10) := p5_27
                    replace p6_27 : w6_27 = 0 → ((tK B (v 3) qq) = 263 → w19_27 = (if tK B (v 3) (tX B (v 3) qq) = 264 then 1 else 0)) ∧ ((tK B (v 3) qq) ≠ 263 → w19_27 = y19_10) := p6_27
                    have rw6_27 : 0 ≤ w6_27 ∧ w6_27 ≤ 5 := hP.2.1 6
                    have rw7_27 : 0 ≤ w7_27 ∧ w7_27 ≤ 700 := hP.2.1 7
                    have rw8_27 : 0 ≤ w8_27 ∧ w8_27 ≤ 4 := hP.2.1 8
                    have rw9_27 : 0 ≤ w9_27 ∧ w9_27 ≤ 700 := hP.2.1 9
                    have rw10_27 : 0 ≤ w10_27 ∧ w10_27 ≤ 700 := hP.2.1 10
                    have rw11_27 : 0 ≤ w11_27 ∧ w11_27 ≤ 999999 := hP.2.1 11
                    have rw16_27 : 0 ≤ w16_27 ∧ w16_27 ≤ 41 := hP.2.1 16
                    have rw20_27 : 0 ≤ w20_27 ∧ w20_27 ≤ 64 := hP.2.1 20
                    have rw21_27 : 0 ≤ w21_27 ∧ w21_27 ≤ 9 := hP.2.1 21
                    have rw27_27 : 0 ≤ w27_27 ∧ w27_27 ≤ 41 := hP.2.1 27
                    have rw17_27 : 0 ≤ w17_27 ∧ w17_27 ≤ 4 := hP.2.1 17
                    have rw15_27 : 0 ≤ w15_27 ∧ w15_27 ≤ 4 := hP.2.1 15
                    have rw19_27 : 0 ≤ w19_27 ∧ w19_27 ≤ 1 := hP.2.1 19
                    have hL3 := Bx.mk p3_27
                    have hL4 := Bx.mk p4_27
                    have hL5 := Bx.mk p5_27
                    have hL6 := Bx.mk p6_27
                    clear p3_27 p4_27 p5_27 p6_27
                    have hOI := p0_27
                    have hW1 := Bx.mk p1_27
                    clear p1_27
                    have hL := Bx.mk p2_27
                    clear p2_27
                    have hlt : law1 B (v 3) qq y15_10 t1 t2 t3 = law1 B (v 3) qq y15_10 0 0 0 := law1_t (by omega) (by omega) (by omega)
                    rw [← hlt] at hOI
                    have hlq : qq < (v 3) := by have h9 := (not_congr (tK_end (B := B) (n := (v 3)) (q := qq))).mp (by omega); omega
                    have hge : w6_27 = 0 → qq + 1 ≤ (law1 B (v 3) qq y15_10 t1 t2 t3).2 := fun h => law1_ge hlq (by have := hOI.1; omega)
                    have hge2 : qq ≤ (law1 B (v 3) qq y15_10 t1 t2 t3).2 := law1_le hlq
                    have hpo := hOI.2.2.of.2.1
                    have hge := tX_up (B := B) (n := (v 3)) (q := qq) hlq
                    refine lv_goto (tgt := 85) hx hb dX11_readText_163 (by decide) ?_
                    exact ih_85 x_25 ((law1 B (v 3) qq y15_10 t1 t2 t3).2) ((kk - 1)) (t1) (t2) (t3) ((if tK B (v 3) qq = 261 then tX B (v 3) qq else e1)) ((if tK B (v 3) qq = 262 then tX B (v 3) qq else e2)) ((if tK B (v 3) qq = 263 then tX B (v 3) qq else e3)) w6_27 w7_27 w8_27 w9_27 w10_27 w11_27 w16_27 w20_27 w21_27 w27_27 w17_27 w15_27 w19_27 a11_27 a12_27 a17_27 a14_27 a16_27 a5_27 a6_27 a7_27 a8_27 b0_27 _ _ _ (by omega) (by omega) (by omega) (by omega) hOI.2.2 (by first | (intro h; exfalso; omega) | exact (fun h => by rw [← hJ3.get (by omega), show kk = (kk - 1) + 1 by omega]; exact (txt_go _ (by omega) (by have := hOI.1; omega) (hW1.get h) (by first | rw [if_pos (by omega)] | rw [if_neg (by omega)]) (by first | rw [if_pos (by omega)] | rw [if_neg (by omega)]) (by first | rw [if_pos (by omega)] | rw [if_neg (by omega)])).symm)) (by first | (intro h; exfalso; omega) | exact (fun h => by rw [← hJ3.get (by omega), show kk = (kk - 1) + 1 by omega, txt_bad _ (by omega) (by have := hOI.1; omega)]; exact ⟨hOI.1, hOI.2.1 (by have := hOI.1; omega)⟩)) (by first | (intro h; exfalso; omega) | exact hL.get) (by omega) (by first | (intro h; exfalso; omega) | exact (fun h => fun j j0 j1 => (by have hl := hL3.get (by omega); have hr := hW1.get (by omega); exact (if e : tK B (v 3) qq = 260 ∧ j = y15_10 then (by have h2 := hl.1 e.1; rw [e.2, ← hC5.get (by omega) _ (Int.le_refl _), show kk = (kk - 1) + 1 by omega, rdP_here _ e.1]; exact h2) else (by have hlt9 : j < y15_10 := (by by_cases h8 : tK B (v 3) qq = 260; (rw [if_pos h8] at hr; omega); (rw [if_neg h8] at hr; omega)); have h9 := hC1.get (by omega) j j0 hlt9; have h7 := hl.2 j hlt9; exact ⟨h7.1.trans h9.1, h7.2.1.trans h9.2.1, h7.2.2.1.trans h9.2.2.1, h7.2.2.2.trans h9.2.2.2⟩))))) (by first | (intro h; exfalso; omega) | exact (fun h => (by have hl := hL4.get (by omega); by_cases e : tK B (v 3) qq = 261; (rw [if_pos e]; have h2 := hl.1 e; unfold exL; rw [if_neg (by have := hge; omega)]; exact repN_of _ _ _ _ h2); (rw [if_neg e, (hl.2 e).1, (hl.2 e).2.1, (hl.2 e).2.2]; exact hC2.get (by omega))))) (by first | (intro h; exfalso; omega) | exact (fun h => (by have hl := hL5.get (by omega); by_cases e : tK B (v 3) qq = 262; (rw [if_pos e]; exact kyOm_told (by have := hge; omega) (hl.1 e)); (rw [if_neg e, (hl.2 e).1, (hl.2 e).2.1, (hl.2 e).2.2]; exact hC3.get (by omega))))) (by first | (intro h; exfalso; omega) | exact (fun h => (by have hl := hL6.get (by omega); by_cases e : tK B (v 3) qq = 263; (rw [if_pos e]; unfold tiV; rw [if_neg (by have := hge; omega)]; exact hl.1 e); (rw [if_neg e, hl.2 e]; exact hC4.get (by omega))))) (by first | (intro h; exfalso; omega) | exact (fun h => fun j hj => (by have hr := hW1.get (by omega); rw [← hC5.get (by omega) j (by by_cases h8 : tK B (v 3) qq = 260; (rw [if_pos h8] at hr; omega); (rw [if_neg h8] at hr; omega)), show kk = (kk - 1) + 1 by omega]; exact (rdP_go _ (by omega) (nxL_z (by have := hOI.1; omega)) (hW1.get (by omega)) hj).symm))) (by first | (intro h; exfalso; omega) | exact (fun h => (by rw [← hC6.get (by omega), show kk = (kk - 1) + 1 by omega]; exact (txP_go _ (by omega) (nxL_z (by have := hOI.1; omega)) rfl).symm))) (by first | (intro h; exfalso; omega) | exact (fun h => (by rw [← hC7.get (by omega), show kk = (kk - 1) + 1 by omega]; exact (txP_go _ (by omega) (nxL_z (by have := hOI.1; omega)) rfl).symm))) (by first | (intro h; exfalso; omega) | exact (fun h => (by rw [← hC8.get (by omega), show kk = (kk - 1) + 1 by omega]; exact (txP_go _ (by omega) (nxL_z (by have := hOI.1; omega)) rfl).symm))) hP hS (lv_sub hl [2, 0] rfl)
                · exfalso; omega
              · exfalso; omega
            · exfalso; omega
          · have hn256 : tK B (v 3) qq ≠ 256 := fun q => c_14 (hso.mpr q)
            have hk := p2_15.mp hz
            clear p1_15 p2_15 p3_15 p4_15 hso
            refine lv_iload_n hx hb dX11_readText_104 rfl (lv_at hl 0 rfl) ?_
            refine gi_zge (tgt := 115) hx hb dX11_readText_105 (by decide) (by omega) (fun c_28 => ?_) (fun c_28 => ?_)
            · refine lv_iload_n hx hb dX11_readText_115 rfl (lv_at hl 0 rfl) ?_
              refine gi_zle (tgt := 137) hx hb dX11_readText_116 (by decide) (by omega) (fun c_29 => ?_) (fun c_29 => ?_)
              · exfalso; omega
              · refine lv_iload_n hx hb dX11_readText_119 rfl (lv_at hl 2 rfl) ?_
                refine lv_iload_n hx hb dX11_readText_120 rfl (lv_at hl 0 rfl) ?_
                obtain ⟨x_30, ex_30, hx_30⟩ : ∃ z : Int, iI x1 >>> (iI z_15 &&& 31) = iI z ∧ inR z := ⟨(iI x1 >>> (iI z_15 &&& 31)).toInt, (iI_of _).symm, iI_rng _⟩
                refine gi_shr (z := x_30) hx hb dX11_readText_121 ex_30 ?_
                refine lv_iconst (v := iI 1) hx hb dX11_readText_122 rfl ?_
                obtain ⟨x_31, ex_31, hx_31⟩ := gAnd x_30 1 1 (by decide) (by decide)
                refine gi_and (z := x_31) hx hb dX11_readText_123 ex_31 ?_
                have hbit := seenB ht.1 ht.2.1 ht.2.2 hsn ex_30 ex_31 (by omega)
                have hb2 : x_31 = t1 := by omega
                refine lv_iconst (v := iI 1) hx hb dX11_readText_124 rfl ?_
                refine gi_cne (tgt := 137) hx hb dX11_readText_125 (by decide) (by omega) (by decide) (fun c_32 => ?_) (fun c_32 => ?_)
                · refine lv_iload_n hx hb dX11_readText_137 rfl (lv_at hl 2 rfl) ?_
                  refine lv_iload_n hx hb dX11_readText_138 rfl (lv_at hl 0 rfl) ?_
                  refine gi_zle (tgt := 148) hx hb dX11_readText_139 (by decide) (by omega) (fun c_33 => ?_) (fun c_33 => ?_)
                  · exfalso; omega
                  · refine lv_iconst (v := iI 1) hx hb dX11_readText_142 rfl ?_
                    refine lv_iload_n hx hb dX11_readText_143 rfl (lv_at hl 0 rfl) ?_
                    obtain ⟨x_34, ex_34, hx_34⟩ := gShl1 z_15 (by omega)
                    refine gi_shl (z := x_34) hx hb dX11_readText_144 ex_34 ?_
                    refine lv_goto (tgt := 149) hx hb dX11_readText_145 (by decide) ?_
                    obtain ⟨x_35, ex_35, hx_35⟩ : ∃ z : Int, iI x1 ||| iI x_34 = iI z ∧ inR z := ⟨(iI x1 ||| iI x_34).toInt, (iI_of _).symm, iI_rng _⟩
                    refine gi_or (z := x_35) hx hb dX11_readText_149 ex_35 ?_
                    refine lv_istore_n (lv' := [(1, .int (iI x_35)), (2, .int (iI z_15)), (0, .ref (ad 0))]) hx hb dX11_readText_150 rfl hl (by decide) rfl (fun ls hl => ?_)
                    have hy1 := seenO ht.1 ht.2.1 ht.2.2 hsn ex_34 ex_35 (by omega)
                    clear ex_35
                    refine lv_aload_n hx hb dX11_readText_151 rfl (lv_at hl 2 rfl) ?_
                    refine mdG_bad C hP mF_X11_188 dX11_readText_152 ?_
                    show W p l e (gRm 5 113) s m args below meth c _ _ 0 0 Q (F0 m 155 ls [.int (iI y6_10)])
                    refine gi_zne (tgt := 163) hx hb dX11_readText_155 (by decide) (by omega) (fun c_36 => ?_) (fun c_36 => ?_)
                    · exfalso; omega
                    · refine lv_aload_n hx hb dX11_readText_158 rfl (lv_at hl 2 rfl) ?_
                      refine lv_iload_n hx hb dX11_readText_159 rfl (lv_at hl 1 rfl) ?_
                      refine g_cv (As := [.int (iI z_15)]) (rest := []) (n := 1) C hml (q_n_readLaw l D k A ad hD (va_up (va_up (va_up (va_up (va_up (va_up (va_up (va_up (va_up (va_up (va_up (va_up (va_up v 6 y6_10) 7 y7_10) 8 y8_10) 9 y9_10) 10 y10_10) 11 y11_10) 16 y16_10) 20 y20_10) 21 y21_10) 27 y27_10) 17 y17_10) 15 y15_10) 19 y19_10) (va_up (va_up (va_up (va_up (va_up (va_up (va_up (va_up (va_up f 11 c11_10) 12 c12_10) 17 c17_10) 14 c14_10) 16 c16_10) 5 c5_10) 6 c6_10) 7 c7_10) 8 c8_10) (va_up g 0 d0_10) z_15 B qq (by omega) (show ∀ k, (f 0) k % 256 = B k from hB) (show mAt B (v 3) y9_10 y10_10 y8_10 y11_10 (d0_10 0) qq from hM) (show y6_10 = 0 from by omega) (show z_15 = (tK B (v 3) qq) - 260 ∧ 0 ≤ z_15 ∧ z_15 ≤ 3 from by omega) (show rpOk y16_10 c11_10 ∧ y16_10 ≤ 40 from hR.get (by omega))) mM_X11_224 mI_X11_readLaw mE_X11_readLaw mN_X11 mC_X11_readLaw (by decide +kernel) 0 (ci := 11) rfl rfl hP hS (fun _ h => h) ⟨Nat.le_of_ble_eq_true rfl, Nat.le_of_ble_eq_true rfl⟩ ⟨Nat.zero_le _, Nat.zero_le _⟩ hl.1 rfl rfl (Nat.le_of_ble_eq_true rfl) dX11_readText_160 (fun r_37 v_37 f_37 g_37 H locs hq_37 hP _ hS => ?_)
                      obtain ⟨w6_37, w7_37, w8_37, w9_37, w10_37, w11_37, w16_37, w20_37, w21_37, w27_37, w17_37, w15_37, w19_37, a11_37, a12_37, a17_37, a14_37, a16_37, a5_37, a6_37, a7_37, a8_37, b0_37, rfl, rfl, rfl, rfl, p0_37, p1_37, p2_37, p3_37, p4_37, p5_37, p6_37⟩ := hq_37
                      show W p l e (gRm 5 113) s m args below meth c _ _ 0 0 Q (F0 m 163 ls [])
                      have hP : gWd D (mdT k ad) (va_up (va_up (va_up (va_up (va_up (va_up (va_up (va_up (va_up (va_up (va_up (va_up (va_up v 6 w6_37) 7 w7_37) 8 w8_37) 9 w9_37) 10 w10_37) 11 w11_37) 16 w16_37) 20 w20_37) 21 w21_37) 27 w27_37) 17 w17_37) 15 w15_37) 19 w19_37) (va_up (va_up (va_up (va_up (va_up (va_up (va_up (va_up (va_up f 11 a11_37) 12 a12_37) 17 a17_37) 14 a14_37) 16 a16_37) 5 a5_37) 6 a6_37) 7 a7_37) 8 a8_37) (va_up g 0 b0_37) H := ⟨hP.1, (gF_up (V := mdV) (F := mdF) (gF_up (V := mdV) (F := mdF) (gF_up (V := mdV) (F := mdF) (gF_up (V := mdV) (F := mdF) (gF_up (V := mdV) (F := mdF) (gF_up (V := mdV) (F := mdF) (gF_up (V := mdV) (F := mdF) (gF_up (V := mdV) (F := mdF) (gF_up (V := mdV) (F := mdF) (gR_up (V := mdV) (F := mdF) (gR_up (V := mdV) (F := mdF) (gR_up (V := mdV) (F := mdF) (gR_up (V := mdV) (F := mdF) (gR_up (V := mdV) (F := mdF) (gR_up (V := mdV) (F := mdF) (gR_up (V := mdV) (F := mdF) (gR_up (V := mdV) (F := mdF) (gR_up (V := mdV) (F := mdF) (gR_up (V := mdV) (F := mdF) (gR_up (V := mdV) (F := mdF) (gR_up (V := mdV) (F := mdF) (gR_up (V := mdV) (F := mdF) ⟨hok.1, hok.2⟩ 6 (hP.2.1 6)) 7 (hP.2.1 7)) 8 (hP.2.1 8)) 9 (hP.2.1 9)) 10 (hP.2.1 10)) 11 (hP.2.1 11)) 16 (hP.2.1 16)) 20 (hP.2.1 20)) 21 (hP.2.1 21)) 27 (hP.2.1 27)) 17 (hP.2.1 17)) 15 (hP.2.1 15)) 19 (hP.2.1 19)) 11 (hP.2.2 11)) 12 (hP.2.2 12)) 17 (hP.2.2 17)) 14 (hP.2.2 14)) 16 (hP.2.2 16)) 5 (hP.2.2 5)) 6 (hP.2.2 6)) 7 (hP.2.2 7)) 8 (hP.2.2 8))⟩
                      replace p0_37 : oM B (v 3) (law1 B (v 3) qq y15_10 0 0 0) w6_37 w7_37 w9_37 w10_37 w8_37 w11_37 (b0_37 0) := p0_37
                      replace p1_37 : w6_37 = 0 → w15_37 = (if (tK B (v 3) qq) = 260 then y15_10 + 1 else y15_10) := p1_37
                      replace p2_37 : w6_37 = 0 → rpOk w16_37 a11_37 ∧ w16_37 ≤ 40 := p2_37
                      replace p3_37 : w6_37 = 0 → ((tK B (v 3) qq) = 260 → rwC B (v 3) (tX B (v 3) qq) a5_37 a6_37 a7_37 a8_37 y15_10) ∧ (∀ e, e < y15_10 → a5_37 e = c5_10 e ∧ a6_37 e = c6_10 e ∧ a7_37 e = c7_10 e ∧ a8_37 e = c8_10 e) := p3_37
                      replace p4_37 : w6_37 = 0 → ((tK B (v 3) qq) = 261 → repC mp (exF B (v 3) 702 (tX B (v 3) qq) 0 [] []).2.2 a11_37 a12_37 w16_37) ∧ ((tK B (v 3) qq) ≠ 261 → w16_37 = y16_10 ∧ a11_37 = c11_10 ∧ a12_37 = c12_10) := p4_37
                      replace p5_37 : w6_37 = 0 → ((tK B (v 3) qq) = 262 → w17_37 = kyN B (v 3) 4 (tX B (v 3) qq) ∧ kyM B (v 3) (tX B (v 3) qq) a14_37 a16_37 w17_37) ∧ ((tK B (v 3) qq) ≠ 262 → w17_37 = y17_10 ∧ a14_37 = c14_10 ∧ a16_37 = c16_10) := p5_37
                      replace p6_37 : w6_37 = 0 → ((tK B (v 3) qq) = 263 → w19_37 = (if tK B (v 3) (tX B (v 3) qq) = 264 then 1 else 0)) ∧ ((tK B (v 3) qq) ≠ 263 → w19_37 = y19_10) := p6_37
                      have rw6_37 : 0 ≤ w6_37 ∧ w6_37 ≤ 5 := hP.2.1 6
                      have rw7_37 : 0 ≤ w7_37 ∧ w7_37 ≤ 700 := hP.2.1 7
                      have rw8_37 : 0 ≤ w8_37 ∧ w8_37 ≤ 4 := hP.2.1 8
                      have rw9_37 : 0 ≤ w9_37 ∧ w9_37 ≤ 700 := hP.2.1 9
                      have rw10_37 : 0 ≤ w10_37 ∧ w10_37 ≤ 700 := hP.2.1 10
                      have rw11_37 : 0 ≤ w11_37 ∧ w11_37 ≤ 999999 := hP.2.1 11
                      have rw16_37 : 0 ≤ w16_37 ∧ w16_37 ≤ 41 := hP.2.1 16
                      have rw20_37 : 0 ≤ w20_37 ∧ w20_37 ≤ 64 := hP.2.1 20
                      have rw21_37 : 0 ≤ w21_37 ∧ w21_37 ≤ 9 := hP.2.1 21
                      have rw27_37 : 0 ≤ w27_37 ∧ w27_37 ≤ 41 := hP.2.1 27
                      have rw17_37 : 0 ≤ w17_37 ∧ w17_37 ≤ 4 := hP.2.1 17
                      have rw15_37 : 0 ≤ w15_37 ∧ w15_37 ≤ 4 := hP.2.1 15
                      have rw19_37 : 0 ≤ w19_37 ∧ w19_37 ≤ 1 := hP.2.1 19
                      have hL3 := Bx.mk p3_37
                      have hL4 := Bx.mk p4_37
                      have hL5 := Bx.mk p5_37
                      have hL6 := Bx.mk p6_37
                      clear p3_37 p4_37 p5_37 p6_37
                      have hOI := p0_37
                      have hW1 := Bx.mk p1_37
                      clear p1_37
                      have hL := Bx.mk p2_37
                      clear p2_37
                      have hlt : law1 B (v 3) qq y15_10 t1 t2 t3 = law1 B (v 3) qq y15_10 0 0 0 := law1_t (by omega) (by omega) (by omega)
                      rw [← hlt] at hOI
                      have hlq : qq < (v 3) := by have h9 := (not_congr (tK_end (B := B) (n := (v 3)) (q := qq))).mp (by omega); omega
                      have hge : w6_37 = 0 → qq + 1 ≤ (law1 B (v 3) qq y15_10 t1 t2 t3).2 := fun h => law1_ge hlq (by have := hOI.1; omega)
                      have hge2 : qq ≤ (law1 B (v 3) qq y15_10 t1 t2 t3).2 := law1_le hlq
                      have hpo := hOI.2.2.of.2.1
                      have hge := tX_up (B := B) (n := (v 3)) (q := qq) hlq
                      refine lv_goto (tgt := 85) hx hb dX11_readText_163 (by decide) ?_
                      exact ih_85 x_35 ((law1 B (v 3) qq y15_10 t1 t2 t3).2) ((kk - 1)) (1) (t2) (t3) ((if tK B (v 3) qq = 261 then tX B (v 3) qq else e1)) ((if tK B (v 3) qq = 262 then tX B (v 3) qq else e2)) ((if tK B (v 3) qq = 263 then tX B (v 3) qq else e3)) w6_37 w7_37 w8_37 w9_37 w10_37 w11_37 w16_37 w20_37 w21_37 w27_37 w17_37 w15_37 w19_37 a11_37 a12_37 a17_37 a14_37 a16_37 a5_37 a6_37 a7_37 a8_37 b0_37 _ _ _ (by omega) (by omega) (by omega) (by omega) hOI.2.2 (by first | (intro h; exfalso; omega) | exact (fun h => by rw [← hJ3.get (by omega), show kk = (kk - 1) + 1 by omega]; exact (txt_go _ (by omega) (by have := hOI.1; omega) (hW1.get h) (by first | rw [if_pos (by omega)] | rw [if_neg (by omega)]) (by first | rw [if_pos (by omega)] | rw [if_neg (by omega)]) (by first | rw [if_pos (by omega)] | rw [if_neg (by omega)])).symm)) (by first | (intro h; exfalso; omega) | exact (fun h => by rw [← hJ3.get (by omega), show kk = (kk - 1) + 1 by omega, txt_bad _ (by omega) (by have := hOI.1; omega)]; exact ⟨hOI.1, hOI.2.1 (by have := hOI.1; omega)⟩)) (by first | (intro h; exfalso; omega) | exact hL.get) (by omega) (by first | (intro h; exfalso; omega) | exact (fun h => fun j j0 j1 => (by have hl := hL3.get (by omega); have hr := hW1.get (by omega); exact (if e : tK B (v 3) qq = 260 ∧ j = y15_10 then (by have h2 := hl.1 e.1; rw [e.2, ← hC5.get (by omega) _ (Int.le_refl _), show kk = (kk - 1) + 1 by omega, rdP_here _ e.1]; exact h2) else (by have hlt9 : j < y15_10 := (by by_cases h8 : tK B (v 3) qq = 260; (rw [if_pos h8] at hr; omega); (rw [if_neg h8] at hr; omega)); have h9 := hC1.get (by omega) j j0 hlt9; have h7 := hl.2 j hlt9; exact ⟨h7.1.trans h9.1, h7.2.1.trans h9.2.1, h7.2.2.1.trans h9.2.2.1, h7.2.2.2.trans h9.2.2.2⟩))))) (by first | (intro h; exfalso; omega) | exact (fun h => (by have hl := hL4.get (by omega); by_cases e : tK B (v 3) qq = 261; (rw [if_pos e]; have h2 := hl.1 e; unfold exL; rw [if_neg (by have := hge; omega)]; exact repN_of _ _ _ _ h2); (rw [if_neg e, (hl.2 e).1, (hl.2 e).2.1, (hl.2 e).2.2]; exact hC2.get (by omega))))) (by first | (intro h; exfalso; omega) | exact (fun h => (by have hl := hL5.get (by omega); by_cases e : tK B (v 3) qq = 262; (rw [if_pos e]; exact kyOm_told (by have := hge; omega) (hl.1 e)); (rw [if_neg e, (hl.2 e).1, (hl.2 e).2.1, (hl.2 e).2.2]; exact hC3.get (by omega))))) (by first | (intro h; exfalso; omega) | exact (fun h => (by have hl := hL6.get (by omega); by_cases e : tK B (v 3) qq = 263; (rw [if_pos e]; unfold tiV; rw [if_neg (by have := hge; omega)]; exact hl.1 e); (rw [if_neg e, hl.2 e]; exact hC4.get (by omega))))) (by first | (intro h; exfalso; omega) | exact (fun h => fun j hj => (by have hr := hW1.get (by omega); rw [← hC5.get (by omega) j (by by_cases h8 : tK B (v 3) qq = 260; (rw [if_pos h8] at hr; omega); (rw [if_neg h8] at hr; omega)), show kk = (kk - 1) + 1 by omega]; exact (rdP_go _ (by omega) (nxL_z (by have := hOI.1; omega)) (hW1.get (by omega)) hj).symm))) (by first | (intro h; exfalso; omega) | exact (fun h => (by rw [← hC6.get (by omega), show kk = (kk - 1) + 1 by omega]; exact (txP_go _ (by omega) (nxL_z (by have := hOI.1; omega)) rfl).symm))) (by first | (intro h; exfalso; omega) | exact (fun h => (by rw [← hC7.get (by omega), show kk = (kk - 1) + 1 by omega]; exact (txP_go _ (by omega) (nxL_z (by have := hOI.1; omega)) rfl).symm))) (by first | (intro h; exfalso; omega) | exact (fun h => (by rw [← hC8.get (by omega), show kk = (kk - 1) + 1 by omega]; exact (txP_go _ (by omega) (nxL_z (by have := hOI.1; omega)) rfl).symm))) hP hS (lv_sub hl [2, 0] rfl)
                · refine lv_aload_n hx hb dX11_readText_128 rfl (lv_at hl 1 rfl) ?_
                  refine lv_iconst (v := iI 5) hx hb dX11_readText_129 rfl ?_
                  refine lv_aload_n hx hb dX11_readText_130 rfl (lv_at hl 1 rfl) ?_
                  refine mdG_at C hP mF_X11_158 dX11_readText_131 ?_
                  show W p l e (gRm 5 113) s m args below meth c _ _ 0 0 Q (F0 m 134 ls [.int (iI y9_10), .int (iI 5), .ref (ad 0)])
                  have r_38 : 0 ≤ y9_10 ∧ y9_10 ≤ 700 := hP.2.1 9
                  refine g_cv (As := [.int (iI 5), .int (iI y9_10)]) (rest := []) (n := 2) C hml (n_fail l D k A ad hD (va_up (va_up (va_up (va_up (va_up (va_up (va_up (va_up (va_up (va_up (va_up (va_up (va_up v 6 y6_10) 7 y7_10) 8 y8_10) 9 y9_10) 10 y10_10) 11 y11_10) 16 y16_10) 20 y20_10) 21 y21_10) 27 y27_10) 17 y17_10) 15 y15_10) 19 y19_10) (va_up (va_up (va_up (va_up (va_up (va_up (va_up (va_up (va_up f 11 c11_10) 12 c12_10) 17 c17_10) 14 c14_10) 16 c16_10) 5 c5_10) 6 c6_10) 7 c7_10) 8 c8_10) (va_up g 0 d0_10) 5 y9_10 (by decide) (by omega) (show 1 ≤ (5 : Int) ∧ (5 : Int) ≤ 5 from by omega) (show 0 ≤ y9_10 ∧ y9_10 ≤ 700 from by omega)) mM_X11_194 mI_X11_fail mE_X11_fail mN_X11 mC_X11_fail (by decide +kernel) 0 (ci := 11) rfl rfl hP hS (fun _ h => h) ⟨Nat.le_of_ble_eq_true rfl, Nat.le_of_ble_eq_true rfl⟩ ⟨Nat.zero_le _, Nat.zero_le _⟩ hl.1 rfl rfl (Nat.le_of_ble_eq_true rfl) dX11_readText_134 (fun r_39 v_39 f_39 g_39 H locs hq_39 hP _ hS => ?_)
                  obtain ⟨w6_39, w7_39, rfl, rfl, rfl, rfl, p0_39, p1_39⟩ := hq_39
                  show W p l e (gRm 5 113) s m args below meth c _ _ 0 0 Q (F0 m 137 ls [])
                  have hP : gWd D (mdT k ad) (va_up (va_up (va_up (va_up (va_up (va_up (va_up (va_up (va_up (va_up (va_up (va_up (va_up v 6 w6_39) 7 w7_39) 8 y8_10) 9 y9_10) 10 y10_10) 11 y11_10) 16 y16_10) 20 y20_10) 21 y21_10) 27 y27_10) 17 y17_10) 15 y15_10) 19 y19_10) (va_up (va_up (va_up (va_up (va_up (va_up (va_up (va_up (va_up f 11 c11_10) 12 c12_10) 17 c17_10) 14 c14_10) 16 c16_10) 5 c5_10) 6 c6_10) 7 c7_10) 8 c8_10) (va_up g 0 d0_10) H := ⟨hP.1, (gF_up (V := mdV) (F := mdF) (gF_up (V := mdV) (F := mdF) (gF_up (V := mdV) (F := mdF) (gF_up (V := mdV) (F := mdF) (gF_up (V := mdV) (F := mdF) (gF_up (V := mdV) (F := mdF) (gF_up (V := mdV) (F := mdF) (gF_up (V := mdV) (F := mdF) (gF_up (V := mdV) (F := mdF) (gR_up (V := mdV) (F := mdF) (gR_up (V := mdV) (F := mdF) (gR_up (V := mdV) (F := mdF) (gR_up (V := mdV) (F := mdF) (gR_up (V := mdV) (F := mdF) (gR_up (V := mdV) (F := mdF) (gR_up (V := mdV) (F := mdF) (gR_up (V := mdV) (F := mdF) (gR_up (V := mdV) (F := mdF) (gR_up (V := mdV) (F := mdF) (gR_up (V := mdV) (F := mdF) (gR_up (V := mdV) (F := mdF) (gR_up (V := mdV) (F := mdF) ⟨hok.1, hok.2⟩ 6 (hP.2.1 6)) 7 (hP.2.1 7)) 8 (hP.2.1 8)) 9 (hP.2.1 9)) 10 (hP.2.1 10)) 11 (hP.2.1 11)) 16 (hP.2.1 16)) 20 (hP.2.1 20)) 21 (hP.2.1 21)) 27 (hP.2.1 27)) 17 (hP.2.1 17)) 15 (hP.2.1 15)) 19 (hP.2.1 19)) 11 (hP.2.2 11)) 12 (hP.2.2 12)) 17 (hP.2.2 17)) 14 (hP.2.2 14)) 16 (hP.2.2 16)) 5 (hP.2.2 5)) 6 (hP.2.2 6)) 7 (hP.2.2 7)) 8 (hP.2.2 8))⟩
                  replace p0_39 : y6_10 = 0 → w6_39 = (5 : Int) ∧ w7_39 = y9_10 := p0_39
                  replace p1_39 : 0 < y6_10 → w6_39 = y6_10 ∧ w7_39 = y7_10 := p1_39
                  have rw6_39 : 0 ≤ w6_39 ∧ w6_39 ≤ 5 := hP.2.1 6
                  have rw7_39 : 0 ≤ w7_39 ∧ w7_39 ≤ 700 := hP.2.1 7
                  first | replace p0_39 := p0_39 (by omega) | clear p0_39
                  first | replace p1_39 := p1_39 (by omega) | clear p1_39
                  refine lv_iload_n hx hb dX11_readText_137 rfl (lv_at hl 2 rfl) ?_
                  refine lv_iload_n hx hb dX11_readText_138 rfl (lv_at hl 0 rfl) ?_
                  refine gi_zle (tgt := 148) hx hb dX11_readText_139 (by decide) (by omega) (fun c_40 => ?_) (fun c_40 => ?_)
                  · exfalso; omega
                  · refine lv_iconst (v := iI 1) hx hb dX11_readText_142 rfl ?_
                    refine lv_iload_n hx hb dX11_readText_143 rfl (lv_at hl 0 rfl) ?_
                    obtain ⟨x_41, ex_41, hx_41⟩ := gShl1 z_15 (by omega)
                    refine gi_shl (z := x_41) hx hb dX11_readText_144 ex_41 ?_
                    refine lv_goto (tgt := 149) hx hb dX11_readText_145 (by decide) ?_
                    obtain ⟨x_42, ex_42, hx_42⟩ : ∃ z : Int, iI x1 ||| iI x_41 = iI z ∧ inR z := ⟨(iI x1 ||| iI x_41).toInt, (iI_of _).symm, iI_rng _⟩
                    refine gi_or (z := x_42) hx hb dX11_readText_149 ex_42 ?_
                    refine lv_istore_n (lv' := [(1, .int (iI x_42)), (2, .int (iI z_15)), (0, .ref (ad 0))]) hx hb dX11_readText_150 rfl hl (by decide) rfl (fun ls hl => ?_)
                    have hy1 := seenO ht.1 ht.2.1 ht.2.2 hsn ex_41 ex_42 (by omega)
                    clear ex_42
                    refine lv_aload_n hx hb dX11_readText_151 rfl (lv_at hl 2 rfl) ?_
                    refine mdG_bad C hP mF_X11_188 dX11_readText_152 ?_
                    show W p l e (gRm 5 113) s m args below meth c _ _ 0 0 Q (F0 m 155 ls [.int (iI w6_39)])
                    have r_43 : 0 ≤ w6_39 ∧ w6_39 ≤ 5 := hP.2.1 6
                    refine gi_zne (tgt := 163) hx hb dX11_readText_155 (by decide) (by omega) (fun c_44 => ?_) (fun c_44 => ?_)
                    · refine lv_goto (tgt := 85) hx hb dX11_readText_163 (by decide) ?_
                      exact ih_85 x_42 (qq) (kk) (1) (t2) (t3) (e1) (e2) (e3) w6_39 w7_39 y8_10 y9_10 y10_10 y11_10 y16_10 y20_10 y21_10 y27_10 y17_10 y15_10 y19_10 c11_10 c12_10 c17_10 c14_10 c16_10 c5_10 c6_10 c7_10 c8_10 d0_10 _ _ _ (by omega) (by omega) (by omega) (by omega) hM (by first | (intro h; exfalso; omega) | exact hJ3.get) (by first | (intro h; exfalso; omega) | exact (fun h => by rw [← hJ3.get (by omega), show kk = (kk - 1) + 1 by omega, txt_bad _ (by omega) (by rw [law1_ag (by omega)]; show _ ≠ (0 : Int); omega), law1_ag (by omega)]; exact ⟨by omega, by show _ = qq; omega⟩)) (by first | (intro h; exfalso; omega) | exact hR.get) (by omega) (by first | (intro h; exfalso; omega) | exact (fun h => fun j j0 j1 => (by have hl := hL3.get (by omega); have hr := hW1.get (by omega); exact (if e : tK B (v 3) qq = 260 ∧ j = y15_10 then (by have h2 := hl.1 e.1; rw [e.2, ← hC5.get (by omega) _ (Int.le_refl _), show kk = (kk - 1) + 1 by omega, rdP_here _ e.1]; exact h2) else (by have hlt9 : j < y15_10 := (by by_cases h8 : tK B (v 3) qq = 260; (rw [if_pos h8] at hr; omega); (rw [if_neg h8] at hr; omega)); have h9 := hC1.get (by omega) j j0 hlt9; have h7 := hl.2 j hlt9; exact ⟨h7.1.trans h9.1, h7.2.1.trans h9.2.1, h7.2.2.1.trans h9.2.2.1, h7.2.2.2.trans h9.2.2.2⟩))))) (by first | (intro h; exfalso; omega) | exact (fun h => (by have hl := hL4.get (by omega); by_cases e : tK B (v 3) qq = 261; (rw [if_pos e]; have h2 := hl.1 e; unfold exL; rw [if_neg (by have := hge; omega)]; exact repN_of _ _ _ _ h2); (rw [if_neg e, (hl.2 e).1, (hl.2 e).2.1, (hl.2 e).2.2]; exact hC2.get (by omega))))) (by first | (intro h; exfalso; omega) | exact (fun h => (by have hl := hL5.get (by omega); by_cases e : tK B (v 3) qq = 262; (rw [if_pos e]; exact kyOm_told (by have := hge; omega) (hl.1 e)); (rw [if_neg e, (hl.2 e).1, (hl.2 e).2.1, (hl.2 e).2.2]; exact hC3.get (by omega))))) (by first | (intro h; exfalso; omega) | exact (fun h => (by have hl := hL6.get (by omega); by_cases e : tK B (v 3) qq = 263; (rw [if_pos e]; unfold tiV; rw [if_neg (by have := hge; omega)]; exact hl.1 e); (rw [if_neg e, hl.2 e]; exact hC4.get (by omega))))) (by first | (intro h; exfalso; omega) | exact (fun h => fun j hj => (by have hr := hW1.get (by omega); rw [← hC5.get (by omega) j (by by_cases h8 : tK B (v 3) qq = 260; (rw [if_pos h8] at hr; omega); (rw [if_neg h8] at hr; omega)), show kk = (kk - 1) + 1 by omega]; exact (rdP_go _ (by omega) (nxL_z (by have := hOI.1; omega)) (hW1.get (by omega)) hj).symm))) (by first | (intro h; exfalso; omega) | exact (fun h => (by rw [← hC6.get (by omega), show kk = (kk - 1) + 1 by omega]; exact (txP_go _ (by omega) (nxL_z (by have := hOI.1; omega)) rfl).symm))) (by first | (intro h; exfalso; omega) | exact (fun h => (by rw [← hC7.get (by omega), show kk = (kk - 1) + 1 by omega]; exact (txP_go _ (by omega) (nxL_z (by have := hOI.1; omega)) rfl).symm))) (by first | (intro h; exfalso; omega) | exact (fun h => (by rw [← hC8.get (by omega), show kk = (kk - 1) + 1 by omega]; exact (txP_go _ (by omega) (nxL_z (by have := hOI.1; omega)) rfl).symm))) hP hS (lv_sub hl [2, 0] rfl)
                    · exfalso; omega
            · exfalso; omega
          · have hn256 : tK B (v 3) qq ≠ 256 := fun q => c_14 (hso.mpr q)
            have hk := p3_15.mp hz
            clear p1_15 p2_15 p3_15 p4_15 hso
            refine lv_iload_n hx hb dX11_readText_104 rfl (lv_at hl 0 rfl) ?_
            refine gi_zge (tgt := 115) hx hb dX11_readText_105 (by decide) (by omega) (fun c_45 => ?_) (fun c_45 => ?_)
            · refine lv_iload_n hx hb dX11_readText_115 rfl (lv_at hl 0 rfl) ?_
              refine gi_zle (tgt := 137) hx hb dX11_readText_116 (by decide) (by omega) (fun c_46 => ?_) (fun c_46 => ?_)
              · exfalso; omega
              · refine lv_iload_n hx hb dX11_readText_119 rfl (lv_at hl 2 rfl) ?_
                refine lv_iload_n hx hb dX11_readText_120 rfl (lv_at hl 0 rfl) ?_
                obtain ⟨x_47, ex_47, hx_47⟩ : ∃ z : Int, iI x1 >>> (iI z_15 &&& 31) = iI z ∧ inR z := ⟨(iI x1 >>> (iI z_15 &&& 31)).toInt, (iI_of _).symm, iI_rng _⟩
                refine gi_shr (z := x_47) hx hb dX11_readText_121 ex_47 ?_
                refine lv_iconst (v := iI 1) hx hb dX11_readText_122 rfl ?_
                obtain ⟨x_48, ex_48, hx_48⟩ := gAnd x_47 1 1 (by decide) (by decide)
                refine gi_and (z := x_48) hx hb dX11_readText_123 ex_48 ?_
                have hbit := seenB ht.1 ht.2.1 ht.2.2 hsn ex_47 ex_48 (by omega)
                have hb2 : x_48 = t2 := by omega
                refine lv_iconst (v := iI 1) hx hb dX11_readText_124 rfl ?_
                refine gi_cne (tgt := 137) hx hb dX11_readText_125 (by decide) (by omega) (by decide) (fun c_49 => ?_) (fun c_49 => ?_)
                · refine lv_iload_n hx hb dX11_readText_137 rfl (lv_at hl 2 rfl) ?_
                  refine lv_iload_n hx hb dX11_readText_138 rfl (lv_at hl 0 rfl) ?_
                  refine gi_zle (tgt := 148) hx hb dX11_readText_139 (by decide) (by omega) (fun c_50 => ?_) (fun c_50 => ?_)
                  · exfalso; omega
                  · refine lv_iconst (v := iI 1) hx hb dX11_readText_142 rfl ?_
                    refine lv_iload_n hx hb dX11_readText_143 rfl (lv_at hl 0 rfl) ?_
                    obtain ⟨x_51, ex_51, hx_51⟩ := gShl1 z_15 (by omega)
                    refine gi_shl (z := x_51) hx hb dX11_readText_144 ex_51 ?_
                    refine lv_goto (tgt := 149) hx hb dX11_readText_145 (by decide) ?_
                    obtain ⟨x_52, ex_52, hx_52⟩ : ∃ z : Int, iI x1 ||| iI x_51 = iI z ∧ inR z := ⟨(iI x1 ||| iI x_51).toInt, (iI_of _).symm, iI_rng _⟩
                    refine gi_or (z := x_52) hx hb dX11_readText_149 ex_52 ?_
                    refine lv_istore_n (lv' := [(1, .int (iI x_52)), (2, .int (iI z_15)), (0, .ref (ad 0))]) hx hb dX11_readText_150 rfl hl (by decide) rfl (fun ls hl => ?_)
                    have hy1 := seenO ht.1 ht.2.1 ht.2.2 hsn ex_51 ex_52 (by omega)
                    clear ex_52
                    refine lv_aload_n hx hb dX11_readText_151 rfl (lv_at hl 2 rfl) ?_
                    refine mdG_bad C hP mF_X11_188 dX11_readText_152 ?_
                    show W p l e (gRm 5 113) s m args below meth c _ _ 0 0 Q (F0 m 155 ls [.int (iI y6_10)])
                    refine gi_zne (tgt := 163) hx hb dX11_readText_155 (by decide) (by omega) (fun c_53 => ?_) (fun c_53 => ?_)
                    · exfalso; omega
                    · refine lv_aload_n hx hb dX11_readText_158 rfl (lv_at hl 2 rfl) ?_
                      refine lv_iload_n hx hb dX11_readText_159 rfl (lv_at hl 1 rfl) ?_
                      refine g_cv (As := [.int (iI z_15)]) (rest := []) (n := 1) C hml (q_n_readLaw l D k A ad hD (va_up (va_up (va_up (va_up (va_up (va_up (va_up (va_up (va_up (va_up (va_up (va_up (va_up v 6 y6_10) 7 y7_10) 8 y8_10) 9 y9_10) 10 y10_10) 11 y11_10) 16 y16_10) 20 y20_10) 21 y21_10) 27 y27_10) 17 y17_10) 15 y15_10) 19 y19_10) (va_up (va_up (va_up (va_up (va_up (va_up (va_up (va_up (va_up f 11 c11_10) 12 c12_10) 17 c17_10) 14 c14_10) 16 c16_10) 5 c5_10) 6 c6_10) 7 c7_10) 8 c8_10) (va_up g 0 d0_10) z_15 B qq (by omega) (show ∀ k, (f 0) k % 256 = B k from hB) (show mAt B (v 3) y9_10 y10_10 y8_10 y11_10 (d0_10 0) qq from hM) (show y6_10 = 0 from by omega) (show z_15 = (tK B (v 3) qq) - 260 ∧ 0 ≤ z_15 ∧ z_15 ≤ 3 from by omega) (show rpOk y16_10 c11_10 ∧ y16_10 ≤ 40 from hR.get (by omega))) mM_X11_224 mI_X11_readLaw mE_X11_readLaw mN_X11 mC_X11_readLaw (by decide +kernel) 0 (ci := 11) rfl rfl hP hS (fun _ h => h) ⟨Nat.le_of_ble_eq_true rfl, Nat.le_of_ble_eq_true rfl⟩ ⟨Nat.zero_le _, Nat.zero_le _⟩ hl.1 rfl rfl (Nat.le_of_ble_eq_true rfl) dX11_readText_160 (fun r_54 v_54 f_54 g_54 H locs hq_54 hP _ hS => ?_)
                      obtain ⟨w6_54, w7_54, w8_54, w9_54, w10_54, w11_54, w16_54, w20_54, w21_54, w27_54, w17_54, w15_54, w19_54, a11_54, a12_54, a17_54, a14_54, a16_54, a5_54, a6_54, a7_54, a8_54, b0_54, rfl, rfl, rfl, rfl, p0_54, p1_54, p2_54, p3_54, p4_54, p5_54, p6_54⟩ := hq_54
                      show W p l e (gRm 5 113) s m args below meth c _ _ 0 0 Q (F0 m 163 ls [])
                      have hP : gWd D (mdT k ad) (va_up (va_up (va_up (va_up (va_up (va_up (va_up (va_up (va_up (va_up (va_up (va_up (va_up v 6 w6_54) 7 w7_54) 8 w8_54) 9 w9_54) 10 w10_54) 11 w11_54) 16 w16_54) 20 w20_54) 21 w21_54) 27 w27_54) 17 w17_54) 15 w15_54) 19 w19_54) (va_up (va_up (va_up (va_up (va_up (va_up (va_up (va_up (va_up f 11 a11_54) 12 a12_54) 17 a17_54) 14 a14_54) 16 a16_54) 5 a5_54) 6 a6_54) 7 a7_54) 8 a8_54) (va_up g 0 b0_54) H := ⟨hP.1, (gF_up (V := mdV) (F := mdF) (gF_up (V := mdV) (F := mdF) (gF_up (V := mdV) (F := mdF) (gF_up (V := mdV) (F := mdF) (gF_up (V := mdV) (F := mdF) (gF_up (V := mdV) (F := mdF) (gF_up (V := mdV) (F := mdF) (gF_up (V := mdV) (F := mdF) (gF_up (V := mdV) (F := mdF) (gR_up (V := mdV) (F := mdF) (gR_up (V := mdV) (F := mdF) (gR_up (V := mdV) (F := mdF) (gR_up (V := mdV) (F := mdF) (gR_up (V := mdV) (F := mdF) (gR_up (V := mdV) (F := mdF) (gR_up (V := mdV) (F := mdF) (gR_up (V := mdV) (F := mdF) (gR_up (V := mdV) (F := mdF) (gR_up (V := mdV) (F := mdF) (gR_up (V := mdV) (F := mdF) (gR_up (V := mdV) (F := mdF) (gR_up (V := mdV) (F := mdF) ⟨hok.1, hok.2⟩ 6 (hP.2.1 6)) 7 (hP.2.1 7)) 8 (hP.2.1 8)) 9 (hP.2.1 9)) 10 (hP.2.1 10)) 11 (hP.2.1 11)) 16 (hP.2.1 16)) 20 (hP.2.1 20)) 21 (hP.2.1 21)) 27 (hP.2.1 27)) 17 (hP.2.1 17)) 15 (hP.2.1 15)) 19 (hP.2.1 19)) 11 (hP.2.2 11)) 12 (hP.2.2 12)) 17 (hP.2.2 17)) 14 (hP.2.2 14)) 16 (hP.2.2 16)) 5 (hP.2.2 5)) 6 (hP.2.2 6)) 7 (hP.2.2 7)) 8 (hP.2.2 8))⟩
                      replace p0_54 : oM B (v 3) (law1 B (v 3) qq y15_10 0 0 0) w6_54 w7_54 w9_54 w10_54 w8_54 w11_54 (b0_54 0) := p0_54
                      replace p1_54 : w6_54 = 0 → w15_54 = (if (tK B (v 3) qq) = 260 then y15_10 + 1 else y15_10) := p1_54
                      replace p2_54 : w6_54 = 0 → rpOk w16_54 a11_54 ∧ w16_54 ≤ 40 := p2_54
                      replace p3_54 : w6_54 = 0 → ((tK B (v 3) qq) = 260 → rwC B (v 3) (tX B (v 3) qq) a5_54 a6_54 a7_54 a8_54 y15_10) ∧ (∀ e, e < y15_10 → a5_54 e = c5_10 e ∧ a6_54 e = c6_10 e ∧ a7_54 e = c7_10 e ∧ a8_54 e = c8_10 e) := p3_54
                      replace p4_54 : w6_54 = 0 → ((tK B (v 3) qq) = 261 → repC mp (exF B (v 3) 702 (tX B (v 3) qq) 0 [] []).2.2 a11_54 a12_54 w16_54) ∧ ((tK B (v 3) qq) ≠ 261 → w16_54 = y16_10 ∧ a11_54 = c11_10 ∧ a12_54 = c12_10) := p4_54
                      replace p5_54 : w6_54 = 0 → ((tK B (v 3) qq) = 262 → w17_54 = kyN B (v 3) 4 (tX B (v 3) qq) ∧ kyM B (v 3) (tX B (v 3) qq) a14_54 a16_54 w17_54) ∧ ((tK B (v 3) qq) ≠ 262 → w17_54 = y17_10 ∧ a14_54 = c14_10 ∧ a16_54 = c16_10) := p5_54
                      replace p6_54 : w6_54 = 0 → ((tK B (v 3) qq) = 263 → w19_54 = (if tK B (v 3) (tX B (v 3) qq) = 264 then 1 else 0)) ∧ ((tK B (v 3) qq) ≠ 263 → w19_54 = y19_10) := p6_54
                      have rw6_54 : 0 ≤ w6_54 ∧ w6_54 ≤ 5 := hP.2.1 6
                      have rw7_54 : 0 ≤ w7_54 ∧ w7_54 ≤ 700 := hP.2.1 7
                      have rw8_54 : 0 ≤ w8_54 ∧ w8_54 ≤ 4 := hP.2.1 8
                      have rw9_54 : 0 ≤ w9_54 ∧ w9_54 ≤ 700 := hP.2.1 9
                      have rw10_54 : 0 ≤ w10_54 ∧ w10_54 ≤ 700 := hP.2.1 10
                      have rw11_54 : 0 ≤ w11_54 ∧ w11_54 ≤ 999999 := hP.2.1 11
                      have rw16_54 : 0 ≤ w16_54 ∧ w16_54 ≤ 41 := hP.2.1 16
                      have rw20_54 : 0 ≤ w20_54 ∧ w20_54 ≤ 64 := hP.2.1 20
                      have rw21_54 : 0 ≤ w21_54 ∧ w21_54 ≤ 9 := hP.2.1 21
                      have rw27_54 : 0 ≤ w27_54 ∧ w27_54 ≤ 41 := hP.2.1 27
                      have rw17_54 : 0 ≤ w17_54 ∧ w17_54 ≤ 4 := hP.2.1 17
                      have rw15_54 : 0 ≤ w15_54 ∧ w15_54 ≤ 4 := hP.2.1 15
                      have rw19_54 : 0 ≤ w19_54 ∧ w19_54 ≤ 1 := hP.2.1 19
                      have hL3 := Bx.mk p3_54
                      have hL4 := Bx.mk p4_54
                      have hL5 := Bx.mk p5_54
                      have hL6 := Bx.mk p6_54
                      clear p3_54 p4_54 p5_54 p6_54
                      have hOI := p0_54
                      have hW1 := Bx.mk p1_54
                      clear p1_54
                      have hL := Bx.mk p2_54
                      clear p2_54
                      have hlt : law1 B (v 3) qq y15_10 t1 t2 t3 = law1 B (v 3) qq y15_10 0 0 0 := law1_t (by omega) (by omega) (by omega)
                      rw [← hlt] at hOI
                      have hlq : qq < (v 3) := by have h9 := (not_congr (tK_end (B := B) (n := (v 3)) (q := qq))).mp (by omega); omega
                      have hge : w6_54 = 0 → qq + 1 ≤ (law1 B (v 3) qq y15_10 t1 t2 t3).2 := fun h => law1_ge hlq (by have := hOI.1; omega)
                      have hge2 : qq ≤ (law1 B (v 3) qq y15_10 t1 t2 t3).2 := law1_le hlq
                      have hpo := hOI.2.2.of.2.1
                      have hge := tX_up (B := B) (n := (v 3)) (q := qq) hlq
                      refine lv_goto (tgt := 85) hx hb dX11_readText_163 (by decide) ?_
                      exact ih_85 x_52 ((law1 B (v 3) qq y15_10 t1 t2 t3).2) ((kk - 1)) (t1) (1) (t3) ((if tK B (v 3) qq = 261 then tX B (v 3) qq else e1)) ((if tK B (v 3) qq = 262 then tX B (v 3) qq else e2)) ((if tK B (v 3) qq = 263 then tX B (v 3) qq else e3)) w6_54 w7_54 w8_54 w9_54 w10_54 w11_54 w16_54 w20_54 w21_54 w27_54 w17_54 w15_54 w19_54 a11_54 a12_54 a17_54 a14_54 a16_54 a5_54 a6_54 a7_54 a8_54 b0_54 _ _ _ (by omega) (by omega) (by omega) (by omega) hOI.2.2 (by first | (intro h; exfalso; omega) | exact (fun h => by rw [← hJ3.get (by omega), show kk = (kk - 1) + 1 by omega]; exact (txt_go _ (by omega) (by have := hOI.1; omega) (hW1.get h) (by first | rw [if_pos (by omega)] | rw [if_neg (by omega)]) (by first | rw [if_pos (by omega)] | rw [if_neg (by omega)]) (by first | rw [if_pos (by omega)] | rw [if_neg (by omega)])).symm)) (by first | (intro h; exfalso; omega) | exact (fun h => by rw [← hJ3.get (by omega), show kk = (kk - 1) + 1 by omega, txt_bad _ (by omega) (by have := hOI.1; omega)]; exact ⟨hOI.1, hOI.2.1 (by have := hOI.1; omega)⟩)) (by first | (intro h; exfalso; omega) | exact hL.get) (by omega) (by first | (intro h; exfalso; omega) | exact (fun h => fun j j0 j1 => (by have hl := hL3.get (by omega); have hr := hW1.get (by omega); exact (if e : tK B (v 3) qq = 260 ∧ j = y15_10 then (by have h2 := hl.1 e.1; rw [e.2, ← hC5.get (by omega) _ (Int.le_refl _), show kk = (kk - 1) + 1 by omega, rdP_here _ e.1]; exact h2) else (by have hlt9 : j < y15_10 := (by by_cases h8 : tK B (v 3) qq = 260; (rw [if_pos h8] at hr; omega); (rw [if_neg h8] at hr; omega)); have h9 := hC1.get (by omega) j j0 hlt9; have h7 := hl.2 j hlt9; exact ⟨h7.1.trans h9.1, h7.2.1.trans h9.2.1, h7.2.2.1.trans h9.2.2.1, h7.2.2.2.trans h9.2.2.2⟩))))) (by first | (intro h; exfalso; omega) | exact (fun h => (by have hl := hL4.get (by omega); by_cases e : tK B (v 3) qq = 261; (rw [if_pos e]; have h2 := hl.1 e; unfold exL; rw [if_neg (by have := hge; omega)]; exact repN_of _ _ _ _ h2); (rw [if_neg e, (hl.2 e).1, (hl.2 e).2.1, (hl.2 e).2.2]; exact hC2.get (by omega))))) (by first | (intro h; exfalso; omega) | exact (fun h => (by have hl := hL5.get (by omega); by_cases e : tK B (v 3) qq = 262; (rw [if_pos e]; exact kyOm_told (by have := hge; omega) (hl.1 e)); (rw [if_neg e, (hl.2 e).1, (hl.2 e).2.1, (hl.2 e).2.2]; exact hC3.get (by omega))))) (by first | (intro h; exfalso; omega) | exact (fun h => (by have hl := hL6.get (by omega); by_cases e : tK B (v 3) qq = 263; (rw [if_pos e]; unfold tiV; rw [if_neg (by have := hge; omega)]; exact hl.1 e); (rw [if_neg e, hl.2 e]; exact hC4.get (by omega))))) (by first | (intro h; exfalso; omega) | exact (fun h => fun j hj => (by have hr := hW1.get (by omega); rw [← hC5.get (by omega) j (by by_cases h8 : tK B (v 3) qq = 260; (rw [if_pos h8] at hr; omega); (rw [if_neg h8] at hr; omega)), show kk = (kk - 1) + 1 by omega]; exact (rdP_go _ (by omega) (nxL_z (by have := hOI.1; omega)) (hW1.get (by omega)) hj).symm))) (by first | (intro h; exfalso; omega) | exact (fun h => (by rw [← hC6.get (by omega), show kk = (kk - 1) + 1 by omega]; exact (txP_go _ (by omega) (nxL_z (by have := hOI.1; omega)) rfl).symm))) (by first | (intro h; exfalso; omega) | exact (fun h => (by rw [← hC7.get (by omega), show kk = (kk - 1) + 1 by omega]; exact (txP_go _ (by omega) (nxL_z (by have := hOI.1; omega)) rfl).symm))) (by first | (intro h; exfalso; omega) | exact (fun h => (by rw [← hC8.get (by omega), show kk = (kk - 1) + 1 by omega]; exact (txP_go _ (by omega) (nxL_z (by have := hOI.1; omega)) rfl).symm))) hP hS (lv_sub hl [2, 0] rfl)
                · refine lv_aload_n hx hb dX11_readText_128 rfl (lv_at hl 1 rfl) ?_
                  refine lv_iconst (v := iI 5) hx hb dX11_readText_129 rfl ?_
                  refine lv_aload_n hx hb dX11_readText_130 rfl (lv_at hl 1 rfl) ?_
                  refine mdG_at C hP mF_X11_158 dX11_readText_131 ?_
                  show W p l e (gRm 5 113) s m args below meth c _ _ 0 0 Q (F0 m 134 ls [.int (iI y9_10), .int (iI 5), .ref (ad 0)])
                  have r_55 : 0 ≤ y9_10 ∧ y9_10 ≤ 700 := hP.2.1 9
                  refine g_cv (As := [.int (iI 5), .int (iI y9_10)]) (rest := []) (n := 2) C hml (n_fail l D k A ad hD (va_up (va_up (va_up (va_up (va_up (va_up (va_up (va_up (va_up (va_up (va_up (va_up (va_up v 6 y6_10) 7 y7_10) 8 y8_10) 9 y9_10) 10 y10_10) 11 y11_10) 16 y16_10) 20 y20_10) 21 y21_10) 27 y27_10) 17 y17_10) 15 y15_10) 19 y19_10) (va_up (va_up (va_up (va_up (va_up (va_up (va_up (va_up (va_up f 11 c11_10) 12 c12_10) 17 c17_10) 14 c14_10) 16 c16_10) 5 c5_10) 6 c6_10) 7 c7_10) 8 c8_10) (va_up g 0 d0_10) 5 y9_10 (by decide) (by omega) (show 1 ≤ (5 : Int) ∧ (5 : Int) ≤ 5 from by omega) (show 0 ≤ y9_10 ∧ y9_10 ≤ 700 from by omega)) mM_X11_194 mI_X11_fail mE_X11_fail mN_X11 mC_X11_fail (by decide +kernel) 0 (ci := 11) rfl rfl hP hS (fun _ h => h) ⟨Nat.le_of_ble_eq_true rfl, Nat.le_of_ble_eq_true rfl⟩ ⟨Nat.zero_le _, Nat.zero_le _⟩ hl.1 rfl rfl (Nat.le_of_ble_eq_true rfl) dX11_readText_134 (fun r_56 v_56 f_56 g_56 H locs hq_56 hP _ hS => ?_)
                  obtain ⟨w6_56, w7_56, rfl, rfl, rfl, rfl, p0_56, p1_56⟩ := hq_56
                  show W p l e (gRm 5 113) s m args below meth c _ _ 0 0 Q (F0 m 137 ls [])
                  have hP : gWd D (mdT k ad) (va_up (va_up (va_up (va_up (va_up (va_up (va_up (va_up (va_up (va_up (va_up (va_up (va_up v 6 w6_56) 7 w7_56) 8 y8_10) 9 y9_10) 10 y10_10) 11 y11_10) 16 y16_10) 20 y20_10) 21 y21_10) 27 y27_10) 17 y17_10) 15 y15_10) 19 y19_10) (va_up (va_up (va_up (va_up (va_up (va_up (va_up (va_up (va_up f 11 c11_10) 12 c12_10) 17 c17_10) 14 c14_10) 16 c16_10) 5 c5_10) 6 c6_10) 7 c7_10) 8 c8_10) (va_up g 0 d0_10) H := ⟨hP.1, (gF_up (V := mdV) (F := mdF) (gF_up (V := mdV) (F := mdF) (gF_up (V := mdV) (F := mdF) (gF_up (V := mdV) (F := mdF) (gF_up (V := mdV) (F := mdF) (gF_up (V := mdV) (F := mdF) (gF_up (V := mdV) (F := mdF) (gF_up (V := mdV) (F := mdF) (gF_up (V := mdV) (F := mdF) (gR_up (V := mdV) (F := mdF) (gR_up (V := mdV) (F := mdF) (gR_up (V := mdV) (F := mdF) (gR_up (V := mdV) (F := mdF) (gR_up (V := mdV) (F := mdF) (gR_up (V := mdV) (F := mdF) (gR_up (V := mdV) (F := mdF) (gR_up (V := mdV) (F := mdF) (gR_up (V := mdV) (F := mdF) (gR_up (V := mdV) (F := mdF) (gR_up (V := mdV) (F := mdF) (gR_up (V := mdV) (F := mdF) (gR_up (V := mdV) (F := mdF) ⟨hok.1, hok.2⟩ 6 (hP.2.1 6)) 7 (hP.2.1 7)) 8 (hP.2.1 8)) 9 (hP.2.1 9)) 10 (hP.2.1 10)) 11 (hP.2.1 11)) 16 (hP.2.1 16)) 20 (hP.2.1 20)) 21 (hP.2.1 21)) 27 (hP.2.1 27)) 17 (hP.2.1 17)) 15 (hP.2.1 15)) 19 (hP.2.1 19)) 11 (hP.2.2 11)) 12 (hP.2.2 12)) 17 (hP.2.2 17)) 14 (hP.2.2 14)) 16 (hP.2.2 16)) 5 (hP.2.2 5)) 6 (hP.2.2 6)) 7 (hP.2.2 7)) 8 (hP.2.2 8))⟩
                  replace p0_56 : y6_10 = 0 → w6_56 = (5 : Int) ∧ w7_56 = y9_10 := p0_56
                  replace p1_56 : 0 < y6_10 → w6_56 = y6_10 ∧ w7_56 = y7_10 := p1_56
                  have rw6_56 : 0 ≤ w6_56 ∧ w6_56 ≤ 5 := hP.2.1 6
                  have rw7_56 : 0 ≤ w7_56 ∧ w7_56 ≤ 700 := hP.2.1 7
                  first | replace p0_56 := p0_56 (by omega) | clear p0_56
                  first | replace p1_56 := p1_56 (by omega) | clear p1_56
                  refine lv_iload_n hx hb dX11_readText_137 rfl (lv_at hl 2 rfl) ?_
                  refine lv_iload_n hx hb dX11_readText_138 rfl (lv_at hl 0 rfl) ?_
                  refine gi_zle (tgt := 148) hx hb dX11_readText_139 (by decide) (by omega) (fun c_57 => ?_) (fun c_57 => ?_)
                  · exfalso; omega
                  · refine lv_iconst (v := iI 1) hx hb dX11_readText_142 rfl ?_
                    refine lv_iload_n hx hb dX11_readText_143 rfl (lv_at hl 0 rfl) ?_
                    obtain ⟨x_58, ex_58, hx_58⟩ := gShl1 z_15 (by omega)
                    refine gi_shl (z := x_58) hx hb dX11_readText_144 ex_58 ?_
                    refine lv_goto (tgt := 149) hx hb dX11_readText_145 (by decide) ?_
                    obtain ⟨x_59, ex_59, hx_59⟩ : ∃ z : Int, iI x1 ||| iI x_58 = iI z ∧ inR z := ⟨(iI x1 ||| iI x_58).toInt, (iI_of _).symm, iI_rng _⟩
                    refine gi_or (z := x_59) hx hb dX11_readText_149 ex_59 ?_
                    refine lv_istore_n (lv' := [(1, .int (iI x_59)), (2, .int (iI z_15)), (0, .ref (ad 0))]) hx hb dX11_readText_150 rfl hl (by decide) rfl (fun ls hl => ?_)
                    have hy1 := seenO ht.1 ht.2.1 ht.2.2 hsn ex_58 ex_59 (by omega)
                    clear ex_59
                    refine lv_aload_n hx hb dX11_readText_151 rfl (lv_at hl 2 rfl) ?_
                    refine mdG_bad C hP mF_X11_188 dX11_readText_152 ?_
                    show W p l e (gRm 5 113) s m args below meth c _ _ 0 0 Q (F0 m 155 ls [.int (iI w6_56)])
                    have r_60 : 0 ≤ w6_56 ∧ w6_56 ≤ 5 := hP.2.1 6
                    refine gi_zne (tgt := 163) hx hb dX11_readText_155 (by decide) (by omega) (fun c_61 => ?_) (fun c_61 => ?_)
                    · refine lv_goto (tgt := 85) hx hb dX11_readText_163 (by decide) ?_
                      exact ih_85 x_59 (qq) (kk) (t1) (1) (t3) (e1) (e2) (e3) w6_56 w7_56 y8_10 y9_10 y10_10 y11_10 y16_10 y20_10 y21_10 y27_10 y17_10 y15_10 y19_10 c11_10 c12_10 c17_10 c14_10 c16_10 c5_10 c6_10 c7_10 c8_10 d0_10 _ _ _ (by omega) (by omega) (by omega) (by omega) hM (by first | (intro h; exfalso; omega) | exact hJ3.get) (by first | (intro h; exfalso; omega) | exact (fun h => by rw [← hJ3.get (by omega), show kk = (kk - 1) + 1 by omega, txt_bad _ (by omega) (by rw [law1_ag (by omega)]; show _ ≠ (0 : Int); omega), law1_ag (by omega)]; exact ⟨by omega, by show _ = qq; omega⟩)) (by first | (intro h; exfalso; omega) | exact hR.get) (by omega) (by first | (intro h; exfalso; omega) | exact (fun h => fun j j0 j1 => (by have hl := hL3.get (by omega); have hr := hW1.get (by omega); exact (if e : tK B (v 3) qq = 260 ∧ j = y15_10 then (by have h2 := hl.1 e.1; rw [e.2, ← hC5.get (by omega) _ (Int.le_refl _), show kk = (kk - 1) + 1 by omega, rdP_here _ e.1]; exact h2) else (by have hlt9 : j < y15_10 := (by by_cases h8 : tK B (v 3) qq = 260; (rw [if_pos h8] at hr; omega); (rw [if_neg h8] at hr; omega)); have h9 := hC1.get (by omega) j j0 hlt9; have h7 := hl.2 j hlt9; exact ⟨h7.1.trans h9.1, h7.2.1.trans h9.2.1, h7.2.2.1.trans h9.2.2.1, h7.2.2.2.trans h9.2.2.2⟩))))) (by first | (intro h; exfalso; omega) | exact (fun h => (by have hl := hL4.get (by omega); by_cases e : tK B (v 3) qq = 261; (rw [if_pos e]; have h2 := hl.1 e; unfold exL; rw [if_neg (by have := hge; omega)]; exact repN_of _ _ _ _ h2); (rw [if_neg e, (hl.2 e).1, (hl.2 e).2.1, (hl.2 e).2.2]; exact hC2.get (by omega))))) (by first | (intro h; exfalso; omega) | exact (fun h => (by have hl := hL5.get (by omega); by_cases e : tK B (v 3) qq = 262; (rw [if_pos e]; exact kyOm_told (by have := hge; omega) (hl.1 e)); (rw [if_neg e, (hl.2 e).1, (hl.2 e).2.1, (hl.2 e).2.2]; exact hC3.get (by omega))))) (by first | (intro h; exfalso; omega) | exact (fun h => (by have hl := hL6.get (by omega); by_cases e : tK B (v 3) qq = 263; (rw [if_pos e]; unfold tiV; rw [if_neg (by have := hge; omega)]; exact hl.1 e); (rw [if_neg e, hl.2 e]; exact hC4.get (by omega))))) (by first | (intro h; exfalso; omega) | exact (fun h => fun j hj => (by have hr := hW1.get (by omega); rw [← hC5.get (by omega) j (by by_cases h8 : tK B (v 3) qq = 260; (rw [if_pos h8] at hr; omega); (rw [if_neg h8] at hr; omega)), show kk = (kk - 1) + 1 by omega]; exact (rdP_go _ (by omega) (nxL_z (by have := hOI.1; omega)) (hW1.get (by omega)) hj).symm))) (by first | (intro h; exfalso; omega) | exact (fun h => (by rw [← hC6.get (by omega), show kk = (kk - 1) + 1 by omega]; exact (txP_go _ (by omega) (nxL_z (by have := hOI.1; omega)) rfl).symm))) (by first | (intro h; exfalso; omega) | exact (fun h => (by rw [← hC7.get (by omega), show kk = (kk - 1) + 1 by omega]; exact (txP_go _ (by omega) (nxL_z (by have := hOI.1; omega)) rfl).symm))) (by first | (intro h; exfalso; omega) | exact (fun h => (by rw [← hC8.get (by omega), show kk = (kk - 1) + 1 by omega]; exact (txP_go _ (by omega) (nxL_z (by have := hOI.1; omega)) rfl).symm))) hP hS (lv_sub hl [2, 0] rfl)
                    · exfalso; omega
            · exfalso; omega
          · have hn256 : tK B (v 3) qq ≠ 256 := fun q => c_14 (hso.mpr q)
            have hk := p4_15.mp hz
            clear p1_15 p2_15 p3_15 p4_15 hso
            refine lv_iload_n hx hb dX11_readText_104 rfl (lv_at hl 0 rfl) ?_
            refine gi_zge (tgt := 115) hx hb dX11_readText_105 (by decide) (by omega) (fun c_62 => ?_) (fun c_62 => ?_)
            · refine lv_iload_n hx hb dX11_readText_115 rfl (lv_at hl 0 rfl) ?_
              refine gi_zle (tgt := 137) hx hb dX11_readText_116 (by decide) (by omega) (fun c_63 => ?_) (fun c_63 => ?_)
              · exfalso; omega
              · refine lv_iload_n hx hb dX11_readText_119 rfl (lv_at hl 2 rfl) ?_
                refine lv_iload_n hx hb dX11_readText_120 rfl (lv_at hl 0 rfl) ?_
                obtain ⟨x_64, ex_64, hx_64⟩ : ∃ z : Int, iI x1 >>> (iI z_15 &&& 31) = iI z ∧ inR z := ⟨(iI x1 >>> (iI z_15 &&& 31)).toInt, (iI_of _).symm, iI_rng _⟩
                refine gi_shr (z := x_64) hx hb dX11_readText_121 ex_64 ?_
                refine lv_iconst (v := iI 1) hx hb dX11_readText_122 rfl ?_
                obtain ⟨x_65, ex_65, hx_65⟩ := gAnd x_64 1 1 (by decide) (by decide)
                refine gi_and (z := x_65) hx hb dX11_readText_123 ex_65 ?_
                have hbit := seenB ht.1 ht.2.1 ht.2.2 hsn ex_64 ex_65 (by omega)
                have hb2 : x_65 = t3 := by omega
                refine lv_iconst (v := iI 1) hx hb dX11_readText_124 rfl ?_
                refine gi_cne (tgt := 137) hx hb dX11_readText_125 (by decide) (by omega) (by decide) (fun c_66 => ?_) (fun c_66 => ?_)
                · refine lv_iload_n hx hb dX11_readText_137 rfl (lv_at hl 2 rfl) ?_
                  refine lv_iload_n hx hb dX11_readText_138 rfl (lv_at hl 0 rfl) ?_
                  refine gi_zle (tgt := 148) hx hb dX11_readText_139 (by decide) (by omega) (fun c_67 => ?_) (fun c_67 => ?_)
                  · exfalso; omega
                  · refine lv_iconst (v := iI 1) hx hb dX11_readText_142 rfl ?_
                    refine lv_iload_n hx hb dX11_readText_143 rfl (lv_at hl 0 rfl) ?_
                    obtain ⟨x_68, ex_68, hx_68⟩ := gShl1 z_15 (by omega)
                    refine gi_shl (z := x_68) hx hb dX11_readText_144 ex_68 ?_
                    refine lv_goto (tgt := 149) hx hb dX11_readText_145 (by decide) ?_
                    obtain ⟨x_69, ex_69, hx_69⟩ : ∃ z : Int, iI x1 ||| iI x_68 = iI z ∧ inR z := ⟨(iI x1 ||| iI x_68).toInt, (iI_of _).symm, iI_rng _⟩
                    refine gi_or (z := x_69) hx hb dX11_readText_149 ex_69 ?_
                    refine lv_istore_n (lv' := [(1, .int (iI x_69)), (2, .int (iI z_15)), (0, .ref (ad 0))]) hx hb dX11_readText_150 rfl hl (by decide) rfl (fun ls hl => ?_)
                    have hy1 := seenO ht.1 ht.2.1 ht.2.2 hsn ex_68 ex_69 (by omega)
                    clear ex_69
                    refine lv_aload_n hx hb dX11_readText_151 rfl (lv_at hl 2 rfl) ?_
                    refine mdG_bad C hP mF_X11_188 dX11_readText_152 ?_
                    show W p l e (gRm 5 113) s m args below meth c _ _ 0 0 Q (F0 m 155 ls [.int (iI y6_10)])
                    refine gi_zne (tgt := 163) hx hb dX11_readText_155 (by decide) (by omega) (fun c_70 => ?_) (fun c_70 => ?_)
                    · exfalso; omega
                    · refine lv_aload_n hx hb dX11_readText_158 rfl (lv_at hl 2 rfl) ?_
                      refine lv_iload_n hx hb dX11_readText_159 rfl (lv_at hl 1 rfl) ?_
                      refine g_cv (As := [.int (iI z_15)]) (rest := []) (n := 1) C hml (q_n_readLaw l D k A ad hD (va_up (va_up (va_up (va_up (va_up (va_up (va_up (va_up (va_up (va_up (va_up (va_up (va_up v 6 y6_10) 7 y7_10) 8 y8_10) 9 y9_10) 10 y10_10) 11 y11_10) 16 y16_10) 20 y20_10) 21 y21_10) 27 y27_10) 17 y17_10) 15 y15_10) 19 y19_10) (va_up (va_up (va_up (va_up (va_up (va_up (va_up (va_up (va_up f 11 c11_10) 12 c12_10) 17 c17_10) 14 c14_10) 16 c16_10) 5 c5_10) 6 c6_10) 7 c7_10) 8 c8_10) (va_up g 0 d0_10) z_15 B qq (by omega) (show ∀ k, (f 0) k % 256 = B k from hB) (show mAt B (v 3) y9_10 y10_10 y8_10 y11_10 (d0_10 0) qq from hM) (show y6_10 = 0 from by omega) (show z_15 = (tK B (v 3) qq) - 260 ∧ 0 ≤ z_15 ∧ z_15 ≤ 3 from by omega) (show rpOk y16_10 c11_10 ∧ y16_10 ≤ 40 from hR.get (by omega))) mM_X11_224 mI_X11_readLaw mE_X11_readLaw mN_X11 mC_X11_readLaw (by decide +kernel) 0 (ci := 11) rfl rfl hP hS (fun _ h => h) ⟨Nat.le_of_ble_eq_true rfl, Nat.le_of_ble_eq_true rfl⟩ ⟨Nat.zero_le _, Nat.zero_le _⟩ hl.1 rfl rfl (Nat.le_of_ble_eq_true rfl) dX11_readText_160 (fun r_71 v_71 f_71 g_71 H locs hq_71 hP _ hS => ?_)
                      obtain ⟨w6_71, w7_71, w8_71, w9_71, w10_71, w11_71, w16_71, w20_71, w21_71, w27_71, w17_71, w15_71, w19_71, a11_71, a12_71, a17_71, a14_71, a16_71, a5_71, a6_71, a7_71, a8_71, b0_71, rfl, rfl, rfl, rfl, p0_71, p1_71, p2_71, p3_71, p4_71, p5_71, p6_71⟩ := hq_71
                      show W p l e (gRm 5 113) s m args below meth c _ _ 0 0 Q (F0 m 163 ls [])
                      have hP : gWd D (mdT k ad) (va_up (va_up (va_up (va_up (va_up (va_up (va_up (va_up (va_up (va_up (va_up (va_up (va_up v 6 w6_71) 7 w7_71) 8 w8_71) 9 w9_71) 10 w10_71) 11 w11_71) 16 w16_71) 20 w20_71) 21 w21_71) 27 w27_71) 17 w17_71) 15 w15_71) 19 w19_71) (va_up (va_up (va_up (va_up (va_up (va_up (va_up (va_up (va_up f 11 a11_71) 12 a12_71) 17 a17_71) 14 a14_71) 16 a16_71) 5 a5_71) 6 a6_71) 7 a7_71) 8 a8_71) (va_up g 0 b0_71) H := ⟨hP.1, (gF_up (V := mdV) (F := mdF) (gF_up (V := mdV) (F := mdF) (gF_up (V := mdV) (F := mdF) (gF_up (V := mdV) (F := mdF) (gF_up (V := mdV) (F := mdF) (gF_up (V := mdV) (F := mdF) (gF_up (V := mdV) (F := mdF) (gF_up (V := mdV) (F := mdF) (gF_up (V := mdV) (F := mdF) (gR_up (V := mdV) (F := mdF) (gR_up (V := mdV) (F := mdF) (gR_up (V := mdV) (F := mdF) (gR_up (V := mdV) (F := mdF) (gR_up (V := mdV) (F := mdF) (gR_up (V := mdV) (F := mdF) (gR_up (V := mdV) (F := mdF) (gR_up (V := mdV) (F := mdF) (gR_up (V := mdV) (F := mdF) (gR_up (V := mdV) (F := mdF) (gR_up (V := mdV) (F := mdF) (gR_up (V := mdV) (F := mdF) (gR_up (V := mdV) (F := mdF) ⟨hok.1, hok.2⟩ 6 (hP.2.1 6)) 7 (hP.2.1 7)) 8 (hP.2.1 8)) 9 (hP.2.1 9)) 10 (hP.2.1 10)) 11 (hP.2.1 11)) 16 (hP.2.1 16)) 20 (hP.2.1 20)) 21 (hP.2.1 21)) 27 (hP.2.1 27)) 17 (hP.2.1 17)) 15 (hP.2.1 15)) 19 (hP.2.1 19)) 11 (hP.2.2 11)) 12 (hP.2.2 12)) 17 (hP.2.2 17)) 14 (hP.2.2 14)) 16 (hP.2.2 16)) 5 (hP.2.2 5)) 6 (hP.2.2 6)) 7 (hP.2.2 7)) 8 (hP.2.2 8))⟩
                      replace p0_71 : oM B (v 3) (law1 B (v 3) qq y15_10 0 0 0) w6_71 w7_71 w9_71 w10_71 w8_71 w11_71 (b0_71 0) := p0_71
                      replace p1_71 : w6_71 = 0 → w15_71 = (if (tK B (v 3) qq) = 260 then y15_10 + 1 else y15_10) := p1_71
                      replace p2_71 : w6_71 = 0 → rpOk w16_71 a11_71 ∧ w16_71 ≤ 40 := p2_71
                      replace p3_71 : w6_71 = 0 → ((tK B (v 3) qq) = 260 → rwC B (v 3) (tX B (v 3) qq) a5_71 a6_71 a7_71 a8_71 y15_10) ∧ (∀ e, e < y15_10 → a5_71 e = c5_10 e ∧ a6_71 e = c6_10 e ∧ a7_71 e = c7_10 e ∧ a8_71 e = c8_10 e) := p3_71
                      replace p4_71 : w6_71 = 0 → ((tK B (v 3) qq) = 261 → repC mp (exF B (v 3) 702 (tX B (v 3) qq) 0 [] []).2.2 a11_71 a12_71 w16_71) ∧ ((tK B (v 3) qq) ≠ 261 → w16_71 = y16_10 ∧ a11_71 = c11_10 ∧ a12_71 = c12_10) := p4_71
                      replace p5_71 : w6_71 = 0 → ((tK B (v 3) qq) = 262 → w17_71 = kyN B (v 3) 4 (tX B (v 3) qq) ∧ kyM B (v 3) (tX B (v 3) qq) a14_71 a16_71 w17_71) ∧ ((tK B (v 3) qq) ≠ 262 → w17_71 = y17_10 ∧ a14_71 = c14_10 ∧ a16_71 = c16_10) := p5_71
                      replace p6_71 : w6_71 = 0 → ((tK B (v 3) qq) = 263 → w19_71 = (if tK B (v 3) (tX B (v 3) qq) = 264 then 1 else 0)) ∧ ((tK B (v 3) qq) ≠ 263 → w19_71 = y19_10) := p6_71
                      have rw6_71 : 0 ≤ w6_71 ∧ w6_71 ≤ 5 := hP.2.1 6
                      have rw7_71 : 0 ≤ w7_71 ∧ w7_71 ≤ 700 := hP.2.1 7
                      have rw8_71 : 0 ≤ w8_71 ∧ w8_71 ≤ 4 := hP.2.1 8
                      have rw9_71 : 0 ≤ w9_71 ∧ w9_71 ≤ 700 := hP.2.1 9
                      have rw10_71 : 0 ≤ w10_71 ∧ w10_71 ≤ 700 := hP.2.1 10
                      have rw11_71 : 0 ≤ w11_71 ∧ w11_71 ≤ 999999 := hP.2.1 11
                      have rw16_71 : 0 ≤ w16_71 ∧ w16_71 ≤ 41 := hP.2.1 16
                      have rw20_71 : 0 ≤ w20_71 ∧ w20_71 ≤ 64 := hP.2.1 20
                      have rw21_71 : 0 ≤ w21_71 ∧ w21_71 ≤ 9 := hP.2.1 21
                      have rw27_71 : 0 ≤ w27_71 ∧ w27_71 ≤ 41 := hP.2.1 27
                      have rw17_71 : 0 ≤ w17_71 ∧ w17_71 ≤ 4 := hP.2.1 17
                      have rw15_71 : 0 ≤ w15_71 ∧ w15_71 ≤ 4 := hP.2.1 15
                      have rw19_71 : 0 ≤ w19_71 ∧ w19_71 ≤ 1 := hP.2.1 19
                      have hL3 := Bx.mk p3_71
                      have hL4 := Bx.mk p4_71
                      have hL5 := Bx.mk p5_71
                      have hL6 := Bx.mk p6_71
                      clear p3_71 p4_71 p5_71 p6_71
                      have hOI := p0_71
                      have hW1 := Bx.mk p1_71
                      clear p1_71
                      have hL := Bx.mk p2_71
                      clear p2_71
                      have hlt : law1 B (v 3) qq y15_10 t1 t2 t3 = law1 B (v 3) qq y15_10 0 0 0 := law1_t (by omega) (by omega) (by omega)
                      rw [← hlt] at hOI
                      have hlq : qq < (v 3) := by have h9 := (not_congr (tK_end (B := B) (n := (v 3)) (q := qq))).mp (by omega); omega
                      have hge : w6_71 = 0 → qq + 1 ≤ (law1 B (v 3) qq y15_10 t1 t2 t3).2 := fun h => law1_ge hlq (by have := hOI.1; omega)
                      have hge2 : qq ≤ (law1 B (v 3) qq y15_10 t1 t2 t3).2 := law1_le hlq
                      have hpo := hOI.2.2.of.2.1
                      have hge := tX_up (B := B) (n := (v 3)) (q := qq) hlq
                      refine lv_goto (tgt := 85) hx hb dX11_readText_163 (by decide) ?_
                      exact ih_85 x_69 ((law1 B (v 3) qq y15_10 t1 t2 t3).2) ((kk - 1)) (t1) (t2) (1) ((if tK B (v 3) qq = 261 then tX B (v 3) qq else e1)) ((if tK B (v 3) qq = 262 then tX B (v 3) qq else e2)) ((if tK B (v 3) qq = 263 then tX B (v 3) qq else e3)) w6_71 w7_71 w8_71 w9_71 w10_71 w11_71 w16_71 w20_71 w21_71 w27_71 w17_71 w15_71 w19_71 a11_71 a12_71 a17_71 a14_71 a16_71 a5_71 a6_71 a7_71 a8_71 b0_71 _ _ _ (by omega) (by omega) (by omega) (by omega) hOI.2.2 (by first | (intro h; exfalso; omega) | exact (fun h => by rw [← hJ3.get (by omega), show kk = (kk - 1) + 1 by omega]; exact (txt_go _ (by omega) (by have := hOI.1; omega) (hW1.get h) (by first | rw [if_pos (by omega)] | rw [if_neg (by omega)]) (by first | rw [if_pos (by omega)] | rw [if_neg (by omega)]) (by first | rw [if_pos (by omega)] | rw [if_neg (by omega)])).symm)) (by first | (intro h; exfalso; omega) | exact (fun h => by rw [← hJ3.get (by omega), show kk = (kk - 1) + 1 by omega, txt_bad _ (by omega) (by have := hOI.1; omega)]; exact ⟨hOI.1, hOI.2.1 (by have := hOI.1; omega)⟩)) (by first | (intro h; exfalso; omega) | exact hL.get) (by omega) (by first | (intro h; exfalso; omega) | exact (fun h => fun j j0 j1 => (by have hl := hL3.get (by omega); have hr := hW1.get (by omega); exact (if e : tK B (v 3) qq = 260 ∧ j = y15_10 then (by have h2 := hl.1 e.1; rw [e.2, ← hC5.get (by omega) _ (Int.le_refl _), show kk = (kk - 1) + 1 by omega, rdP_here _ e.1]; exact h2) else (by have hlt9 : j < y15_10 := (by by_cases h8 : tK B (v 3) qq = 260; (rw [if_pos h8] at hr; omega); (rw [if_neg h8] at hr; omega)); have h9 := hC1.get (by omega) j j0 hlt9; have h7 := hl.2 j hlt9; exact ⟨h7.1.trans h9.1, h7.2.1.trans h9.2.1, h7.2.2.1.trans h9.2.2.1, h7.2.2.2.trans h9.2.2.2⟩))))) (by first | (intro h; exfalso; omega) | exact (fun h => (by have hl := hL4.get (by omega); by_cases e : tK B (v 3) qq = 261; (rw [if_pos e]; have h2 := hl.1 e; unfold exL; rw [if_neg (by have := hge; omega)]; exact repN_of _ _ _ _ h2); (rw [if_neg e, (hl.2 e).1, (hl.2 e).2.1, (hl.2 e).2.2]; exact hC2.get (by omega))))) (by first | (intro h; exfalso; omega) | exact (fun h => (by have hl := hL5.get (by omega); by_cases e : tK B (v 3) qq = 262; (rw [if_pos e]; exact kyOm_told (by have := hge; omega) (hl.1 e)); (rw [if_neg e, (hl.2 e).1, (hl.2 e).2.1, (hl.2 e).2.2]; exact hC3.get (by omega))))) (by first | (intro h; exfalso; omega) | exact (fun h => (by have hl := hL6.get (by omega); by_cases e : tK B (v 3) qq = 263; (rw [if_pos e]; unfold tiV; rw [if_neg (by have := hge; omega)]; exact hl.1 e); (rw [if_neg e, hl.2 e]; exact hC4.get (by omega))))) (by first | (intro h; exfalso; omega) | exact (fun h => fun j hj => (by have hr := hW1.get (by omega); rw [← hC5.get (by omega) j (by by_cases h8 : tK B (v 3) qq = 260; (rw [if_pos h8] at hr; omega); (rw [if_neg h8] at hr; omega)), show kk = (kk - 1) + 1 by omega]; exact (rdP_go _ (by omega) (nxL_z (by have := hOI.1; omega)) (hW1.get (by omega)) hj).symm))) (by first | (intro h; exfalso; omega) | exact (fun h => (by rw [← hC6.get (by omega), show kk = (kk - 1) + 1 by omega]; exact (txP_go _ (by omega) (nxL_z (by have := hOI.1; omega)) rfl).symm))) (by first | (intro h; exfalso; omega) | exact (fun h => (by rw [← hC7.get (by omega), show kk = (kk - 1) + 1 by omega]; exact (txP_go _ (by omega) (nxL_z (by have := hOI.1; omega)) rfl).symm))) (by first | (intro h; exfalso; omega) | exact (fun h => (by rw [← hC8.get (by omega), show kk = (kk - 1) + 1 by omega]; exact (txP_go _ (by omega) (nxL_z (by have := hOI.1; omega)) rfl).symm))) hP hS (lv_sub hl [2, 0] rfl)
                · refine lv_aload_n hx hb dX11_readText_128 rfl (lv_at hl 1 rfl) ?_
                  refine lv_iconst (v := iI 5) hx hb dX11_readText_129 rfl ?_
                  refine lv_aload_n hx hb dX11_readText_130 rfl (lv_at hl 1 rfl) ?_
                  refine mdG_at C hP mF_X11_158 dX11_readText_131 ?_
                  show W p l e (gRm 5 113) s m args below meth c _ _ 0 0 Q (F0 m 134 ls [.int (iI y9_10), .int (iI 5), .ref (ad 0)])
                  have r_72 : 0 ≤ y9_10 ∧ y9_10 ≤ 700 := hP.2.1 9
                  refine g_cv (As := [.int (iI 5), .int (iI y9_10)]) (rest := []) (n := 2) C hml (n_fail l D k A ad hD (va_up (va_up (va_up (va_up (va_up (va_up (va_up (va_up (va_up (va_up (va_up (va_up (va_up v 6 y6_10) 7 y7_10) 8 y8_10) 9 y9_10) 10 y10_10) 11 y11_10) 16 y16_10) 20 y20_10) 21 y21_10) 27 y27_10) 17 y17_10) 15 y15_10) 19 y19_10) (va_up (va_up (va_up (va_up (va_up (va_up (va_up (va_up (va_up f 11 c11_10) 12 c12_10) 17 c17_10) 14 c14_10) 16 c16_10) 5 c5_10) 6 c6_10) 7 c7_10) 8 c8_10) (va_up g 0 d0_10) 5 y9_10 (by decide) (by omega) (show 1 ≤ (5 : Int) ∧ (5 : Int) ≤ 5 from by omega) (show 0 ≤ y9_10 ∧ y9_10 ≤ 700 from by omega)) mM_X11_194 mI_X11_fail mE_X11_fail mN_X11 mC_X11_fail (by decide +kernel) 0 (ci := 11) rfl rfl hP hS (fun _ h => h) ⟨Nat.le_of_ble_eq_true rfl, Nat.le_of_ble_eq_true rfl⟩ ⟨Nat.zero_le _, Nat.zero_le _⟩ hl.1 rfl rfl (Nat.le_of_ble_eq_true rfl) dX11_readText_134 (fun r_73 v_73 f_73 g_73 H locs hq_73 hP _ hS => ?_)
                  obtain ⟨w6_73, w7_73, rfl, rfl, rfl, rfl, p0_73, p1_73⟩ := hq_73
                  show W p l e (gRm 5 113) s m args below meth c _ _ 0 0 Q (F0 m 137 ls [])
                  have hP : gWd D (mdT k ad) (va_up (va_up (va_up (va_up (va_up (va_up (va_up (va_up (va_up (va_up (va_up (va_up (va_up v 6 w6_73) 7 w7_73) 8 y8_10) 9 y9_10) 10 y10_10) 11 y11_10) 16 y16_10) 20 y20_10) 21 y21_10) 27 y27_10) 17 y17_10) 15 y15_10) 19 y19_10) (va_up (va_up (va_up (va_up (va_up (va_up (va_up (va_up (va_up f 11 c11_10) 12 c12_10) 17 c17_10) 14 c14_10) 16 c16_10) 5 c5_10) 6 c6_10) 7 c7_10) 8 c8_10) (va_up g 0 d0_10) H := ⟨hP.1, (gF_up (V := mdV) (F := mdF) (gF_up (V := mdV) (F := mdF) (gF_up (V := mdV) (F := mdF) (gF_up (V := mdV) (F := mdF) (gF_up (V := mdV) (F := mdF) (gF_up (V := mdV) (F := mdF) (gF_up (V := mdV) (F := mdF) (gF_up (V := mdV) (F := mdF) (gF_up (V := mdV) (F := mdF) (gR_up (V := mdV) (F := mdF) (gR_up (V := mdV) (F := mdF) (gR_up (V := mdV) (F := mdF) (gR_up (V := mdV) (F := mdF) (gR_up (V := mdV) (F := mdF) (gR_up (V := mdV) (F := mdF) (gR_up (V := mdV) (F := mdF) (gR_up (V := mdV) (F := mdF) (gR_up (V := mdV) (F := mdF) (gR_up (V := mdV) (F := mdF) (gR_up (V := mdV) (F := mdF) (gR_up (V := mdV) (F := mdF) (gR_up (V := mdV) (F := mdF) ⟨hok.1, hok.2⟩ 6 (hP.2.1 6)) 7 (hP.2.1 7)) 8 (hP.2.1 8)) 9 (hP.2.1 9)) 10 (hP.2.1 10)) 11 (hP.2.1 11)) 16 (hP.2.1 16)) 20 (hP.2.1 20)) 21 (hP.2.1 21)) 27 (hP.2.1 27)) 17 (hP.2.1 17)) 15 (hP.2.1 15)) 19 (hP.2.1 19)) 11 (hP.2.2 11)) 12 (hP.2.2 12)) 17 (hP.2.2 17)) 14 (hP.2.2 14)) 16 (hP.2.2 16)) 5 (hP.2.2 5)) 6 (hP.2.2 6)) 7 (hP.2.2 7)) 8 (hP.2.2 8))⟩
                  replace p0_73 : y6_10 = 0 → w6_73 = (5 : Int) ∧ w7_73 = y9_10 := p0_73
                  replace p1_73 : 0 < y6_10 → w6_73 = y6_10 ∧ w7_73 = y7_10 := p1_73
                  have rw6_73 : 0 ≤ w6_73 ∧ w6_73 ≤ 5 := hP.2.1 6
                  have rw7_73 : 0 ≤ w7_73 ∧ w7_73 ≤ 700 := hP.2.1 7
                  first | replace p0_73 := p0_73 (by omega) | clear p0_73
                  first | replace p1_73 := p1_73 (by omega) | clear p1_73
                  refine lv_iload_n hx hb dX11_readText_137 rfl (lv_at hl 2 rfl) ?_
                  refine lv_iload_n hx hb dX11_readText_138 rfl (lv_at hl 0 rfl) ?_
                  refine gi_zle (tgt := 148) hx hb dX11_readText_139 (by decide) (by omega) (fun c_74 => ?_) (fun c_74 => ?_)
                  · exfalso; omega
                  · refine lv_iconst (v := iI 1) hx hb dX11_readText_142 rfl ?_
                    refine lv_iload_n hx hb dX11_readText_143 rfl (lv_at hl 0 rfl) ?_
                    obtain ⟨x_75, ex_75, hx_75⟩ := gShl1 z_15 (by omega)
                    refine gi_shl (z := x_75) hx hb dX11_readText_144 ex_75 ?_
                    refine lv_goto (tgt := 149) hx hb dX11_readText_145 (by decide) ?_
                    obtain ⟨x_76, ex_76, hx_76⟩ : ∃ z : Int, iI x1 ||| iI x_75 = iI z ∧ inR z := ⟨(iI x1 ||| iI x_75).toInt, (iI_of _).symm, iI_rng _⟩
                    refine gi_or (z := x_76) hx hb dX11_readText_149 ex_76 ?_
                    refine lv_istore_n (lv' := [(1, .int (iI x_76)), (2, .int (iI z_15)), (0, .ref (ad 0))]) hx hb dX11_readText_150 rfl hl (by decide) rfl (fun ls hl => ?_)
                    have hy1 := seenO ht.1 ht.2.1 ht.2.2 hsn ex_75 ex_76 (by omega)
                    clear ex_76
                    refine lv_aload_n hx hb dX11_readText_151 rfl (lv_at hl 2 rfl) ?_
                    refine mdG_bad C hP mF_X11_188 dX11_readText_152 ?_
                    show W p l e (gRm 5 113) s m args below meth c _ _ 0 0 Q (F0 m 155 ls [.int (iI w6_73)])
                    have r_77 : 0 ≤ w6_73 ∧ w6_73 ≤ 5 := hP.2.1 6
                    refine gi_zne (tgt := 163) hx hb dX11_readText_155 (by decide) (by omega) (fun c_78 => ?_) (fun c_78 => ?_)
                    · refine lv_goto (tgt := 85) hx hb dX11_readText_163 (by decide) ?_
                      exact ih_85 x_76 (qq) (kk) (t1) (t2) (1) (e1) (e2) (e3) w6_73 w7_73 y8_10 y9_10 y10_10 y11_10 y16_10 y20_10 y21_10 y27_10 y17_10 y15_10 y19_10 c11_10 c12_10 c17_10 c14_10 c16_10 c5_10 c6_10 c7_10 c8_10 d0_10 _ _ _ (by omega) (by omega) (by omega) (by omega) hM (by first | (intro h; exfalso; omega) | exact hJ3.get) (by first | (intro h; exfalso; omega) | exact (fun h => by rw [← hJ3.get (by omega), show kk = (kk - 1) + 1 by omega, txt_bad _ (by omega) (by rw [law1_ag (by omega)]; show _ ≠ (0 : Int); omega), law1_ag (by omega)]; exact ⟨by omega, by show _ = qq; omega⟩)) (by first | (intro h; exfalso; omega) | exact hR.get) (by omega) (by first | (intro h; exfalso; omega) | exact (fun h => fun j j0 j1 => (by have hl := hL3.get (by omega); have hr := hW1.get (by omega); exact (if e : tK B (v 3) qq = 260 ∧ j = y15_10 then (by have h2 := hl.1 e.1; rw [e.2, ← hC5.get (by omega) _ (Int.le_refl _), show kk = (kk - 1) + 1 by omega, rdP_here _ e.1]; exact h2) else (by have hlt9 : j < y15_10 := (by by_cases h8 : tK B (v 3) qq = 260; (rw [if_pos h8] at hr; omega); (rw [if_neg h8] at hr; omega)); have h9 := hC1.get (by omega) j j0 hlt9; have h7 := hl.2 j hlt9; exact ⟨h7.1.trans h9.1, h7.2.1.trans h9.2.1, h7.2.2.1.trans h9.2.2.1, h7.2.2.2.trans h9.2.2.2⟩))))) (by first | (intro h; exfalso; omega) | exact (fun h => (by have hl := hL4.get (by omega); by_cases e : tK B (v 3) qq = 261; (rw [if_pos e]; have h2 := hl.1 e; unfold exL; rw [if_neg (by have := hge; omega)]; exact repN_of _ _ _ _ h2); (rw [if_neg e, (hl.2 e).1, (hl.2 e).2.1, (hl.2 e).2.2]; exact hC2.get (by omega))))) (by first | (intro h; exfalso; omega) | exact (fun h => (by have hl := hL5.get (by omega); by_cases e : tK B (v 3) qq = 262; (rw [if_pos e]; exact kyOm_told (by have := hge; omega) (hl.1 e)); (rw [if_neg e, (hl.2 e).1, (hl.2 e).2.1, (hl.2 e).2.2]; exact hC3.get (by omega))))) (by first | (intro h; exfalso; omega) | exact (fun h => (by have hl := hL6.get (by omega); by_cases e : tK B (v 3) qq = 263; (rw [if_pos e]; unfold tiV; rw [if_neg (by have := hge; omega)]; exact hl.1 e); (rw [if_neg e, hl.2 e]; exact hC4.get (by omega))))) (by first | (intro h; exfalso; omega) | exact (fun h => fun j hj => (by have hr := hW1.get (by omega); rw [← hC5.get (by omega) j (by by_cases h8 : tK B (v 3) qq = 260; (rw [if_pos h8] at hr; omega); (rw [if_neg h8] at hr; omega)), show kk = (kk - 1) + 1 by omega]; exact (rdP_go _ (by omega) (nxL_z (by have := hOI.1; omega)) (hW1.get (by omega)) hj).symm))) (by first | (intro h; exfalso; omega) | exact (fun h => (by rw [← hC6.get (by omega), show kk = (kk - 1) + 1 by omega]; exact (txP_go _ (by omega) (nxL_z (by have := hOI.1; omega)) rfl).symm))) (by first | (intro h; exfalso; omega) | exact (fun h => (by rw [← hC7.get (by omega), show kk = (kk - 1) + 1 by omega]; exact (txP_go _ (by omega) (nxL_z (by have := hOI.1; omega)) rfl).symm))) (by first | (intro h; exfalso; omega) | exact (fun h => (by rw [← hC8.get (by omega), show kk = (kk - 1) + 1 by omega]; exact (txP_go _ (by omega) (nxL_z (by have := hOI.1; omega)) rfl).symm))) hP hS (lv_sub hl [2, 0] rfl)
                    · exfalso; omega
            · exfalso; omega
  exact L_10 7010 0 ((run bW B (v 3) 0)) (702) (0) (0) (0) ((-1)) ((-1)) ((-1)) (v 6) (v 7) w8_9 w9_9 w10_9 w11_9 5 (v 20) (v 21) (v 27) 1 0 0 (u1 (u1 (u1 (u1 (u1 (f 11) 0 0) 1 1) 2 9) 3 2) 4 7) (u1 (f 12) 0 100) (f 17) (u1 (f 14) 0 0) (u1 (f 16) 0 0) (f 5) (f 6) (f 7) (f 8) b0_9 _ _ _ (by omega) (by omega) (by omega) (by omega) hN0 (fun _ => rfl) (fun h => absurd (show (v 6) = 0 by omega) h) (fun _ => ⟨rp_default _, by decide⟩) (by omega) (fun _ j h0 h1 => by omega) (fun _ => repN_un ⟨rfl, rfl⟩ rfl rfl rfl rfl) (fun _ => ⟨fun _ => ⟨rfl, rfl, rfl⟩, fun q => absurd rfl q⟩) (fun _ => rfl) (fun _ j _ => rfl) (fun _ => rfl) (fun _ => rfl) (fun _ => rfl) hP hS (lv_sub hl [1, 0] rfl)
end
