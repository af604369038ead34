section
/-! the reference's rows of what a text tells -/
def kyM (B : Int → Int) (n p : Int) (ky up : Int → Int) (m : Int) : Prop := ∀ j, 0 ≤ j → j < m → ky j = tK B n (tX B n (kyP B n j.toNat p)) - 268 ∧ up j = (if tK B n (kyP B n j.toNat p) = 267 then 0 else 1)
theorem kyM_put {B : Int → Int} {n p x a b : Int} {ky up : Int → Int} (h : kyM B n p ky up x) (h0 : 0 ≤ x) (ha : a = tK B n (tX B n (kyP B n x.toNat p)) - 268) (hb : b = (if tK B n (kyP B n x.toNat p) = 267 then 0 else 1)) : kyM B n p (u1 ky x a) (u1 up x b) (x + 1) := fun j j0 j1 => by
  by_cases e : j = x
  · rw [e, u1_s, u1_s]; exact ⟨ha, hb⟩
  · rw [u1_n e, u1_n e]; exact h j j0 (by omega)
def kyOm (B : Int → Int) (n p : Int) (ky up : Int → Int) (m : Int) : Prop := (p = -1 → m = 1 ∧ ky 0 = 0 ∧ up 0 = 0) ∧ (p ≠ -1 → m = kyN B n 4 p ∧ kyM B n p ky up m)
/-- numbers count only where a number is meant -/
def repN (μ : Int → Int) : List (Int × Int) → (Int → Int) → (Int → Int) → Int → Prop
  | [], _, _, c => c = 0
  | x :: E, a, b, c => a (c - 1) = μ x.1 ∧ (x.1 = 6 → b (c - 1) = x.2) ∧ repN μ E a b (c - 1)
theorem repN_of {μ : Int → Int} : ∀ (E : List (Int × Int)) (a b : Int → Int) (c : Int), repC μ E a b c → repN μ E a b c := by
  intro E
  induction E with
  | nil => intro a b c h; exact h
  | cons x E ih => intro a b c h; exact ⟨h.1, fun _ => h.2.1, ih a b (c - 1) h.2.2⟩
theorem repN_len {μ : Int → Int} : ∀ (E : List (Int × Int)) (a b : Int → Int) (c : Int), repN μ E a b c → c = (E.length : Int) := by
  intro E
  induction E with
  | nil => intro a b c h; exact h
  | cons x E ih =>
    intro a b c h
    have := ih a b (c - 1) h.2.2
    simp only [List.length_cons]
    omega
theorem repN_ext {μ : Int → Int} : ∀ (E : List (Int × Int)) (a b a2 b2 : Int → Int) (c : Int), repN μ E a b c → (∀ j, 0 ≤ j → j < c → a2 j = a j ∧ b2 j = b j) → repN μ E a2 b2 c := by
  intro E
  induction E with
  | nil => intro a b a2 b2 c h _; exact h
  | cons x E ih =>
    intro a b a2 b2 c h he
    have hl := repN_len _ _ _ _ h
    simp only [List.length_cons] at hl
    have h1 := he (c - 1) (by omega) (by omega)
    exact ⟨by rw [h1.1]; exact h.1, fun q => by rw [h1.2]; exact h.2.1 q, ih a b a2 b2 (c - 1) h.2.2 (fun j j0 hj => he j j0 (by omega))⟩
def rwC (B : Int → Int) (n p : Int) (a b c d : Int → Int) (r : Int) : Prop := a r = tV B n (tXi B n 0 p) ∧ b r = tV B n (tXi B n 1 p) ∧ c r = tV B n (tXi B n 2 p) ∧ d r = tV B n (tXi B n 3 p)
theorem nm1_z {B : Int → Int} {n lo hi p : Int} (h : (nm1 B n lo hi p).1 = 0) : (nm1 B n lo hi p).2 = tX B n p := by
  have hf := fk_rng B n p
  by_cases h1 : tK B n p = 258
  · by_cases h2 : tV B n p < lo ∨ hi < tV B n p
    · rw [nm1_b h1 h2] at h; have h : (4 : Int) = 0 := h; exact absurd h (by decide)
    · rw [nm1_c h1 (by omega)]
  · rw [nm1_a h1] at h; have h : fk B n p = 0 := h; omega
end

section
set_option maxHeartbeats 40000000 in
set_option maxRecDepth 100000 in
theorem q_n_readKeys (l : Launch) (D : va_G) (k : Nat → ClassId) (A : Nat → Prop) (ad : Nat → Nat) (hD : mdD A k ad) (v : gV) (f g : gF) (B : Int → Int) (pp : Int) (hB : ∀ k, (f 0) k % 256 = B k) (hc : mAt B (v 3) (v 9) (v 10) (v 8) (v 11) ((g 0) 0) pp) (hb0 : (v 6) = 0) : GM l D k A (mdT k ad) yX11_readKeys cX11_readKeys 4 none 2 42 [.ref (ad 0)] v f g (fun r v1 f1 g1 => ∃ (w6 : Int) (w7 : Int) (w8 : Int) (w9 : Int) (w10 : Int) (w11 : Int) (w17 : Int) (a14_ : Int → Int) (a16_ : Int → Int) (b0_ : Int → Int), r = none ∧ (va_up (va_up (va_up (va_up (va_up (va_up (va_up v 6 w6) 7 w7) 8 w8) 9 w9) 10 w10) 11 w11) 17 w17) = v1 ∧ (va_up (va_up f 14 a14_) 16 a16_) = f1 ∧ (va_up g 0 b0_) = g1 ∧ (oM B (v 3) (kys B (v 3) 4 pp) w6 w7 w9 w10 w8 w11 (b0_ 0)) ∧ (w6 = 0 → w17 = kyN B (v 3) 4 pp ∧ kyM B (v 3) pp a14_ a16_ w17)) := by
  refine GM.of (by decide) (Nat.le_of_ble_eq_true rfl) ?_
  intro p e s m args below meth c Q ls hQ C hml hr hlocks hP hl
  have hx := C.1
  have hb := C.2.1
  have hok := hP.2
  have hS : va_S A s.heap s.heap [] := va_S.rf
  have hl : lv_has ls 4 [(0, .ref (ad 0))] := hl
  have hP : gWd D (mdT k ad) (va_up (va_up (va_up (va_up (va_up (va_up (va_up v 6 (v 6)) 7 (v 7)) 8 (v 8)) 9 (v 9)) 10 (v 10)) 11 (v 11)) 17 (v 17)) (va_up (va_up f 14 (f 14)) 16 (f 16)) (va_up g 0 (g 0)) s.heap := by rw [va_id, va_id, va_id, va_id, va_id, va_id, va_id, va_id, va_id, va_id]; exact hP
  have hpp : 0 ≤ pp ∧ pp ≤ (v 3) := hc.of.2.1
  have r_1 : 0 ≤ (v 9) ∧ (v 9) ≤ 700 := hok.1 9
  have r_2 : 0 ≤ (v 10) ∧ (v 10) ≤ 700 := hok.1 10
  have r_3 : 0 ≤ (v 3) ∧ (v 3) ≤ 700 := hok.1 3
  have r_4 : 0 ≤ (v 8) ∧ (v 8) ≤ 4 := hok.1 8
  have r_5 : 0 ≤ (v 6) ∧ (v 6) ≤ 5 := hok.1 6
  have r_6 : 0 ≤ (v 17) ∧ (v 17) ≤ 4 := hok.1 17
  refine lv_aload_n hx hb dX11_readKeys_0 rfl (lv_at hl 0 rfl) ?_
  refine lv_iconst (v := iI 0) hx hb dX11_readKeys_1 rfl ?_
  refine mdP_newKeys (v1 := (va_up (va_up (va_up (va_up (va_up (va_up (va_up v 6 (v 6)) 7 (v 7)) 8 (v 8)) 9 (v 9)) 10 (v 10)) 11 (v 11)) 17 0)) C hP hD hS mF_X11_214 (by decide) rfl (Or.inr (gF_up (V := mdV) (F := mdF) (gF_up (V := mdV) (F := mdF) (gR_up (V := mdV) (F := mdF) (gR_up (V := mdV) (F := mdF) (gR_up (V := mdV) (F := mdF) (gR_up (V := mdV) (F := mdF) (gR_up (V := mdV) (F := mdF) (gR_up (V := mdV) (F := mdF) (gR_up (V := mdV) (F := mdF) ⟨hok.1, hok.2⟩ 6 (hP.2.1 6)) 7 (hP.2.1 7)) 8 (hP.2.1 8)) 9 (hP.2.1 9)) 10 (hP.2.1 10)) 11 (hP.2.1 11)) 17 (show 0 ≤ 0 ∧ 0 ≤ 4 from by decide)) 14 (hP.2.2 14)) 16 (hP.2.2 16))) dX11_readKeys_2 (fun H locs hP hS => ?_)
  refine lv_iconst (v := iI 1) hx hb dX11_readKeys_5 rfl ?_
  refine lv_istore_n (lv' := [(1, .int (iI 1)), (0, .ref (ad 0))]) hx hb dX11_readKeys_6 rfl hl (by decide) rfl (fun ls hl => ?_)
  have L_7 : ∀ (n : Nat) (x1 : Int) (qq : Int) (y6_7 : Int) (y7_7 : Int) (y8_7 : Int) (y9_7 : Int) (y10_7 : Int) (y11_7 : Int) (y17_7 : Int) (c14_7 : Int → Int) (c16_7 : Int → Int) (d0_7 : Int → Int) (H : Heap) (locs : List Loc) (ls : Array Slot), (v 3) - qq < (n : Int) → ((0 ≤ x1 ∧ x1 ≤ 1) ∧ 0 ≤ qq ∧ qq ≤ (v 3)) → (mAt B (v 3) y9_7 y10_7 y8_7 y11_7 (d0_7 0) qq) → (y6_7 = 0) → (x1 = 1 → kys B (v 3) (4 - y17_7).toNat qq = (kys B (v 3) 4 pp)) → (x1 = 0 → (kys B (v 3) 4 pp) = (0, qq)) → (x1 = 1 → qq = kyP B (v 3) y17_7.toNat pp) → (x1 = 1 → y17_7 + kyN B (v 3) (4 - y17_7).toNat qq = kyN B (v 3) 4 pp) → (x1 = 0 → y17_7 = kyN B (v 3) 4 pp) → (kyM B (v 3) pp c14_7 c16_7 y17_7) → gWd D (mdT k ad) (va_up (va_up (va_up (va_up (va_up (va_up (va_up v 6 y6_7) 7 y7_7) 8 y8_7) 9 y9_7) 10 y10_7) 11 y11_7) 17 y17_7) (va_up (va_up f 14 c14_7) 16 c16_7) (va_up g 0 d0_7) H → va_S A s.heap H locs → lv_has ls 4 [(0, .ref (ad 0)), (1, .int (iI x1))] → W p l e (gRm 2 42) s m args below meth c H locs 0 0 Q (F0 m 7 ls []) := by
    intro n
    induction n with
    | zero =>
      intro x1 qq y6_7 y7_7 y8_7 y9_7 y10_7 y11_7 y17_7 c14_7 c16_7 d0_7 H locs ls hn_7 i7_0 i7_1 i7_2 i7_3 i7_4 i7_5 i7_6 i7_7 i7_8 hP hS hl
      have ry6_7 : 0 ≤ y6_7 ∧ y6_7 ≤ 5 := hP.2.1 6
      have ry7_7 : 0 ≤ y7_7 ∧ y7_7 ≤ 700 := hP.2.1 7
      have ry8_7 : 0 ≤ y8_7 ∧ y8_7 ≤ 4 := hP.2.1 8
      have ry9_7 : 0 ≤ y9_7 ∧ y9_7 ≤ 700 := hP.2.1 9
      have ry10_7 : 0 ≤ y10_7 ∧ y10_7 ≤ 700 := hP.2.1 10
      have ry11_7 : 0 ≤ y11_7 ∧ y11_7 ≤ 999999 := hP.2.1 11
      have ry17_7 : 0 ≤ y17_7 ∧ y17_7 ≤ 4 := hP.2.1 17
      exfalso; omega
    | succ n ih_7 =>
      intro x1 qq y6_7 y7_7 y8_7 y9_7 y10_7 y11_7 y17_7 c14_7 c16_7 d0_7 H locs ls hn_7 i7_0 i7_1 i7_2 i7_3 i7_4 i7_5 i7_6 i7_7 i7_8 hP hS hl
      have ry6_7 : 0 ≤ y6_7 ∧ y6_7 ≤ 5 := hP.2.1 6
      have ry7_7 : 0 ≤ y7_7 ∧ y7_7 ≤ 700 := hP.2.1 7
      have ry8_7 : 0 ≤ y8_7 ∧ y8_7 ≤ 4 := hP.2.1 8
      have ry9_7 : 0 ≤ y9_7 ∧ y9_7 ≤ 700 := hP.2.1 9
      have ry10_7 : 0 ≤ y10_7 ∧ y10_7 ≤ 700 := hP.2.1 10
      have ry11_7 : 0 ≤ y11_7 ∧ y11_7 ≤ 999999 := hP.2.1 11
      have ry17_7 : 0 ≤ y17_7 ∧ y17_7 ≤ 4 := hP.2.1 17
      have hC1 := Bx.mk i7_5
      have hC2 := Bx.mk i7_6
      have hC3 := Bx.mk i7_7
      have hC4 := Bx.mk i7_8
      clear i7_5 i7_6 i7_7 i7_8
      have hM := i7_1
      have hJ3 := Bx.mk i7_3
      have hJ4 := Bx.mk i7_4
      clear i7_3 i7_4
      have hat : y9_7 = qq := hM.of.1
      have hle := hM.le
      have hfk := fk_rng B (v 3) qq
      have hfk2 := fk_rng B (v 3) (tX B (v 3) qq)
      refine lv_iload_n hx hb dX11_readKeys_7 rfl (lv_at hl 1 rfl) ?_
      refine gi_zeq (tgt := 259) hx hb dX11_readKeys_8 (by decide) (by omega) (fun c_8 => ?_) (fun c_8 => ?_)
      · exact g_vret hQ C hr hlocks hP hS dX11_readKeys_259 ⟨y6_7, y7_7, y8_7, y9_7, y10_7, y11_7, y17_7, c14_7, c16_7, d0_7, rfl, rfl, rfl, rfl, (by first | exact oM_ok (hJ4.get (by omega)) (by omega) hM | (exfalso; omega)), (by first | (exfalso; omega) | exact fun _ => ⟨hC3.get (by omega), hC4.get⟩)⟩
      · refine lv_aload_n hx hb dX11_readKeys_11 rfl (lv_at hl 0 rfl) ?_
        refine mdG_bad C hP mF_X11_188 dX11_readKeys_12 ?_
        show W p l e (gRm 2 42) s m args below meth c _ _ 0 0 Q (F0 m 15 ls [.int (iI y6_7)])
        have r_9 : 0 ≤ y6_7 ∧ y6_7 ≤ 5 := hP.2.1 6
        refine gi_zne (tgt := 259) hx hb dX11_readKeys_15 (by decide) (by omega) (fun c_10 => ?_) (fun c_10 => ?_)
        · exact g_vret hQ C hr hlocks hP hS dX11_readKeys_259 ⟨y6_7, y7_7, y8_7, y9_7, y10_7, y11_7, y17_7, c14_7, c16_7, d0_7, rfl, rfl, rfl, rfl, (by first | exact oM_ok (hJ4.get (by omega)) (by omega) hM | (exfalso; omega)), (by first | (exfalso; omega) | exact fun _ => ⟨hC3.get (by omega), hC4.get⟩)⟩
        · refine lv_aload_n hx hb dX11_readKeys_18 rfl (lv_at hl 0 rfl) ?_
          refine lv_bipush (v := iI 117) hx hb dX11_readKeys_19 (by decide) ?_
          refine lv_bipush (v := iI 112) hx hb dX11_readKeys_21 (by decide) ?_
          refine lv_iconst (v := iI 0) hx hb dX11_readKeys_23 rfl ?_
          refine lv_iconst (v := iI 0) hx hb dX11_readKeys_24 rfl ?_
          refine lv_iconst (v := iI 0) hx hb dX11_readKeys_25 rfl ?_
          refine lv_iconst (v := iI 0) hx hb dX11_readKeys_26 rfl ?_
          refine lv_iconst (v := iI 0) hx hb dX11_readKeys_27 rfl ?_
          refine g_cs (As := [.int (iI 117), .int (iI 112), .int (iI 0), .int (iI 0), .int (iI 0), .int (iI 0), .int (iI 0)]) (rest := [.ref (ad 0)]) (n := 7) C hml (n_spelled l D k A ad hD (va_up (va_up (va_up (va_up (va_up (va_up (va_up v 6 y6_7) 7 y7_7) 8 y8_7) 9 y9_7) 10 y10_7) 11 y11_7) 17 y17_7) (va_up (va_up f 14 c14_7) 16 c16_7) (va_up g 0 d0_7) 117 112 0 0 0 0 0 (by decide) (by decide) (by decide) (by decide) (by decide) (by decide) (by decide)) mM_X11_228 mS_X11_spelled mN_X11 mC_X11_spelled (by decide +kernel) hP hS (fun _ h => h) ⟨Nat.le_of_ble_eq_true rfl, Nat.le_of_ble_eq_true rfl⟩ ⟨Nat.zero_le _, Nat.zero_le _⟩ hl.1 rfl rfl (Nat.le_of_ble_eq_true rfl) dX11_readKeys_28 (fun r_11 v_11 f_11 g_11 H locs hq_11 hP _ hS => ?_)
          obtain ⟨z_11, rfl, rfl, rfl, rfl, p0_11⟩ := hq_11
          show W p l e (gRm 2 42) s m args below meth c _ _ 0 0 Q (F0 m 31 ls [.long (iL z_11), .ref (ad 0)])
          replace p0_11 : z_11 = (spW (117 : Int) (112 : Int) (0 : Int) (0 : Int) (0 : Int) (0 : Int) (0 : Int)) := p0_11
          have hsp := p0_11
          clear p0_11
          refine g_cv (As := [.long (iL z_11)]) (rest := []) (n := 1) C hml (n_isW l D k A ad hD (va_up (va_up (va_up (va_up (va_up (va_up (va_up v 6 y6_7) 7 y7_7) 8 y8_7) 9 y9_7) 10 y10_7) 11 y11_7) 17 y17_7) (va_up (va_up f 14 c14_7) 16 c16_7) (va_up g 0 d0_7) z_11 B qq 6 (show mAt B (v 3) y9_7 y10_7 y8_7 y11_7 (d0_7 0) qq from hM) (show z_11 = hW 6 ∧ 6 < 18 from ⟨by rw [hsp]; decide +kernel, by decide⟩)) mM_X11_232 mI_X11_isWord mE_X11_isWord mN_X11 mC_X11_isWord (by decide +kernel) 0 (ci := 11) rfl rfl hP hS (fun _ h => h) ⟨Nat.le_of_ble_eq_true rfl, Nat.le_of_ble_eq_true rfl⟩ ⟨Nat.zero_le _, Nat.zero_le _⟩ hl.1 rfl rfl (Nat.le_of_ble_eq_true rfl) dX11_readKeys_31 (fun r_12 v_12 f_12 g_12 H locs hq_12 hP _ hS => ?_)
          obtain ⟨z_12, rfl, rfl, rfl, rfl, p0_12, p1_12⟩ := hq_12
          show W p l e (gRm 2 42) s m args below meth c _ _ 0 0 Q (F0 m 34 ls [.int (iI z_12)])
          replace p0_12 : 0 ≤ z_12 ∧ z_12 ≤ 1 := p0_12
          replace p1_12 : z_12 = 1 ↔ (tK B (v 3) qq) = 260 + (6 : Int) := p1_12
          refine lv_istore_n (lv' := [(2, .int (iI z_12)), (0, .ref (ad 0)), (1, .int (iI x1))]) hx hb dX11_readKeys_34 rfl hl (by decide) rfl (fun ls hl => ?_)
          refine lv_iload_n hx hb dX11_readKeys_35 rfl (lv_at hl 0 rfl) ?_
          refine gi_zne (tgt := 67) hx hb dX11_readKeys_36 (by decide) (by omega) (fun c_13 => ?_) (fun c_13 => ?_)
          · have v_12 := p1_12.mp (show z_12 = 1 by omega)
            clear p1_12
            refine lv_aload_n hx hb dX11_readKeys_67 rfl (lv_at hl 1 rfl) ?_
            refine mdG_newKeys C hP mF_X11_214 dX11_readKeys_68 ?_
            show W p l e (gRm 2 42) s m args below meth c _ _ 0 0 Q (F0 m 71 ls [.int (iI y17_7)])
            have r_14 : 0 ≤ y17_7 ∧ y17_7 ≤ 4 := hP.2.1 17
            refine lv_iconst (v := iI 4) hx hb dX11_readKeys_71 rfl ?_
            refine gi_cne (tgt := 84) hx hb dX11_readKeys_72 (by decide) (by omega) (by decide) (fun c_15 => ?_) (fun c_15 => ?_)
            · refine lv_aload_n hx hb dX11_readKeys_84 rfl (lv_at hl 1 rfl) ?_
              refine mdG_bad C hP mF_X11_188 dX11_readKeys_85 ?_
              show W p l e (gRm 2 42) s m args below meth c _ _ 0 0 Q (F0 m 88 ls [.int (iI y6_7)])
              refine gi_zle (tgt := 92) hx hb dX11_readKeys_88 (by decide) (by omega) (fun c_16 => ?_) (fun c_16 => ?_)
              · refine lv_aload_n hx hb dX11_readKeys_92 rfl (lv_at hl 1 rfl) ?_
                refine g_cv (As := []) (rest := []) (n := 0) C hml (n_next l D k A ad hD (va_up (va_up (va_up (va_up (va_up (va_up (va_up v 6 y6_7) 7 y7_7) 8 y8_7) 9 y9_7) 10 y10_7) 11 y11_7) 17 y17_7) (va_up (va_up f 14 c14_7) 16 c16_7) (va_up g 0 d0_7) B (show ∀ k, (f 0) k % 256 = B k from hB) (show 0 ≤ y10_7 ∧ y10_7 ≤ (v 3) from by omega)) mM_X11_201 mI_X11_next mE_X11_next mN_X11 mC_X11_next (by decide +kernel) 0 (ci := 11) rfl rfl hP hS (fun _ h => h) ⟨Nat.le_of_ble_eq_true rfl, Nat.le_of_ble_eq_true rfl⟩ ⟨Nat.zero_le _, Nat.zero_le _⟩ hl.1 rfl rfl (Nat.le_of_ble_eq_true rfl) dX11_readKeys_93 (fun r_17 v_17 f_17 g_17 H locs hq_17 hP _ hS => ?_)
                obtain ⟨w8_17, w9_17, w10_17, w11_17, b0_17, rfl, rfl, rfl, rfl, p0_17⟩ := hq_17
                show W p l e (gRm 2 42) s m args below meth c _ _ 0 0 Q (F0 m 96 ls [])
                have hP : gWd D (mdT k ad) (va_up (va_up (va_up (va_up (va_up (va_up (va_up v 6 y6_7) 7 y7_7) 8 w8_17) 9 w9_17) 10 w10_17) 11 w11_17) 17 y17_7) (va_up (va_up f 14 c14_7) 16 c16_7) (va_up g 0 b0_17) H := ⟨hP.1, (gF_up (V := mdV) (F := mdF) (gF_up (V := mdV) (F := mdF) (gR_up (V := mdV) (F := mdF) (gR_up (V := mdV) (F := mdF) (gR_up (V := mdV) (F := mdF) (gR_up (V := mdV) (F := mdF) (gR_up (V := mdV) (F := mdF) (gR_up (V := mdV) (F := mdF) (gR_up (V := mdV) (F := mdF) ⟨hok.1, hok.2⟩ 6 (hP.2.1 6)) 7 (hP.2.1 7)) 8 (hP.2.1 8)) 9 (hP.2.1 9)) 10 (hP.2.1 10)) 11 (hP.2.1 11)) 17 (hP.2.1 17)) 14 (hP.2.2 14)) 16 (hP.2.2 16))⟩
                replace p0_17 : mAt B (v 3) w9_17 w10_17 w8_17 w11_17 (b0_17 0) (run bW B (v 3) y10_7) := p0_17
                have rw8_17 : 0 ≤ w8_17 ∧ w8_17 ≤ 4 := hP.2.1 8
                have rw9_17 : 0 ≤ w9_17 ∧ w9_17 ≤ 700 := hP.2.1 9
                have rw10_17 : 0 ≤ w10_17 ∧ w10_17 ≤ 700 := hP.2.1 10
                have rw11_17 : 0 ≤ w11_17 ∧ w11_17 ≤ 999999 := hP.2.1 11
                have hN1 : mAt B (v 3) w9_17 w10_17 w8_17 w11_17 (b0_17 0) (tX B (v 3) qq) := by have h := p0_17; rw [hM.bh] at h; exact h
                clear p0_17
                have hu1 := tX_up (B := B) (n := (v 3)) (q := qq) (by have h9 := (not_congr (tK_end (B := B) (n := (v 3)) (q := qq))).mp (by omega); omega)
                have hle1 := hN1.le
                refine lv_aload_n hx hb dX11_readKeys_96 rfl (lv_at hl 1 rfl) ?_
                refine lv_bipush (v := iI 115) hx hb dX11_readKeys_97 (by decide) ?_
                refine lv_bipush (v := iI 117) hx hb dX11_readKeys_99 (by decide) ?_
                refine lv_bipush (v := iI 109) hx hb dX11_readKeys_101 (by decide) ?_
                refine lv_iconst (v := iI 0) hx hb dX11_readKeys_103 rfl ?_
                refine lv_iconst (v := iI 0) hx hb dX11_readKeys_104 rfl ?_
                refine lv_iconst (v := iI 0) hx hb dX11_readKeys_105 rfl ?_
                refine lv_iconst (v := iI 0) hx hb dX11_readKeys_106 rfl ?_
                refine g_cs (As := [.int (iI 115), .int (iI 117), .int (iI 109), .int (iI 0), .int (iI 0), .int (iI 0), .int (iI 0)]) (rest := [.ref (ad 0)]) (n := 7) C hml (n_spelled l D k A ad hD (va_up (va_up (va_up (va_up (va_up (va_up (va_up v 6 y6_7) 7 y7_7) 8 w8_17) 9 w9_17) 10 w10_17) 11 w11_17) 17 y17_7) (va_up (va_up f 14 c14_7) 16 c16_7) (va_up g 0 b0_17) 115 117 109 0 0 0 0 (by decide) (by decide) (by decide) (by decide) (by decide) (by decide) (by decide)) mM_X11_228 mS_X11_spelled mN_X11 mC_X11_spelled (by decide +kernel) hP hS (fun _ h => h) ⟨Nat.le_of_ble_eq_true rfl, Nat.le_of_ble_eq_true rfl⟩ ⟨Nat.zero_le _, Nat.zero_le _⟩ hl.1 rfl rfl (Nat.le_of_ble_eq_true rfl) dX11_readKeys_107 (fun r_18 v_18 f_18 g_18 H locs hq_18 hP _ hS => ?_)
                obtain ⟨z_18, rfl, rfl, rfl, rfl, p0_18⟩ := hq_18
                show W p l e (gRm 2 42) s m args below meth c _ _ 0 0 Q (F0 m 110 ls [.long (iL z_18), .ref (ad 0)])
                replace p0_18 : z_18 = (spW (115 : Int) (117 : Int) (109 : Int) (0 : Int) (0 : Int) (0 : Int) (0 : Int)) := p0_18
                have hsp := p0_18
                clear p0_18
                refine g_cv (As := [.long (iL z_18)]) (rest := []) (n := 1) C hml (n_isW l D k A ad hD (va_up (va_up (va_up (va_up (va_up (va_up (va_up v 6 y6_7) 7 y7_7) 8 w8_17) 9 w9_17) 10 w10_17) 11 w11_17) 17 y17_7) (va_up (va_up f 14 c14_7) 16 c16_7) (va_up g 0 b0_17) z_18 B (tX B (v 3) qq) 8 (show mAt B (v 3) w9_17 w10_17 w8_17 w11_17 (b0_17 0) (tX B (v 3) qq) from hN1) (show z_18 = hW 8 ∧ 8 < 18 from ⟨by rw [hsp]; decide +kernel, by decide⟩)) mM_X11_232 mI_X11_isWord mE_X11_isWord mN_X11 mC_X11_isWord (by decide +kernel) 0 (ci := 11) rfl rfl hP hS (fun _ h => h) ⟨Nat.le_of_ble_eq_true rfl, Nat.le_of_ble_eq_true rfl⟩ ⟨Nat.zero_le _, Nat.zero_le _⟩ hl.1 rfl rfl (Nat.le_of_ble_eq_true rfl) dX11_readKeys_110 (fun r_19 v_19 f_19 g_19 H locs hq_19 hP _ hS => ?_)
                obtain ⟨z_19, rfl, rfl, rfl, rfl, p0_19, p1_19⟩ := hq_19
                show W p l e (gRm 2 42) s m args below meth c _ _ 0 0 Q (F0 m 113 ls [.int (iI z_19)])
                replace p0_19 : 0 ≤ z_19 ∧ z_19 ≤ 1 := p0_19
                replace p1_19 : z_19 = 1 ↔ (tK B (v 3) (tX B (v 3) qq)) = 260 + (8 : Int) := p1_19
                refine gi_zeq (tgt := 120) hx hb dX11_readKeys_113 (by decide) (by omega) (fun c_20 => ?_) (fun c_20 => ?_)
                · have v_19 := mt p1_19.mpr (show ¬ z_19 = 1 by omega)
                  clear p1_19
                  refine lv_aload_n hx hb dX11_readKeys_120 rfl (lv_at hl 1 rfl) ?_
                  refine lv_bipush (v := iI 109) hx hb dX11_readKeys_121 (by decide) ?_
                  refine lv_bipush (v := iI 111) hx hb dX11_readKeys_123 (by decide) ?_
                  refine lv_bipush (v := iI 115) hx hb dX11_readKeys_125 (by decide) ?_
                  refine lv_bipush (v := iI 116) hx hb dX11_readKeys_127 (by decide) ?_
                  refine lv_iconst (v := iI 0) hx hb dX11_readKeys_129 rfl ?_
                  refine lv_iconst (v := iI 0) hx hb dX11_readKeys_130 rfl ?_
                  refine lv_iconst (v := iI 0) hx hb dX11_readKeys_131 rfl ?_
                  refine g_cs (As := [.int (iI 109), .int (iI 111), .int (iI 115), .int (iI 116), .int (iI 0), .int (iI 0), .int (iI 0)]) (rest := [.ref (ad 0)]) (n := 7) C hml (n_spelled l D k A ad hD (va_up (va_up (va_up (va_up (va_up (va_up (va_up v 6 y6_7) 7 y7_7) 8 w8_17) 9 w9_17) 10 w10_17) 11 w11_17) 17 y17_7) (va_up (va_up f 14 c14_7) 16 c16_7) (va_up g 0 b0_17) 109 111 115 116 0 0 0 (by decide) (by decide) (by decide) (by decide) (by decide) (by decide) (by decide)) mM_X11_228 mS_X11_spelled mN_X11 mC_X11_spelled (by decide +kernel) hP hS (fun _ h => h) ⟨Nat.le_of_ble_eq_true rfl, Nat.le_of_ble_eq_true rfl⟩ ⟨Nat.zero_le _, Nat.zero_le _⟩ hl.1 rfl rfl (Nat.le_of_ble_eq_true rfl) dX11_readKeys_132 (fun r_21 v_21 f_21 g_21 H locs hq_21 hP _ hS => ?_)
                  obtain ⟨z_21, rfl, rfl, rfl, rfl, p0_21⟩ := hq_21
                  show W p l e (gRm 2 42) s m args below meth c _ _ 0 0 Q (F0 m 135 ls [.long (iL z_21), .ref (ad 0)])
                  replace p0_21 : z_21 = (spW (109 : Int) (111 : Int) (115 : Int) (116 : Int) (0 : Int) (0 : Int) (0 : Int)) := p0_21
                  have hsp := p0_21
                  clear p0_21
                  refine g_cv (As := [.long (iL z_21)]) (rest := []) (n := 1) C hml (n_isW l D k A ad hD (va_up (va_up (va_up (va_up (va_up (va_up (va_up v 6 y6_7) 7 y7_7) 8 w8_17) 9 w9_17) 10 w10_17) 11 w11_17) 17 y17_7) (va_up (va_up f 14 c14_7) 16 c16_7) (va_up g 0 b0_17) z_21 B (tX B (v 3) qq) 9 (show mAt B (v 3) w9_17 w10_17 w8_17 w11_17 (b0_17 0) (tX B (v 3) qq) from hN1) (show z_21 = hW 9 ∧ 9 < 18 from ⟨by rw [hsp]; decide +kernel, by decide⟩)) mM_X11_232 mI_X11_isWord mE_X11_isWord mN_X11 mC_X11_isWord (by decide +kernel) 0 (ci := 11) rfl rfl hP hS (fun _ h => h) ⟨Nat.le_of_ble_eq_true rfl, Nat.le_of_ble_eq_true rfl⟩ ⟨Nat.zero_le _, Nat.zero_le _⟩ hl.1 rfl rfl (Nat.le_of_ble_eq_true rfl) dX11_readKeys_135 (fun r_22 v_22 f_22 g_22 H locs hq_22 hP _ hS => ?_)
                  obtain ⟨z_22, rfl, rfl, rfl, rfl, p0_22, p1_22⟩ := hq_22
                  show W p l e (gRm 2 42) s m args below meth c _ _ 0 0 Q (F0 m 138 ls [.int (iI z_22)])
                  replace p0_22 : 0 ≤ z_22 ∧ z_22 ≤ 1 := p0_22
                  replace p1_22 : z_22 = 1 ↔ (tK B (v 3) (tX B (v 3) qq)) = 260 + (9 : Int) := p1_22
                  refine gi_zeq (tgt := 145) hx hb dX11_readKeys_138 (by decide) (by omega) (fun c_23 => ?_) (fun c_23 => ?_)
                  · have v_22 := mt p1_22.mpr (show ¬ z_22 = 1 by omega)
                    clear p1_22
                    refine lv_aload_n hx hb dX11_readKeys_145 rfl (lv_at hl 1 rfl) ?_
                    refine lv_bipush (v := iI 116) hx hb dX11_readKeys_146 (by decide) ?_
                    refine lv_bipush (v := iI 111) hx hb dX11_readKeys_148 (by decide) ?_
                    refine lv_bipush (v := iI 112) hx hb dX11_readKeys_150 (by decide) ?_
                    refine lv_bipush (v := iI 115) hx hb dX11_readKeys_152 (by decide) ?_
                    refine lv_iconst (v := iI 0) hx hb dX11_readKeys_154 rfl ?_
                    refine lv_iconst (v := iI 0) hx hb dX11_readKeys_155 rfl ?_
                    refine lv_iconst (v := iI 0) hx hb dX11_readKeys_156 rfl ?_
                    refine g_cs (As := [.int (iI 116), .int (iI 111), .int (iI 112), .int (iI 115), .int (iI 0), .int (iI 0), .int (iI 0)]) (rest := [.ref (ad 0)]) (n := 7) C hml (n_spelled l D k A ad hD (va_up (va_up (va_up (va_up (va_up (va_up (va_up v 6 y6_7) 7 y7_7) 8 w8_17) 9 w9_17) 10 w10_17) 11 w11_17) 17 y17_7) (va_up (va_up f 14 c14_7) 16 c16_7) (va_up g 0 b0_17) 116 111 112 115 0 0 0 (by decide) (by decide) (by decide) (by decide) (by decide) (by decide) (by decide)) mM_X11_228 mS_X11_spelled mN_X11 mC_X11_spelled (by decide +kernel) hP hS (fun _ h => h) ⟨Nat.le_of_ble_eq_true rfl, Nat.le_of_ble_eq_true rfl⟩ ⟨Nat.zero_le _, Nat.zero_le _⟩ hl.1 rfl rfl (Nat.le_of_ble_eq_true rfl) dX11_readKeys_157 (fun r_24 v_24 f_24 g_24 H locs hq_24 hP _ hS => ?_)
                    obtain ⟨z_24, rfl, rfl, rfl, rfl, p0_24⟩ := hq_24
                    show W p l e (gRm 2 42) s m args below meth c _ _ 0 0 Q (F0 m 160 ls [.long (iL z_24), .ref (ad 0)])
                    replace p0_24 : z_24 = (spW (116 : Int) (111 : Int) (112 : Int) (115 : Int) (0 : Int) (0 : Int) (0 : Int)) := p0_24
                    have hsp := p0_24
                    clear p0_24
                    refine g_cv (As := [.long (iL z_24)]) (rest := []) (n := 1) C hml (n_isW l D k A ad hD (va_up (va_up (va_up (va_up (va_up (va_up (va_up v 6 y6_7) 7 y7_7) 8 w8_17) 9 w9_17) 10 w10_17) 11 w11_17) 17 y17_7) (va_up (va_up f 14 c14_7) 16 c16_7) (va_up g 0 b0_17) z_24 B (tX B (v 3) qq) 10 (show mAt B (v 3) w9_17 w10_17 w8_17 w11_17 (b0_17 0) (tX B (v 3) qq) from hN1) (show z_24 = hW 10 ∧ 10 < 18 from ⟨by rw [hsp]; decide +kernel, by decide⟩)) mM_X11_232 mI_X11_isWord mE_X11_isWord mN_X11 mC_X11_isWord (by decide +kernel) 0 (ci := 11) rfl rfl hP hS (fun _ h => h) ⟨Nat.le_of_ble_eq_true rfl, Nat.le_of_ble_eq_true rfl⟩ ⟨Nat.zero_le _, Nat.zero_le _⟩ hl.1 rfl rfl (Nat.le_of_ble_eq_true rfl) dX11_readKeys_160 (fun r_25 v_25 f_25 g_25 H locs hq_25 hP _ hS => ?_)
                    obtain ⟨z_25, rfl, rfl, rfl, rfl, p0_25, p1_25⟩ := hq_25
                    show W p l e (gRm 2 42) s m args below meth c _ _ 0 0 Q (F0 m 163 ls [.int (iI z_25)])
                    replace p0_25 : 0 ≤ z_25 ∧ z_25 ≤ 1 := p0_25
                    replace p1_25 : z_25 = 1 ↔ (tK B (v 3) (tX B (v 3) qq)) = 260 + (10 : Int) := p1_25
                    refine gi_zeq (tgt := 170) hx hb dX11_readKeys_163 (by decide) (by omega) (fun c_26 => ?_) (fun c_26 => ?_)
                    · have v_25 := mt p1_25.mpr (show ¬ z_25 = 1 by omega)
                      clear p1_25
                      refine lv_aload_n hx hb dX11_readKeys_170 rfl (lv_at hl 1 rfl) ?_
                      refine lv_bipush (v := iI 122) hx hb dX11_readKeys_171 (by decide) ?_
                      refine lv_bipush (v := iI 111) hx hb dX11_readKeys_173 (by decide) ?_
                      refine lv_bipush (v := iI 110) hx hb dX11_readKeys_175 (by decide) ?_
                      refine lv_bipush (v := iI 101) hx hb dX11_readKeys_177 (by decide) ?_
                      refine lv_bipush (v := iI 115) hx hb dX11_readKeys_179 (by decide) ?_
                      refine lv_iconst (v := iI 0) hx hb dX11_readKeys_181 rfl ?_
                      refine lv_iconst (v := iI 0) hx hb dX11_readKeys_182 rfl ?_
                      refine g_cs (As := [.int (iI 122), .int (iI 111), .int (iI 110), .int (iI 101), .int (iI 115), .int (iI 0), .int (iI 0)]) (rest := [.ref (ad 0)]) (n := 7) C hml (n_spelled l D k A ad hD (va_up (va_up (va_up (va_up (va_up (va_up (va_up v 6 y6_7) 7 y7_7) 8 w8_17) 9 w9_17) 10 w10_17) 11 w11_17) 17 y17_7) (va_up (va_up f 14 c14_7) 16 c16_7) (va_up g 0 b0_17) 122 111 110 101 115 0 0 (by decide) (by decide) (by decide) (by decide) (by decide) (by decide) (by decide)) mM_X11_228 mS_X11_spelled mN_X11 mC_X11_spelled (by decide +kernel) hP hS (fun _ h => h) ⟨Nat.le_of_ble_eq_true rfl, Nat.le_of_ble_eq_true rfl⟩ ⟨Nat.zero_le _, Nat.zero_le _⟩ hl.1 rfl rfl (Nat.le_of_ble_eq_true rfl) dX11_readKeys_183 (fun r_27 v_27 f_27 g_27 H locs hq_27 hP _ hS => ?_)
                      obtain ⟨z_27, rfl, rfl, rfl, rfl, p0_27⟩ := hq_27
                      show W p l e (gRm 2 42) s m args below meth c _ _ 0 0 Q (F0 m 186 ls [.long (iL z_27), .ref (ad 0)])
                      replace p0_27 : z_27 = (spW (122 : Int) (111 : Int) (110 : Int) (101 : Int) (115 : Int) (0 : Int) (0 : Int)) := p0_27
                      have hsp := p0_27
                      clear p0_27
                      refine g_cv (As := [.long (iL z_27)]) (rest := []) (n := 1) C hml (n_isW l D k A ad hD (va_up (va_up (va_up (va_up (va_up (va_up (va_up v 6 y6_7) 7 y7_7) 8 w8_17) 9 w9_17) 10 w10_17) 11 w11_17) 17 y17_7) (va_up (va_up f 14 c14_7) 16 c16_7) (va_up g 0 b0_17) z_27 B (tX B (v 3) qq) 11 (show mAt B (v 3) w9_17 w10_17 w8_17 w11_17 (b0_17 0) (tX B (v 3) qq) from hN1) (show z_27 = hW 11 ∧ 11 < 18 from ⟨by rw [hsp]; decide +kernel, by decide⟩)) mM_X11_232 mI_X11_isWord mE_X11_isWord mN_X11 mC_X11_isWord (by decide +kernel) 0 (ci := 11) rfl rfl hP hS (fun _ h => h) ⟨Nat.le_of_ble_eq_true rfl, Nat.le_of_ble_eq_true rfl⟩ ⟨Nat.zero_le _, Nat.zero_le _⟩ hl.1 rfl rfl (Nat.le_of_ble_eq_true rfl) dX11_readKeys_186 (fun r_28 v_28 f_28 g_28 H locs hq_28 hP _ hS => ?_)
                      obtain ⟨z_28, rfl, rfl, rfl, rfl, p0_28, p1_28⟩ := hq_28
                      show W p l e (gRm 2 42) s m args below meth c _ _ 0 0 Q (F0 m 189 ls [.int (iI z_28)])
                      replace p0_28 : 0 ≤ z_28 ∧ z_28 ≤ 1 := p0_28
                      replace p1_28 : z_28 = 1 ↔ (tK B (v 3) (tX B (v 3) qq)) = 260 + (11 : Int) := p1_28
                      refine gi_zeq (tgt := 196) hx hb dX11_readKeys_189 (by decide) (by omega) (fun c_29 => ?_) (fun c_29 => ?_)
                      · have v_28 := mt p1_28.mpr (show ¬ z_28 = 1 by omega)
                        clear p1_28
                        refine lv_iconst (v := iI (-1)) hx hb dX11_readKeys_196 rfl ?_
                        refine lv_istore_n (lv' := [(3, .int (iI (-1))), (2, .int (iI z_12)), (0, .ref (ad 0)), (1, .int (iI x1))]) hx hb dX11_readKeys_197 rfl hl (by decide) rfl (fun ls hl => ?_)
                        refine lv_iload_n hx hb dX11_readKeys_198 rfl (lv_at hl 0 rfl) ?_
                        refine gi_zge (tgt := 207) hx hb dX11_readKeys_199 (by decide) (by decide) (fun c_30 => ?_) (fun c_30 => ?_)
                        · exfalso; omega
                        · refine lv_aload_n hx hb dX11_readKeys_202 rfl (lv_at hl 2 rfl) ?_
                          refine g_cv (As := []) (rest := []) (n := 0) C hml (n_wrC l D k A ad hD (va_up (va_up (va_up (va_up (va_up (va_up (va_up v 6 y6_7) 7 y7_7) 8 w8_17) 9 w9_17) 10 w10_17) 11 w11_17) 17 y17_7) (va_up (va_up f 14 c14_7) 16 c16_7) (va_up g 0 b0_17) B (tX B (v 3) qq) (show mAt B (v 3) w9_17 w10_17 w8_17 w11_17 (b0_17 0) (tX B (v 3) qq) from hN1)) mM_X11_198 mI_X11_wrong mE_X11_wrong mN_X11 mC_X11_wrong (by decide +kernel) 0 (ci := 11) rfl rfl hP hS (fun _ h => h) ⟨Nat.le_of_ble_eq_true rfl, Nat.le_of_ble_eq_true rfl⟩ ⟨Nat.zero_le _, Nat.zero_le _⟩ hl.1 rfl rfl (Nat.le_of_ble_eq_true rfl) dX11_readKeys_203 (fun r_31 v_31 f_31 g_31 H locs hq_31 hP _ hS => ?_)
                          obtain ⟨w6_31, w7_31, rfl, rfl, rfl, rfl, p0_31, p1_31⟩ := hq_31
                          show W p l e (gRm 2 42) s m args below meth c _ _ 0 0 Q (F0 m 206 ls [])
                          have hP : gWd D (mdT k ad) (va_up (va_up (va_up (va_up (va_up (va_up (va_up v 6 w6_31) 7 w7_31) 8 w8_17) 9 w9_17) 10 w10_17) 11 w11_17) 17 y17_7) (va_up (va_up f 14 c14_7) 16 c16_7) (va_up g 0 b0_17) H := ⟨hP.1, (gF_up (V := mdV) (F := mdF) (gF_up (V := mdV) (F := mdF) (gR_up (V := mdV) (F := mdF) (gR_up (V := mdV) (F := mdF) (gR_up (V := mdV) (F := mdF) (gR_up (V := mdV) (F := mdF) (gR_up (V := mdV) (F := mdF) (gR_up (V := mdV) (F := mdF) (gR_up (V := mdV) (F := mdF) ⟨hok.1, hok.2⟩ 6 (hP.2.1 6)) 7 (hP.2.1 7)) 8 (hP.2.1 8)) 9 (hP.2.1 9)) 10 (hP.2.1 10)) 11 (hP.2.1 11)) 17 (hP.2.1 17)) 14 (hP.2.2 14)) 16 (hP.2.2 16))⟩
                          replace p0_31 : y6_7 = 0 → w6_31 = (fk B (v 3) (tX B (v 3) qq)) ∧ w7_31 = (tX B (v 3) qq) := p0_31
                          replace p1_31 : 0 < y6_7 → w6_31 = y6_7 ∧ w7_31 = y7_7 := p1_31
                          have rw6_31 : 0 ≤ w6_31 ∧ w6_31 ≤ 5 := hP.2.1 6
                          have rw7_31 : 0 ≤ w7_31 ∧ w7_31 ≤ 700 := hP.2.1 7
                          first | replace p0_31 := p0_31 (by omega) | clear p0_31
                          first | replace p1_31 := p1_31 (by omega) | clear p1_31
                          exact g_vret hQ C hr hlocks hP hS dX11_readKeys_206 ⟨w6_31, w7_31, w8_17, w9_17, w10_17, w11_17, y17_7, c14_7, c16_7, b0_17, rfl, rfl, rfl, rfl, (oM_bad (by rw [← hJ3.get (by omega), kys_stop (c := y17_7) (by omega) (by omega) (Or.inl (by rw [ky1_c (by omega) (by omega) (by omega)]; show _ ≠ (0 : Int); omega))]; exact ky1_c (by omega) (by omega) (by omega)) (by omega) (by omega) hN1), (by intro h; exfalso; omega)⟩
                      · have v_28 := p1_28.mp (show z_28 = 1 by omega)
                        clear p1_28
                        refine lv_iconst (v := iI 3) hx hb dX11_readKeys_192 rfl ?_
                        refine lv_goto (tgt := 197) hx hb dX11_readKeys_193 (by decide) ?_
                        refine lv_istore_n (lv' := [(3, .int (iI 3)), (2, .int (iI z_12)), (0, .ref (ad 0)), (1, .int (iI x1))]) hx hb dX11_readKeys_197 rfl hl (by decide) rfl (fun ls hl => ?_)
                        refine lv_iload_n hx hb dX11_readKeys_198 rfl (lv_at hl 0 rfl) ?_
                        refine gi_zge (tgt := 207) hx hb dX11_readKeys_199 (by decide) (by decide) (fun c_32 => ?_) (fun c_32 => ?_)
                        · refine lv_aload_n hx hb dX11_readKeys_207 rfl (lv_at hl 2 rfl) ?_
                          refine mdG_newUp C hP mF_X11_67 dX11_readKeys_208 ?_
                          refine lv_aload_n hx hb dX11_readKeys_211 rfl (lv_at hl 2 rfl) ?_
                          refine mdG_newKeys C hP mF_X11_214 dX11_readKeys_212 ?_
                          show W p l e (gRm 2 42) s m args below meth c _ _ 0 0 Q (F0 m 215 ls [.int (iI y17_7), .ref (ad 17)])
                          refine lv_iload_n hx hb dX11_readKeys_215 rfl (lv_at hl 1 rfl) ?_
                          refine mdS_newUp (f1 := (va_up (va_up f 14 c14_7) 16 (u1 c16_7 y17_7 z_12))) C hP hD hS (by omega) (by omega) (by omega) (by omega) rfl (Or.inr (gF_up (V := mdV) (F := mdF) (gF_up (V := mdV) (F := mdF) (gR_up (V := mdV) (F := mdF) (gR_up (V := mdV) (F := mdF) (gR_up (V := mdV) (F := mdF) (gR_up (V := mdV) (F := mdF) (gR_up (V := mdV) (F := mdF) (gR_up (V := mdV) (F := mdF) (gR_up (V := mdV) (F := mdF) ⟨hok.1, hok.2⟩ 6 (hP.2.1 6)) 7 (hP.2.1 7)) 8 (hP.2.1 8)) 9 (hP.2.1 9)) 10 (hP.2.1 10)) 11 (hP.2.1 11)) 17 (hP.2.1 17)) 14 (hP.2.2 14)) 16 (u1_rng (hP.2.2 16) (show 0 ≤ z_12 ∧ z_12 ≤ 1 from (by omega))))) dX11_readKeys_216 (fun H locs hP hS => ?_)
                          refine lv_aload_n hx hb dX11_readKeys_217 rfl (lv_at hl 2 rfl) ?_
                          refine mdG_newKey C hP mF_X11_60 dX11_readKeys_218 ?_
                          refine lv_aload_n hx hb dX11_readKeys_221 rfl (lv_at hl 2 rfl) ?_
                          refine mdG_newKeys C hP mF_X11_214 dX11_readKeys_222 ?_
                          show W p l e (gRm 2 42) s m args below meth c _ _ 0 0 Q (F0 m 225 ls [.int (iI y17_7), .ref (ad 15)])
                          refine lv_iload_n hx hb dX11_readKeys_225 rfl (lv_at hl 0 rfl) ?_
                          refine mdS_newKey (f1 := (va_up (va_up f 14 (u1 c14_7 y17_7 3)) 16 (u1 c16_7 y17_7 z_12))) C hP hD hS (by omega) (by omega) (by decide) rfl (Or.inr (gF_up (V := mdV) (F := mdF) (gF_up (V := mdV) (F := mdF) (gR_up (V := mdV) (F := mdF) (gR_up (V := mdV) (F := mdF) (gR_up (V := mdV) (F := mdF) (gR_up (V := mdV) (F := mdF) (gR_up (V := mdV) (F := mdF) (gR_up (V := mdV) (F := mdF) (gR_up (V := mdV) (F := mdF) ⟨hok.1, hok.2⟩ 6 (hP.2.1 6)) 7 (hP.2.1 7)) 8 (hP.2.1 8)) 9 (hP.2.1 9)) 10 (hP.2.1 10)) 11 (hP.2.1 11)) 17 (hP.2.1 17)) 14 (u1_rng (hP.2.2 14) (show 0 ≤ 3 ∧ 3 ≤ 3 from (by decide)))) 16 (hP.2.2 16))) dX11_readKeys_226 (fun H locs hP hS => ?_)
                          refine lv_aload_n hx hb dX11_readKeys_227 rfl (lv_at hl 2 rfl) ?_
                          refine lv_dup hx hb dX11_readKeys_228 rfl ?_
                          refine mdG_newKeys C hP mF_X11_214 dX11_readKeys_229 ?_
                          show W p l e (gRm 2 42) s m args below meth c _ _ 0 0 Q (F0 m 232 ls [.int (iI y17_7), .ref (ad 0)])
                          refine lv_iconst (v := iI 1) hx hb dX11_readKeys_232 rfl ?_
                          refine gi_add (z := (y17_7 + 1)) hx hb dX11_readKeys_233 rfl ?_
                          refine mdP_newKeys (v1 := (va_up (va_up (va_up (va_up (va_up (va_up (va_up v 6 y6_7) 7 y7_7) 8 w8_17) 9 w9_17) 10 w10_17) 11 w11_17) 17 (y17_7 + 1))) C hP hD hS mF_X11_214 (by omega) rfl (Or.inr (gF_up (V := mdV) (F := mdF) (gF_up (V := mdV) (F := mdF) (gR_up (V := mdV) (F := mdF) (gR_up (V := mdV) (F := mdF) (gR_up (V := mdV) (F := mdF) (gR_up (V := mdV) (F := mdF) (gR_up (V := mdV) (F := mdF) (gR_up (V := mdV) (F := mdF) (gR_up (V := mdV) (F := mdF) ⟨hok.1, hok.2⟩ 6 (hP.2.1 6)) 7 (hP.2.1 7)) 8 (hP.2.1 8)) 9 (hP.2.1 9)) 10 (hP.2.1 10)) 11 (hP.2.1 11)) 17 (show 0 ≤ (y17_7 + 1) ∧ (y17_7 + 1) ≤ 4 from by omega)) 14 (hP.2.2 14)) 16 (hP.2.2 16))) dX11_readKeys_234 (fun H locs hP hS => ?_)
                          refine lv_aload_n hx hb dX11_readKeys_237 rfl (lv_at hl 2 rfl) ?_
                          refine g_cv (As := []) (rest := []) (n := 0) C hml (n_next l D k A ad hD (va_up (va_up (va_up (va_up (va_up (va_up (va_up v 6 y6_7) 7 y7_7) 8 w8_17) 9 w9_17) 10 w10_17) 11 w11_17) 17 (y17_7 + 1)) (va_up (va_up f 14 (u1 c14_7 y17_7 3)) 16 (u1 c16_7 y17_7 z_12)) (va_up g 0 b0_17) B (show ∀ k, (f 0) k % 256 = B k from hB) (show 0 ≤ w10_17 ∧ w10_17 ≤ (v 3) from by omega)) mM_X11_201 mI_X11_next mE_X11_next mN_X11 mC_X11_next (by decide +kernel) 0 (ci := 11) rfl rfl hP hS (fun _ h => h) ⟨Nat.le_of_ble_eq_true rfl, Nat.le_of_ble_eq_true rfl⟩ ⟨Nat.zero_le _, Nat.zero_le _⟩ hl.1 rfl rfl (Nat.le_of_ble_eq_true rfl) dX11_readKeys_238 (fun r_33 v_33 f_33 g_33 H locs hq_33 hP _ hS => ?_)
                          obtain ⟨w8_33, w9_33, w10_33, w11_33, b0_33, rfl, rfl, rfl, rfl, p0_33⟩ := hq_33
                          show W p l e (gRm 2 42) s m args below meth c _ _ 0 0 Q (F0 m 241 ls [])
                          have hP : gWd D (mdT k ad) (va_up (va_up (va_up (va_up (va_up (va_up (va_up v 6 y6_7) 7 y7_7) 8 w8_33) 9 w9_33) 10 w10_33) 11 w11_33) 17 (y17_7 + 1)) (va_up (va_up f 14 (u1 c14_7 y17_7 3)) 16 (u1 c16_7 y17_7 z_12)) (va_up g 0 b0_33) H := ⟨hP.1, (gF_up (V := mdV) (F := mdF) (gF_up (V := mdV) (F := mdF) (gR_up (V := mdV) (F := mdF) (gR_up (V := mdV) (F := mdF) (gR_up (V := mdV) (F := mdF) (gR_up (V := mdV) (F := mdF) (gR_up (V := mdV) (F := mdF) (gR_up (V := mdV) (F := mdF) (gR_up (V := mdV) (F := mdF) ⟨hok.1, hok.2⟩ 6 (hP.2.1 6)) 7 (hP.2.1 7)) 8 (hP.2.1 8)) 9 (hP.2.1 9)) 10 (hP.2.1 10)) 11 (hP.2.1 11)) 17 (hP.2.1 17)) 14 (hP.2.2 14)) 16 (hP.2.2 16))⟩
                          replace p0_33 : mAt B (v 3) w9_33 w10_33 w8_33 w11_33 (b0_33 0) (run bW B (v 3) w10_17) := p0_33
                          have rw8_33 : 0 ≤ w8_33 ∧ w8_33 ≤ 4 := hP.2.1 8
                          have rw9_33 : 0 ≤ w9_33 ∧ w9_33 ≤ 700 := hP.2.1 9
                          have rw10_33 : 0 ≤ w10_33 ∧ w10_33 ≤ 700 := hP.2.1 10
                          have rw11_33 : 0 ≤ w11_33 ∧ w11_33 ≤ 999999 := hP.2.1 11
                          have hN2 : mAt B (v 3) w9_33 w10_33 w8_33 w11_33 (b0_33 0) (tX B (v 3) (tX B (v 3) qq)) := by have h := p0_33; rw [hN1.bh] at h; exact h
                          clear p0_33
                          have hu2 := tX_up (B := B) (n := (v 3)) (q := (tX B (v 3) qq)) (by have h9 := (not_congr (tK_end (B := B) (n := (v 3)) (q := (tX B (v 3) qq)))).mp (by omega); omega)
                          have hle2 := hN2.le
                          have hky : ky1 B (v 3) y17_7 qq = (0, tX B (v 3) (tX B (v 3) qq)) := ky1_d (by omega) (by omega) (by omega)
                          refine lv_aload_n hx hb dX11_readKeys_241 rfl (lv_at hl 2 rfl) ?_
                          refine lv_bipush (v := iI 44) hx hb dX11_readKeys_242 (by decide) ?_
                          refine g_cv (As := [.int (iI 44)]) (rest := []) (n := 1) C hml (n_isS l D k A ad hD (va_up (va_up (va_up (va_up (va_up (va_up (va_up v 6 y6_7) 7 y7_7) 8 w8_33) 9 w9_33) 10 w10_33) 11 w11_33) 17 (y17_7 + 1)) (va_up (va_up f 14 (u1 c14_7 y17_7 3)) 16 (u1 c16_7 y17_7 z_12)) (va_up g 0 b0_33) 44 B (tX B (v 3) (tX B (v 3) qq)) (by decide) (show mAt B (v 3) w9_33 w10_33 w8_33 w11_33 (b0_33 0) (tX B (v 3) (tX B (v 3) qq)) from hN2) (show 40 ≤ (44 : Int) ∧ (44 : Int) < 256 from by omega)) mM_X11_204 mI_X11_isSign mE_X11_isSign mN_X11 mC_X11_isSign (by decide +kernel) 0 (ci := 11) rfl rfl hP hS (fun _ h => h) ⟨Nat.le_of_ble_eq_true rfl, Nat.le_of_ble_eq_true rfl⟩ ⟨Nat.zero_le _, Nat.zero_le _⟩ hl.1 rfl rfl (Nat.le_of_ble_eq_true rfl) dX11_readKeys_244 (fun r_34 v_34 f_34 g_34 H locs hq_34 hP _ hS => ?_)
                          obtain ⟨z_34, rfl, rfl, rfl, rfl, p0_34, p1_34⟩ := hq_34
                          show W p l e (gRm 2 42) s m args below meth c _ _ 0 0 Q (F0 m 247 ls [.int (iI z_34)])
                          replace p0_34 : 0 ≤ z_34 ∧ z_34 ≤ 1 := p0_34
                          replace p1_34 : z_34 = 1 ↔ (tK B (v 3) (tX B (v 3) (tX B (v 3) qq))) = (44 : Int) := p1_34
                          refine lv_istore_n (lv' := [(1, .int (iI z_34)), (3, .int (iI 3)), (2, .int (iI z_12)), (0, .ref (ad 0))]) hx hb dX11_readKeys_247 rfl hl (by decide) rfl (fun ls hl => ?_)
                          refine lv_iload_n hx hb dX11_readKeys_248 rfl (lv_at hl 0 rfl) ?_
                          refine gi_zeq (tgt := 256) hx hb dX11_readKeys_249 (by decide) (by omega) (fun c_35 => ?_) (fun c_35 => ?_)
                          · have v_34 := mt p1_34.mpr (show ¬ z_34 = 1 by omega)
                            clear p1_34
                            refine lv_goto (tgt := 7) hx hb dX11_readKeys_256 (by decide) ?_
                            exact ih_7 z_34 ((tX B (v 3) (tX B (v 3) qq))) y6_7 y7_7 w8_33 w9_33 w10_33 w11_33 (y17_7 + 1) (u1 c14_7 y17_7 3) (u1 c16_7 y17_7 z_12) b0_33 _ _ _ (by omega) (by omega) hN2 (by omega) (by first | (intro h; exfalso; omega) | exact fun _ => (by rw [← hJ3.get (by omega), kys_go (B := B) (n := (v 3)) (p := qq) (c := y17_7) (by omega) (by omega) (by rw [hky]) (by rw [hky]; show tK B (v 3) (tX B (v 3) (tX B (v 3) qq)) = 44; omega), hky])) (by first | (intro h; exfalso; omega) | exact fun _ => (by rw [← hJ3.get (by omega), kys_stop (B := B) (n := (v 3)) (p := qq) (c := y17_7) (by omega) (by omega) (Or.inr (by rw [hky]; show tK B (v 3) (tX B (v 3) (tX B (v 3) qq)) ≠ 44; omega)), hky])) (by first | (intro h; exfalso; omega) | exact fun _ => (by rw [kyP_s (by omega), ← hC1.get (by omega)])) (by first | (intro h; exfalso; omega) | exact fun _ => (by have h8 := hC2.get (by omega); rw [kyN_go (x := y17_7) (by omega) (by omega)] at h8; omega)) (by first | (intro h; exfalso; omega) | exact fun _ => (by have h8 := hC2.get (by omega); rw [kyN_end (x := y17_7) (by omega) (by omega)] at h8; omega)) (kyM_put hC4.get (by omega) (by rw [← hC1.get (by omega)]; omega) (by rw [← hC1.get (by omega)]; first | (rw [if_pos (by omega)]; omega) | (rw [if_neg (by omega)]; omega))) hP hS (lv_sub hl [3, 0] rfl)
                          · have v_34 := p1_34.mp (show z_34 = 1 by omega)
                            clear p1_34
                            refine lv_aload_n hx hb dX11_readKeys_252 rfl (lv_at hl 3 rfl) ?_
                            refine g_cv (As := []) (rest := []) (n := 0) C hml (n_next l D k A ad hD (va_up (va_up (va_up (va_up (va_up (va_up (va_up v 6 y6_7) 7 y7_7) 8 w8_33) 9 w9_33) 10 w10_33) 11 w11_33) 17 (y17_7 + 1)) (va_up (va_up f 14 (u1 c14_7 y17_7 3)) 16 (u1 c16_7 y17_7 z_12)) (va_up g 0 b0_33) B (show ∀ k, (f 0) k % 256 = B k from hB) (show 0 ≤ w10_33 ∧ w10_33 ≤ (v 3) from by omega)) mM_X11_201 mI_X11_next mE_X11_next mN_X11 mC_X11_next (by decide +kernel) 0 (ci := 11) rfl rfl hP hS (fun _ h => h) ⟨Nat.le_of_ble_eq_true rfl, Nat.le_of_ble_eq_true rfl⟩ ⟨Nat.zero_le _, Nat.zero_le _⟩ hl.1 rfl rfl (Nat.le_of_ble_eq_true rfl) dX11_readKeys_253 (fun r_36 v_36 f_36 g_36 H locs hq_36 hP _ hS => ?_)
                            obtain ⟨w8_36, w9_36, w10_36, w11_36, b0_36, rfl, rfl, rfl, rfl, p0_36⟩ := hq_36
                            show W p l e (gRm 2 42) s m args below meth c _ _ 0 0 Q (F0 m 256 ls [])
                            have hP : gWd D (mdT k ad) (va_up (va_up (va_up (va_up (va_up (va_up (va_up v 6 y6_7) 7 y7_7) 8 w8_36) 9 w9_36) 10 w10_36) 11 w11_36) 17 (y17_7 + 1)) (va_up (va_up f 14 (u1 c14_7 y17_7 3)) 16 (u1 c16_7 y17_7 z_12)) (va_up g 0 b0_36) H := ⟨hP.1, (gF_up (V := mdV) (F := mdF) (gF_up (V := mdV) (F := mdF) (gR_up (V := mdV) (F := mdF) (gR_up (V := mdV) (F := mdF) (gR_up (V := mdV) (F := mdF) (gR_up (V := mdV) (F := mdF) (gR_up (V := mdV) (F := mdF) (gR_up (V := mdV) (F := mdF) (gR_up (V := mdV) (F := mdF) ⟨hok.1, hok.2⟩ 6 (hP.2.1 6)) 7 (hP.2.1 7)) 8 (hP.2.1 8)) 9 (hP.2.1 9)) 10 (hP.2.1 10)) 11 (hP.2.1 11)) 17 (hP.2.1 17)) 14 (hP.2.2 14)) 16 (hP.2.2 16))⟩
                            replace p0_36 : mAt B (v 3) w9_36 w10_36 w8_36 w11_36 (b0_36 0) (run bW B (v 3) w10_33) := p0_36
                            have rw8_36 : 0 ≤ w8_36 ∧ w8_36 ≤ 4 := hP.2.1 8
                            have rw9_36 : 0 ≤ w9_36 ∧ w9_36 ≤ 700 := hP.2.1 9
                            have rw10_36 : 0 ≤ w10_36 ∧ w10_36 ≤ 700 := hP.2.1 10
                            have rw11_36 : 0 ≤ w11_36 ∧ w11_36 ≤ 999999 := hP.2.1 11
                            have hN3 : mAt B (v 3) w9_36 w10_36 w8_36 w11_36 (b0_36 0) (tX B (v 3) (tX B (v 3) (tX B (v 3) qq))) := by have h := p0_36; rw [hN2.bh] at h; exact h
                            clear p0_36
                            have hu3 := tX_up (B := B) (n := (v 3)) (q := (tX B (v 3) (tX B (v 3) qq))) (by have h9 := (not_congr (tK_end (B := B) (n := (v 3)) (q := (tX B (v 3) (tX B (v 3) qq))))).mp (by omega); omega)
                            refine lv_goto (tgt := 7) hx hb dX11_readKeys_256 (by decide) ?_
                            exact ih_7 z_34 ((tX B (v 3) (tX B (v 3) (tX B (v 3) qq)))) y6_7 y7_7 w8_36 w9_36 w10_36 w11_36 (y17_7 + 1) (u1 c14_7 y17_7 3) (u1 c16_7 y17_7 z_12) b0_36 _ _ _ (by omega) (by omega) hN3 (by omega) (by first | (intro h; exfalso; omega) | exact fun _ => (by rw [← hJ3.get (by omega), kys_go (B := B) (n := (v 3)) (p := qq) (c := y17_7) (by omega) (by omega) (by rw [hky]) (by rw [hky]; show tK B (v 3) (tX B (v 3) (tX B (v 3) qq)) = 44; omega), hky])) (by first | (intro h; exfalso; omega) | exact fun _ => (by rw [← hJ3.get (by omega), kys_stop (B := B) (n := (v 3)) (p := qq) (c := y17_7) (by omega) (by omega) (Or.inr (by rw [hky]; show tK B (v 3) (tX B (v 3) (tX B (v 3) qq)) ≠ 44; omega)), hky])) (by first | (intro h; exfalso; omega) | exact fun _ => (by rw [kyP_s (by omega), ← hC1.get (by omega)])) (by first | (intro h; exfalso; omega) | exact fun _ => (by have h8 := hC2.get (by omega); rw [kyN_go (x := y17_7) (by omega) (by omega)] at h8; omega)) (by first | (intro h; exfalso; omega) | exact fun _ => (by have h8 := hC2.get (by omega); rw [kyN_end (x := y17_7) (by omega) (by omega)] at h8; omega)) (kyM_put hC4.get (by omega) (by rw [← hC1.get (by omega)]; omega) (by rw [← hC1.get (by omega)]; first | (rw [if_pos (by omega)]; omega) | (rw [if_neg (by omega)]; omega))) hP hS (lv_sub hl [3, 0] rfl)
                        · exfalso; omega
                    · have v_25 := p1_25.mp (show z_25 = 1 by omega)
                      clear p1_25
                      refine lv_iconst (v := iI 2) hx hb dX11_readKeys_166 rfl ?_
                      refine lv_goto (tgt := 197) hx hb dX11_readKeys_167 (by decide) ?_
                      refine lv_istore_n (lv' := [(3, .int (iI 2)), (2, .int (iI z_12)), (0, .ref (ad 0)), (1, .int (iI x1))]) hx hb dX11_readKeys_197 rfl hl (by decide) rfl (fun ls hl => ?_)
                      refine lv_iload_n hx hb dX11_readKeys_198 rfl (lv_at hl 0 rfl) ?_
                      refine gi_zge (tgt := 207) hx hb dX11_readKeys_199 (by decide) (by decide) (fun c_37 => ?_) (fun c_37 => ?_)
                      · refine lv_aload_n hx hb dX11_readKeys_207 rfl (lv_at hl 2 rfl) ?_
                        refine mdG_newUp C hP mF_X11_67 dX11_readKeys_208 ?_
                        refine lv_aload_n hx hb dX11_readKeys_211 rfl (lv_at hl 2 rfl) ?_
                        refine mdG_newKeys C hP mF_X11_214 dX11_readKeys_212 ?_
                        show W p l e (gRm 2 42) s m args below meth c _ _ 0 0 Q (F0 m 215 ls [.int (iI y17_7), .ref (ad 17)])
                        refine lv_iload_n hx hb dX11_readKeys_215 rfl (lv_at hl 1 rfl) ?_
                        refine mdS_newUp (f1 := (va_up (va_up f 14 c14_7) 16 (u1 c16_7 y17_7 z_12))) C hP hD hS (by omega) (by omega) (by omega) (by omega) rfl (Or.inr (gF_up (V := mdV) (F := mdF) (gF_up (V := mdV) (F := mdF) (gR_up (V := mdV) (F := mdF) (gR_up (V := mdV) (F := mdF) (gR_up (V := mdV) (F := mdF) (gR_up (V := mdV) (F := mdF) (gR_up (V := mdV) (F := mdF) (gR_up (V := mdV) (F := mdF) (gR_up (V := mdV) (F := mdF) ⟨hok.1, hok.2⟩ 6 (hP.2.1 6)) 7 (hP.2.1 7)) 8 (hP.2.1 8)) 9 (hP.2.1 9)) 10 (hP.2.1 10)) 11 (hP.2.1 11)) 17 (hP.2.1 17)) 14 (hP.2.2 14)) 16 (u1_rng (hP.2.2 16) (show 0 ≤ z_12 ∧ z_12 ≤ 1 from (by omega))))) dX11_readKeys_216 (fun H locs hP hS => ?_)
                        refine lv_aload_n hx hb dX11_readKeys_217 rfl (lv_at hl 2 rfl) ?_
                        refine mdG_newKey C hP mF_X11_60 dX11_readKeys_218 ?_
                        refine lv_aload_n hx hb dX11_readKeys_221 rfl (lv_at hl 2 rfl) ?_
                        refine mdG_newKeys C hP mF_X11_214 dX11_readKeys_222 ?_
                        show W p l e (gRm 2 42) s m args below meth c _ _ 0 0 Q (F0 m 225 ls [.int (iI y17_7), .ref (ad 15)])
                        refine lv_iload_n hx hb dX11_readKeys_225 rfl (lv_at hl 0 rfl) ?_
                        refine mdS_newKey (f1 := (va_up (va_up f 14 (u1 c14_7 y17_7 2)) 16 (u1 c16_7 y17_7 z_12))) C hP hD hS (by omega) (by omega) (by decide) rfl (Or.inr (gF_up (V := mdV) (F := mdF) (gF_up (V := mdV) (F := mdF) (gR_up (V := mdV) (F := mdF) (gR_up (V := mdV) (F := mdF) (gR_up (V := mdV) (F := mdF) (gR_up (V := mdV) (F := mdF) (gR_up (V := mdV) (F := mdF) (gR_up (V := mdV) (F := mdF) (gR_up (V := mdV) (F := mdF) ⟨hok.1, hok.2⟩ 6 (hP.2.1 6)) 7 (hP.2.1 7)) 8 (hP.2.1 8)) 9 (hP.2.1 9)) 10 (hP.2.1 10)) 11 (hP.2.1 11)) 17 (hP.2.1 17)) 14 (u1_rng (hP.2.2 14) (show 0 ≤ 2 ∧ 2 ≤ 3 from (by decide)))) 16 (hP.2.2 16))) dX11_readKeys_226 (fun H locs hP hS => ?_)
                        refine lv_aload_n hx hb dX11_readKeys_227 rfl (lv_at hl 2 rfl) ?_
                        refine lv_dup hx hb dX11_readKeys_228 rfl ?_
                        refine mdG_newKeys C hP mF_X11_214 dX11_readKeys_229 ?_
                        show W p l e (gRm 2 42) s m args below meth c _ _ 0 0 Q (F0 m 232 ls [.int (iI y17_7), .ref (ad 0)])
                        refine lv_iconst (v := iI 1) hx hb dX11_readKeys_232 rfl ?_
                        refine gi_add (z := (y17_7 + 1)) hx hb dX11_readKeys_233 rfl ?_
                        refine mdP_newKeys (v1 := (va_up (va_up (va_up (va_up (va_up (va_up (va_up v 6 y6_7) 7 y7_7) 8 w8_17) 9 w9_17) 10 w10_17) 11 w11_17) 17 (y17_7 + 1))) C hP hD hS mF_X11_214 (by omega) rfl (Or.inr (gF_up (V := mdV) (F := mdF) (gF_up (V := mdV) (F := mdF) (gR_up (V := mdV) (F := mdF) (gR_up (V := mdV) (F := mdF) (gR_up (V := mdV) (F := mdF) (gR_up (V := mdV) (F := mdF) (gR_up (V := mdV) (F := mdF) (gR_up (V := mdV) (F := mdF) (gR_up (V := mdV) (F := mdF) ⟨hok.1, hok.2⟩ 6 (hP.2.1 6)) 7 (hP.2.1 7)) 8 (hP.2.1 8)) 9 (hP.2.1 9)) 10 (hP.2.1 10)) 11 (hP.2.1 11)) 17 (show 0 ≤ (y17_7 + 1) ∧ (y17_7 + 1) ≤ 4 from by omega)) 14 (hP.2.2 14)) 16 (hP.2.2 16))) dX11_readKeys_234 (fun H locs hP hS => ?_)
                        refine lv_aload_n hx hb dX11_readKeys_237 rfl (lv_at hl 2 rfl) ?_
                        refine g_cv (As := []) (rest := []) (n := 0) C hml (n_next l D k A ad hD (va_up (va_up (va_up (va_up (va_up (va_up (va_up v 6 y6_7) 7 y7_7) 8 w8_17) 9 w9_17) 10 w10_17) 11 w11_17) 17 (y17_7 + 1)) (va_up (va_up f 14 (u1 c14_7 y17_7 2)) 16 (u1 c16_7 y17_7 z_12)) (va_up g 0 b0_17) B (show ∀ k, (f 0) k % 256 = B k from hB) (show 0 ≤ w10_17 ∧ w10_17 ≤ (v 3) from by omega)) mM_X11_201 mI_X11_next mE_X11_next mN_X11 mC_X11_next (by decide +kernel) 0 (ci := 11) rfl rfl hP hS (fun _ h => h) ⟨Nat.le_of_ble_eq_true rfl, Nat.le_of_ble_eq_true rfl⟩ ⟨Nat.zero_le _, Nat.zero_le _⟩ hl.1 rfl rfl (Nat.le_of_ble_eq_true rfl) dX11_readKeys_238 (fun r_38 v_38 f_38 g_38 H locs hq_38 hP _ hS => ?_)
                        obtain ⟨w8_38, w9_38, w10_38, w11_38, b0_38, rfl, rfl, rfl, rfl, p0_38⟩ := hq_38
                        show W p l e (gRm 2 42) s m args below meth c _ _ 0 0 Q (F0 m 241 ls [])
                        have hP : gWd D (mdT k ad) (va_up (va_up (va_up (va_up (va_up (va_up (va_up v 6 y6_7) 7 y7_7) 8 w8_38) 9 w9_38) 10 w10_38) 11 w11_38) 17 (y17_7 + 1)) (va_up (va_up f 14 (u1 c14_7 y17_7 2)) 16 (u1 c16_7 y17_7 z_12)) (va_up g 0 b0_38) H := ⟨hP.1, (gF_up (V := mdV) (F := mdF) (gF_up (V := mdV) (F := mdF) (gR_up (V := mdV) (F := mdF) (gR_up (V := mdV) (F := mdF) (gR_up (V := mdV) (F := mdF) (gR_up (V := mdV) (F := mdF) (gR_up (V := mdV) (F := mdF) (gR_up (V := mdV) (F := mdF) (gR_up (V := mdV) (F := mdF) ⟨hok.1, hok.2⟩ 6 (hP.2.1 6)) 7 (hP.2.1 7)) 8 (hP.2.1 8)) 9 (hP.2.1 9)) 10 (hP.2.1 10)) 11 (hP.2.1 11)) 17 (hP.2.1 17)) 14 (hP.2.2 14)) 16 (hP.2.2 16))⟩
                        replace p0_38 : mAt B (v 3) w9_38 w10_38 w8_38 w11_38 (b0_38 0) (run bW B (v 3) w10_17) := p0_38
                        have rw8_38 : 0 ≤ w8_38 ∧ w8_38 ≤ 4 := hP.2.1 8
                        have rw9_38 : 0 ≤ w9_38 ∧ w9_38 ≤ 700 := hP.2.1 9
                        have rw10_38 : 0 ≤ w10_38 ∧ w10_38 ≤ 700 := hP.2.1 10
                        have rw11_38 : 0 ≤ w11_38 ∧ w11_38 ≤ 999999 := hP.2.1 11
                        have hN2 : mAt B (v 3) w9_38 w10_38 w8_38 w11_38 (b0_38 0) (tX B (v 3) (tX B (v 3) qq)) := by have h := p0_38; rw [hN1.bh] at h; exact h
                        clear p0_38
                        have hu2 := tX_up (B := B) (n := (v 3)) (q := (tX B (v 3) qq)) (by have h9 := (not_congr (tK_end (B := B) (n := (v 3)) (q := (tX B (v 3) qq)))).mp (by omega); omega)
                        have hle2 := hN2.le
                        have hky : ky1 B (v 3) y17_7 qq = (0, tX B (v 3) (tX B (v 3) qq)) := ky1_d (by omega) (by omega) (by omega)
                        refine lv_aload_n hx hb dX11_readKeys_241 rfl (lv_at hl 2 rfl) ?_
                        refine lv_bipush (v := iI 44) hx hb dX11_readKeys_242 (by decide) ?_
                        refine g_cv (As := [.int (iI 44)]) (rest := []) (n := 1) C hml (n_isS l D k A ad hD (va_up (va_up (va_up (va_up (va_up (va_up (va_up v 6 y6_7) 7 y7_7) 8 w8_38) 9 w9_38) 10 w10_38) 11 w11_38) 17 (y17_7 + 1)) (va_up (va_up f 14 (u1 c14_7 y17_7 2)) 16 (u1 c16_7 y17_7 z_12)) (va_up g 0 b0_38) 44 B (tX B (v 3) (tX B (v 3) qq)) (by decide) (show mAt B (v 3) w9_38 w10_38 w8_38 w11_38 (b0_38 0) (tX B (v 3) (tX B (v 3) qq)) from hN2) (show 40 ≤ (44 : Int) ∧ (44 : Int) < 256 from by omega)) mM_X11_204 mI_X11_isSign mE_X11_isSign mN_X11 mC_X11_isSign (by decide +kernel) 0 (ci := 11) rfl rfl hP hS (fun _ h => h) ⟨Nat.le_of_ble_eq_true rfl, Nat.le_of_ble_eq_true rfl⟩ ⟨Nat.zero_le _, Nat.zero_le _⟩ hl.1 rfl rfl (Nat.le_of_ble_eq_true rfl) dX11_readKeys_244 (fun r_39 v_39 f_39 g_39 H locs hq_39 hP _ hS => ?_)
                        obtain ⟨z_39, rfl, rfl, rfl, rfl, p0_39, p1_39⟩ := hq_39
                        show W p l e (gRm 2 42) s m args below meth c _ _ 0 0 Q (F0 m 247 ls [.int (iI z_39)])
                        replace p0_39 : 0 ≤ z_39 ∧ z_39 ≤ 1 := p0_39
                        replace p1_39 : z_39 = 1 ↔ (tK B (v 3) (tX B (v 3) (tX B (v 3) qq))) = (44 : Int) := p1_39
                        refine lv_istore_n (lv' := [(1, .int (iI z_39)), (3, .int (iI 2)), (2, .int (iI z_12)), (0, .ref (ad 0))]) hx hb dX11_readKeys_247 rfl hl (by decide) rfl (fun ls hl => ?_)
                        refine lv_iload_n hx hb dX11_readKeys_248 rfl (lv_at hl 0 rfl) ?_
                        refine gi_zeq (tgt := 256) hx hb dX11_readKeys_249 (by decide) (by omega) (fun c_40 => ?_) (fun c_40 => ?_)
                        · have v_39 := mt p1_39.mpr (show ¬ z_39 = 1 by omega)
                          clear p1_39
                          refine lv_goto (tgt := 7) hx hb dX11_readKeys_256 (by decide) ?_
                          exact ih_7 z_39 ((tX B (v 3) (tX B (v 3) qq))) y6_7 y7_7 w8_38 w9_38 w10_38 w11_38 (y17_7 + 1) (u1 c14_7 y17_7 2) (u1 c16_7 y17_7 z_12) b0_38 _ _ _ (by omega) (by omega) hN2 (by omega) (by first | (intro h; exfalso; omega) | exact fun _ => (by rw [← hJ3.get (by omega), kys_go (B := B) (n := (v 3)) (p := qq) (c := y17_7) (by omega) (by omega) (by rw [hky]) (by rw [hky]; show tK B (v 3) (tX B (v 3) (tX B (v 3) qq)) = 44; omega), hky])) (by first | (intro h; exfalso; omega) | exact fun _ => (by rw [← hJ3.get (by omega), kys_stop (B := B) (n := (v 3)) (p := qq) (c := y17_7) (by omega) (by omega) (Or.inr (by rw [hky]; show tK B (v 3) (tX B (v 3) (tX B (v 3) qq)) ≠ 44; omega)), hky])) (by first | (intro h; exfalso; omega) | exact fun _ => (by rw [kyP_s (by omega), ← hC1.get (by omega)])) (by first | (intro h; exfalso; omega) | exact fun _ => (by have h8 := hC2.get (by omega); rw [kyN_go (x := y17_7) (by omega) (by omega)] at h8; omega)) (by first | (intro h; exfalso; omega) | exact fun _ => (by have h8 := hC2.get (by omega); rw [kyN_end (x := y17_7) (by omega) (by omega)] at h8; omega)) (kyM_put hC4.get (by omega) (by rw [← hC1.get (by omega)]; omega) (by rw [← hC1.get (by omega)]; first | (rw [if_pos (by omega)]; omega) | (rw [if_neg (by omega)]; omega))) hP hS (lv_sub hl [3, 0] rfl)
                        · have v_39 := p1_39.mp (show z_39 = 1 by omega)
                          clear p1_39
                          refine lv_aload_n hx hb dX11_readKeys_252 rfl (lv_at hl 3 rfl) ?_
                          refine g_cv (As := []) (rest := []) (n := 0) C hml (n_next l D k A ad hD (va_up (va_up (va_up (va_up (va_up (va_up (va_up v 6 y6_7) 7 y7_7) 8 w8_38) 9 w9_38) 10 w10_38) 11 w11_38) 17 (y17_7 + 1)) (va_up (va_up f 14 (u1 c14_7 y17_7 2)) 16 (u1 c16_7 y17_7 z_12)) (va_up g 0 b0_38) B (show ∀ k, (f 0) k % 256 = B k from hB) (show 0 ≤ w10_38 ∧ w10_38 ≤ (v 3) from by omega)) mM_X11_201 mI_X11_next mE_X11_next mN_X11 mC_X11_next (by decide +kernel) 0 (ci := 11) rfl rfl hP hS (fun _ h => h) ⟨Nat.le_of_ble_eq_true rfl, Nat.le_of_ble_eq_true rfl⟩ ⟨Nat.zero_le _, Nat.zero_le _⟩ hl.1 rfl rfl (Nat.le_of_ble_eq_true rfl) dX11_readKeys_253 (fun r_41 v_41 f_41 g_41 H locs hq_41 hP _ hS => ?_)
                          obtain ⟨w8_41, w9_41, w10_41, w11_41, b0_41, rfl, rfl, rfl, rfl, p0_41⟩ := hq_41
                          show W p l e (gRm 2 42) s m args below meth c _ _ 0 0 Q (F0 m 256 ls [])
                          have hP : gWd D (mdT k ad) (va_up (va_up (va_up (va_up (va_up (va_up (va_up v 6 y6_7) 7 y7_7) 8 w8_41) 9 w9_41) 10 w10_41) 11 w11_41) 17 (y17_7 + 1)) (va_up (va_up f 14 (u1 c14_7 y17_7 2)) 16 (u1 c16_7 y17_7 z_12)) (va_up g 0 b0_41) H := ⟨hP.1, (gF_up (V := mdV) (F := mdF) (gF_up (V := mdV) (F := mdF) (gR_up (V := mdV) (F := mdF) (gR_up (V := mdV) (F := mdF) (gR_up (V := mdV) (F := mdF) (gR_up (V := mdV) (F := mdF) (gR_up (V := mdV) (F := mdF) (gR_up (V := mdV) (F := mdF) (gR_up (V := mdV) (F := mdF) ⟨hok.1, hok.2⟩ 6 (hP.2.1 6)) 7 (hP.2.1 7)) 8 (hP.2.1 8)) 9 (hP.2.1 9)) 10 (hP.2.1 10)) 11 (hP.2.1 11)) 17 (hP.2.1 17)) 14 (hP.2.2 14)) 16 (hP.2.2 16))⟩
                          replace p0_41 : mAt B (v 3) w9_41 w10_41 w8_41 w11_41 (b0_41 0) (run bW B (v 3) w10_38) := p0_41
                          have rw8_41 : 0 ≤ w8_41 ∧ w8_41 ≤ 4 := hP.2.1 8
                          have rw9_41 : 0 ≤ w9_41 ∧ w9_41 ≤ 700 := hP.2.1 9
                          have rw10_41 : 0 ≤ w10_41 ∧ w10_41 ≤ 700 := hP.2.1 10
                          have rw11_41 : 0 ≤ w11_41 ∧ w11_41 ≤ 999999 := hP.2.1 11
                          have hN3 : mAt B (v 3) w9_41 w10_41 w8_41 w11_41 (b0_41 0) (tX B (v 3) (tX B (v 3) (tX B (v 3) qq))) := by have h := p0_41; rw [hN2.bh] at h; exact h
                          clear p0_41
                          have hu3 := tX_up (B := B) (n := (v 3)) (q := (tX B (v 3) (tX B (v 3) qq))) (by have h9 := (not_congr (tK_end (B := B) (n := (v 3)) (q := (tX B (v 3) (tX B (v 3) qq))))).mp (by omega); omega)
                          refine lv_goto (tgt := 7) hx hb dX11_readKeys_256 (by decide) ?_
                          exact ih_7 z_39 ((tX B (v 3) (tX B (v 3) (tX B (v 3) qq)))) y6_7 y7_7 w8_41 w9_41 w10_41 w11_41 (y17_7 + 1) (u1 c14_7 y17_7 2) (u1 c16_7 y17_7 z_12) b0_41 _ _ _ (by omega) (by omega) hN3 (by omega) (by first | (intro h; exfalso; omega) | exact fun _ => (by rw [← hJ3.get (by omega), kys_go (B := B) (n := (v 3)) (p := qq) (c := y17_7) (by omega) (by omega) (by rw [hky]) (by rw [hky]; show tK B (v 3) (tX B (v 3) (tX B (v 3) qq)) = 44; omega), hky])) (by first | (intro h; exfalso; omega) | exact fun _ => (by rw [← hJ3.get (by omega), kys_stop (B := B) (n := (v 3)) (p := qq) (c := y17_7) (by omega) (by omega) (Or.inr (by rw [hky]; show tK B (v 3) (tX B (v 3) (tX B (v 3) qq)) ≠ 44; omega)), hky])) (by first | (intro h; exfalso; omega) | exact fun _ => (by rw [kyP_s (by omega), ← hC1.get (by omega)])) (by first | (intro h; exfalso; omega) | exact fun _ => (by have h8 := hC2.get (by omega); rw [kyN_go (x := y17_7) (by omega) (by omega)] at h8; omega)) (by first | (intro h; exfalso; omega) | exact fun _ => (by have h8 := hC2.get (by omega); rw [kyN_end (x := y17_7) (by omega) (by omega)] at h8; omega)) (kyM_put hC4.get (by omega) (by rw [← hC1.get (by omega)]; omega) (by rw [← hC1.get (by omega)]; first | (rw [if_pos (by omega)]; omega) | (rw [if_neg (by omega)]; omega))) hP hS (lv_sub hl [3, 0] rfl)
                      · exfalso; omega
                  · have v_22 := p1_22.mp (show z_22 = 1 by omega)
                    clear p1_22
                    refine lv_iconst (v := iI 1) hx hb dX11_readKeys_141 rfl ?_
                    refine lv_goto (tgt := 197) hx hb dX11_readKeys_142 (by decide) ?_
                    refine lv_istore_n (lv' := [(3, .int (iI 1)), (2, .int (iI z_12)), (0, .ref (ad 0)), (1, .int (iI x1))]) hx hb dX11_readKeys_197 rfl hl (by decide) rfl (fun ls hl => ?_)
                    refine lv_iload_n hx hb dX11_readKeys_198 rfl (lv_at hl 0 rfl) ?_
                    refine gi_zge (tgt := 207) hx hb dX11_readKeys_199 (by decide) (by decide) (fun c_42 => ?_) (fun c_42 => ?_)
                    · refine lv_aload_n hx hb dX11_readKeys_207 rfl (lv_at hl 2 rfl) ?_
                      refine mdG_newUp C hP mF_X11_67 dX11_readKeys_208 ?_
                      refine lv_aload_n hx hb dX11_readKeys_211 rfl (lv_at hl 2 rfl) ?_
                      refine mdG_newKeys C hP mF_X11_214 dX11_readKeys_212 ?_
                      show W p l e (gRm 2 42) s m args below meth c _ _ 0 0 Q (F0 m 215 ls [.int (iI y17_7), .ref (ad 17)])
                      refine lv_iload_n hx hb dX11_readKeys_215 rfl (lv_at hl 1 rfl) ?_
                      refine mdS_newUp (f1 := (va_up (va_up f 14 c14_7) 16 (u1 c16_7 y17_7 z_12))) C hP hD hS (by omega) (by omega) (by omega) (by omega) rfl (Or.inr (gF_up (V := mdV) (F := mdF) (gF_up (V := mdV) (F := mdF) (gR_up (V := mdV) (F := mdF) (gR_up (V := mdV) (F := mdF) (gR_up (V := mdV) (F := mdF) (gR_up (V := mdV) (F := mdF) (gR_up (V := mdV) (F := mdF) (gR_up (V := mdV) (F := mdF) (gR_up (V := mdV) (F := mdF) ⟨hok.1, hok.2⟩ 6 (hP.2.1 6)) 7 (hP.2.1 7)) 8 (hP.2.1 8)) 9 (hP.2.1 9)) 10 (hP.2.1 10)) 11 (hP.2.1 11)) 17 (hP.2.1 17)) 14 (hP.2.2 14)) 16 (u1_rng (hP.2.2 16) (show 0 ≤ z_12 ∧ z_12 ≤ 1 from (by omega))))) dX11_readKeys_216 (fun H locs hP hS => ?_)
                      refine lv_aload_n hx hb dX11_readKeys_217 rfl (lv_at hl 2 rfl) ?_
                      refine mdG_newKey C hP mF_X11_60 dX11_readKeys_218 ?_
                      refine lv_aload_n hx hb dX11_readKeys_221 rfl (lv_at hl 2 rfl) ?_
                      refine mdG_newKeys C hP mF_X11_214 dX11_readKeys_222 ?_
                      show W p l e (gRm 2 42) s m args below meth c _ _ 0 0 Q (F0 m 225 ls [.int (iI y17_7), .ref (ad 15)])
                      refine lv_iload_n hx hb dX11_readKeys_225 rfl (lv_at hl 0 rfl) ?_
                      refine mdS_newKey (f1 := (va_up (va_up f 14 (u1 c14_7 y17_7 1)) 16 (u1 c16_7 y17_7 z_12))) C hP hD hS (by omega) (by omega) (by decide) rfl (Or.inr (gF_up (V := mdV) (F := mdF) (gF_up (V := mdV) (F := mdF) (gR_up (V := mdV) (F := mdF) (gR_up (V := mdV) (F := mdF) (gR_up (V := mdV) (F := mdF) (gR_up (V := mdV) (F := mdF) (gR_up (V := mdV) (F := mdF) (gR_up (V := mdV) (F := mdF) (gR_up (V := mdV) (F := mdF) ⟨hok.1, hok.2⟩ 6 (hP.2.1 6)) 7 (hP.2.1 7)) 8 (hP.2.1 8)) 9 (hP.2.1 9)) 10 (hP.2.1 10)) 11 (hP.2.1 11)) 17 (hP.2.1 17)) 14 (u1_rng (hP.2.2 14) (show 0 ≤ 1 ∧ 1 ≤ 3 from (by decide)))) 16 (hP.2.2 16))) dX11_readKeys_226 (fun H locs hP hS => ?_)
                      refine lv_aload_n hx hb dX11_readKeys_227 rfl (lv_at hl 2 rfl) ?_
                      refine lv_dup hx hb dX11_readKeys_228 rfl ?_
                      refine mdG_newKeys C hP mF_X11_214 dX11_readKeys_229 ?_
                      show W p l e (gRm 2 42) s m args below meth c _ _ 0 0 Q (F0 m 232 ls [.int (iI y17_7), .ref (ad 0)])
                      refine lv_iconst (v := iI 1) hx hb dX11_readKeys_232 rfl ?_
                      refine gi_add (z := (y17_7 + 1)) hx hb dX11_readKeys_233 rfl ?_
                      refine mdP_newKeys (v1 := (va_up (va_up (va_up (va_up (va_up (va_up (va_up v 6 y6_7) 7 y7_7) 8 w8_17) 9 w9_17) 10 w10_17) 11 w11_17) 17 (y17_7 + 1))) C hP hD hS mF_X11_214 (by omega) rfl (Or.inr (gF_up (V := mdV) (F := mdF) (gF_up (V := mdV) (F := mdF) (gR_up (V := mdV) (F := mdF) (gR_up (V := mdV) (F := mdF) (gR_up (V := mdV) (F := mdF) (gR_up (V := mdV) (F := mdF) (gR_up (V := mdV) (F := mdF) (gR_up (V := mdV) (F := mdF) (gR_up (V := mdV) (F := mdF) ⟨hok.1, hok.2⟩ 6 (hP.2.1 6)) 7 (hP.2.1 7)) 8 (hP.2.1 8)) 9 (hP.2.1 9)) 10 (hP.2.1 10)) 11 (hP.2.1 11)) 17 (show 0 ≤ (y17_7 + 1) ∧ (y17_7 + 1) ≤ 4 from by omega)) 14 (hP.2.2 14)) 16 (hP.2.2 16))) dX11_readKeys_234 (fun H locs hP hS => ?_)
                      refine lv_aload_n hx hb dX11_readKeys_237 rfl (lv_at hl 2 rfl) ?_
                      refine g_cv (As := []) (rest := []) (n := 0) C hml (n_next l D k A ad hD (va_up (va_up (va_up (va_up (va_up (va_up (va_up v 6 y6_7) 7 y7_7) 8 w8_17) 9 w9_17) 10 w10_17) 11 w11_17) 17 (y17_7 + 1)) (va_up (va_up f 14 (u1 c14_7 y17_7 1)) 16 (u1 c16_7 y17_7 z_12)) (va_up g 0 b0_17) B (show ∀ k, (f 0) k % 256 = B k from hB) (show 0 ≤ w10_17 ∧ w10_17 ≤ (v 3) from by omega)) mM_X11_201 mI_X11_next mE_X11_next mN_X11 mC_X11_next (by decide +kernel) 0 (ci := 11) rfl rfl hP hS (fun _ h => h) ⟨Nat.le_of_ble_eq_true rfl, Nat.le_of_ble_eq_true rfl⟩ ⟨Nat.zero_le _, Nat.zero_le _⟩ hl.1 rfl rfl (Nat.le_of_ble_eq_true rfl) dX11_readKeys_238 (fun r_43 v_43 f_43 g_43 H locs hq_43 hP _ hS => ?_)
                      obtain ⟨w8_43, w9_43, w10_43, w11_43, b0_43, rfl, rfl, rfl, rfl, p0_43⟩ := hq_43
                      show W p l e (gRm 2 42) s m args below meth c _ _ 0 0 Q (F0 m 241 ls [])
                      have hP : gWd D (mdT k ad) (va_up (va_up (va_up (va_up (va_up (va_up (va_up v 6 y6_7) 7 y7_7) 8 w8_43) 9 w9_43) 10 w10_43) 11 w11_43) 17 (y17_7 + 1)) (va_up (va_up f 14 (u1 c14_7 y17_7 1)) 16 (u1 c16_7 y17_7 z_12)) (va_up g 0 b0_43) H := ⟨hP.1, (gF_up (V := mdV) (F := mdF) (gF_up (V := mdV) (F := mdF) (gR_up (V := mdV) (F := mdF) (gR_up (V := mdV) (F := mdF) (gR_up (V := mdV) (F := mdF) (gR_up (V := mdV) (F := mdF) (gR_up (V := mdV) (F := mdF) (gR_up (V := mdV) (F := mdF) (gR_up (V := mdV) (F := mdF) ⟨hok.1, hok.2⟩ 6 (hP.2.1 6)) 7 (hP.2.1 7)) 8 (hP.2.1 8)) 9 (hP.2.1 9)) 10 (hP.2.1 10)) 11 (hP.2.1 11)) 17 (hP.2.1 17)) 14 (hP.2.2 14)) 16 (hP.2.2 16))⟩
                      replace p0_43 : mAt B (v 3) w9_43 w10_43 w8_43 w11_43 (b0_43 0) (run bW B (v 3) w10_17) := p0_43
                      have rw8_43 : 0 ≤ w8_43 ∧ w8_43 ≤ 4 := hP.2.1 8
                      have rw9_43 : 0 ≤ w9_43 ∧ w9_43 ≤ 700 := hP.2.1 9
                      have rw10_43 : 0 ≤ w10_43 ∧ w10_43 ≤ 700 := hP.2.1 10
                      have rw11_43 : 0 ≤ w11_43 ∧ w11_43 ≤ 999999 := hP.2.1 11
                      have hN2 : mAt B (v 3) w9_43 w10_43 w8_43 w11_43 (b0_43 0) (tX B (v 3) (tX B (v 3) qq)) := by have h := p0_43; rw [hN1.bh] at h; exact h
                      clear p0_43
                      have hu2 := tX_up (B := B) (n := (v 3)) (q := (tX B (v 3) qq)) (by have h9 := (not_congr (tK_end (B := B) (n := (v 3)) (q := (tX B (v 3) qq)))).mp (by omega); omega)
                      have hle2 := hN2.le
                      have hky : ky1 B (v 3) y17_7 qq = (0, tX B (v 3) (tX B (v 3) qq)) := ky1_d (by omega) (by omega) (by omega)
                      refine lv_aload_n hx hb dX11_readKeys_241 rfl (lv_at hl 2 rfl) ?_
                      refine lv_bipush (v := iI 44) hx hb dX11_readKeys_242 (by decide) ?_
                      refine g_cv (As := [.int (iI 44)]) (rest := []) (n := 1) C hml (n_isS l D k A ad hD (va_up (va_up (va_up (va_up (va_up (va_up (va_up v 6 y6_7) 7 y7_7) 8 w8_43) 9 w9_43) 10 w10_43) 11 w11_43) 17 (y17_7 + 1)) (va_up (va_up f 14 (u1 c14_7 y17_7 1)) 16 (u1 c16_7 y17_7 z_12)) (va_up g 0 b0_43) 44 B (tX B (v 3) (tX B (v 3) qq)) (by decide) (show mAt B (v 3) w9_43 w10_43 w8_43 w11_43 (b0_43 0) (tX B (v 3) (tX B (v 3) qq)) from hN2) (show 40 ≤ (44 : Int) ∧ (44 : Int) < 256 from by omega)) mM_X11_204 mI_X11_isSign mE_X11_isSign mN_X11 mC_X11_isSign (by decide +kernel) 0 (ci := 11) rfl rfl hP hS (fun _ h => h) ⟨Nat.le_of_ble_eq_true rfl, Nat.le_of_ble_eq_true rfl⟩ ⟨Nat.zero_le _, Nat.zero_le _⟩ hl.1 rfl rfl (Nat.le_of_ble_eq_true rfl) dX11_readKeys_244 (fun r_44 v_44 f_44 g_44 H locs hq_44 hP _ hS => ?_)
                      obtain ⟨z_44, rfl, rfl, rfl, rfl, p0_44, p1_44⟩ := hq_44
                      show W p l e (gRm 2 42) s m args below meth c _ _ 0 0 Q (F0 m 247 ls [.int (iI z_44)])
                      replace p0_44 : 0 ≤ z_44 ∧ z_44 ≤ 1 := p0_44
                      replace p1_44 : z_44 = 1 ↔ (tK B (v 3) (tX B (v 3) (tX B (v 3) qq))) = (44 : Int) := p1_44
                      refine lv_istore_n (lv' := [(1, .int (iI z_44)), (3, .int (iI 1)), (2, .int (iI z_12)), (0, .ref (ad 0))]) hx hb dX11_readKeys_247 rfl hl (by decide) rfl (fun ls hl => ?_)
                      refine lv_iload_n hx hb dX11_readKeys_248 rfl (lv_at hl 0 rfl) ?_
                      refine gi_zeq (tgt := 256) hx hb dX11_readKeys_249 (by decide) (by omega) (fun c_45 => ?_) (fun c_45 => ?_)
                      · have v_44 := mt p1_44.mpr (show ¬ z_44 = 1 by omega)
                        clear p1_44
                        refine lv_goto (tgt := 7) hx hb dX11_readKeys_256 (by decide) ?_
                        exact ih_7 z_44 ((tX B (v 3) (tX B (v 3) qq))) y6_7 y7_7 w8_43 w9_43 w10_43 w11_43 (y17_7 + 1) (u1 c14_7 y17_7 1) (u1 c16_7 y17_7 z_12) b0_43 _ _ _ (by omega) (by omega) hN2 (by omega) (by first | (intro h; exfalso; omega) | exact fun _ => (by rw [← hJ3.get (by omega), kys_go (B := B) (n := (v 3)) (p := qq) (c := y17_7) (by omega) (by omega) (by rw [hky]) (by rw [hky]; show tK B (v 3) (tX B (v 3) (tX B (v 3) qq)) = 44; omega), hky])) (by first | (intro h; exfalso; omega) | exact fun _ => (by rw [← hJ3.get (by omega), kys_stop (B := B) (n := (v 3)) (p := qq) (c := y17_7) (by omega) (by omega) (Or.inr (by rw [hky]; show tK B (v 3) (tX B (v 3) (tX B (v 3) qq)) ≠ 44; omega)), hky])) (by first | (intro h; exfalso; omega) | exact fun _ => (by rw [kyP_s (by omega), ← hC1.get (by omega)])) (by first | (intro h; exfalso; omega) | exact fun _ => (by have h8 := hC2.get (by omega); rw [kyN_go (x := y17_7) (by omega) (by omega)] at h8; omega)) (by first | (intro h; exfalso; omega) | exact fun _ => (by have h8 := hC2.get (by omega); rw [kyN_end (x := y17_7) (by omega) (by omega)] at h8; omega)) (kyM_put hC4.get (by omega) (by rw [← hC1.get (by omega)]; omega) (by rw [← hC1.get (by omega)]; first | (rw [if_pos (by omega)]; omega) | (rw [if_neg (by omega)]; omega))) hP hS (lv_sub hl [3, 0] rfl)
                      · have v_44 := p1_44.mp (show z_44 = 1 by omega)
                        clear p1_44
                        refine lv_aload_n hx hb dX11_readKeys_252 rfl (lv_at hl 3 rfl) ?_
                        refine g_cv (As := []) (rest := []) (n := 0) C hml (n_next l D k A ad hD (va_up (va_up (va_up (va_up (va_up (va_up (va_up v 6 y6_7) 7 y7_7) 8 w8_43) 9 w9_43) 10 w10_43) 11 w11_43) 17 (y17_7 + 1)) (va_up (va_up f 14 (u1 c14_7 y17_7 1)) 16 (u1 c16_7 y17_7 z_12)) (va_up g 0 b0_43) B (show ∀ k, (f 0) k % 256 = B k from hB) (show 0 ≤ w10_43 ∧ w10_43 ≤ (v 3) from by omega)) mM_X11_201 mI_X11_next mE_X11_next mN_X11 mC_X11_next (by decide +kernel) 0 (ci := 11) rfl rfl hP hS (fun _ h => h) ⟨Nat.le_of_ble_eq_true rfl, Nat.le_of_ble_eq_true rfl⟩ ⟨Nat.zero_le _, Nat.zero_le _⟩ hl.1 rfl rfl (Nat.le_of_ble_eq_true rfl) dX11_readKeys_253 (fun r_46 v_46 f_46 g_46 H locs hq_46 hP _ hS => ?_)
                        obtain ⟨w8_46, w9_46, w10_46, w11_46, b0_46, rfl, rfl, rfl, rfl, p0_46⟩ := hq_46
                        show W p l e (gRm 2 42) s m args below meth c _ _ 0 0 Q (F0 m 256 ls [])
                        have hP : gWd D (mdT k ad) (va_up (va_up (va_up (va_up (va_up (va_up (va_up v 6 y6_7) 7 y7_7) 8 w8_46) 9 w9_46) 10 w10_46) 11 w11_46) 17 (y17_7 + 1)) (va_up (va_up f 14 (u1 c14_7 y17_7 1)) 16 (u1 c16_7 y17_7 z_12)) (va_up g 0 b0_46) H := ⟨hP.1, (gF_up (V := mdV) (F := mdF) (gF_up (V := mdV) (F := mdF) (gR_up (V := mdV) (F := mdF) (gR_up (V := mdV) (F := mdF) (gR_up (V := mdV) (F := mdF) (gR_up (V := mdV) (F := mdF) (gR_up (V := mdV) (F := mdF) (gR_up (V := mdV) (F := mdF) (gR_up (V := mdV) (F := mdF) ⟨hok.1, hok.2⟩ 6 (hP.2.1 6)) 7 (hP.2.1 7)) 8 (hP.2.1 8)) 9 (hP.2.1 9)) 10 (hP.2.1 10)) 11 (hP.2.1 11)) 17 (hP.2.1 17)) 14 (hP.2.2 14)) 16 (hP.2.2 16))⟩
                        replace p0_46 : mAt B (v 3) w9_46 w10_46 w8_46 w11_46 (b0_46 0) (run bW B (v 3) w10_43) := p0_46
                        have rw8_46 : 0 ≤ w8_46 ∧ w8_46 ≤ 4 := hP.2.1 8
                        have rw9_46 : 0 ≤ w9_46 ∧ w9_46 ≤ 700 := hP.2.1 9
                        have rw10_46 : 0 ≤ w10_46 ∧ w10_46 ≤ 700 := hP.2.1 10
                        have rw11_46 : 0 ≤ w11_46 ∧ w11_46 ≤ 999999 := hP.2.1 11
                        have hN3 : mAt B (v 3) w9_46 w10_46 w8_46 w11_46 (b0_46 0) (tX B (v 3) (tX B (v 3) (tX B (v 3) qq))) := by have h := p0_46; rw [hN2.bh] at h; exact h
                        clear p0_46
                        have hu3 := tX_up (B := B) (n := (v 3)) (q := (tX B (v 3) (tX B (v 3) qq))) (by have h9 := (not_congr (tK_end (B := B) (n := (v 3)) (q := (tX B (v 3) (tX B (v 3) qq))))).mp (by omega); omega)
                        refine lv_goto (tgt := 7) hx hb dX11_readKeys_256 (by decide) ?_
                        exact ih_7 z_44 ((tX B (v 3) (tX B (v 3) (tX B (v 3) qq)))) y6_7 y7_7 w8_46 w9_46 w10_46 w11_46 (y17_7 + 1) (u1 c14_7 y17_7 1) (u1 c16_7 y17_7 z_12) b0_46 _ _ _ (by omega) (by omega) hN3 (by omega) (by first | (intro h; exfalso; omega) | exact fun _ => (by rw [← hJ3.get (by omega), kys_go (B := B) (n := (v 3)) (p := qq) (c := y17_7) (by omega) (by omega) (by rw [hky]) (by rw [hky]; show tK B (v 3) (tX B (v 3) (tX B (v 3) qq)) = 44; omega), hky])) (by first | (intro h; exfalso; omega) | exact fun _ => (by rw [← hJ3.get (by omega), kys_stop (B := B) (n := (v 3)) (p := qq) (c := y17_7) (by omega) (by omega) (Or.inr (by rw [hky]; show tK B (v 3) (tX B (v 3) (tX B (v 3) qq)) ≠ 44; omega)), hky])) (by first | (intro h; exfalso; omega) | exact fun _ => (by rw [kyP_s (by omega), ← hC1.get (by omega)])) (by first | (intro h; exfalso; omega) | exact fun _ => (by have h8 := hC2.get (by omega); rw [kyN_go (x := y17_7) (by omega) (by omega)] at h8; omega)) (by first | (intro h; exfalso; omega) | exact fun _ => (by have h8 := hC2.get (by omega); rw [kyN_end (x := y17_7) (by omega) (by omega)] at h8; omega)) (kyM_put hC4.get (by omega) (by rw [← hC1.get (by omega)]; omega) (by rw [← hC1.get (by omega)]; first | (rw [if_pos (by omega)]; omega) | (rw [if_neg (by omega)]; omega))) hP hS (lv_sub hl [3, 0] rfl)
                    · exfalso; omega
                · have v_19 := p1_19.mp (show z_19 = 1 by omega)
                  clear p1_19
                  refine lv_iconst (v := iI 0) hx hb dX11_readKeys_116 rfl ?_
                  refine lv_goto (tgt := 197) hx hb dX11_readKeys_117 (by decide) ?_
                  refine lv_istore_n (lv' := [(3, .int (iI 0)), (2, .int (iI z_12)), (0, .ref (ad 0)), (1, .int (iI x1))]) hx hb dX11_readKeys_197 rfl hl (by decide) rfl (fun ls hl => ?_)
                  refine lv_iload_n hx hb dX11_readKeys_198 rfl (lv_at hl 0 rfl) ?_
                  refine gi_zge (tgt := 207) hx hb dX11_readKeys_199 (by decide) (by decide) (fun c_47 => ?_) (fun c_47 => ?_)
                  · refine lv_aload_n hx hb dX11_readKeys_207 rfl (lv_at hl 2 rfl) ?_
                    refine mdG_newUp C hP mF_X11_67 dX11_readKeys_208 ?_
                    refine lv_aload_n hx hb dX11_readKeys_211 rfl (lv_at hl 2 rfl) ?_
                    refine mdG_newKeys C hP mF_X11_214 dX11_readKeys_212 ?_
                    show W p l e (gRm 2 42) s m args below meth c _ _ 0 0 Q (F0 m 215 ls [.int (iI y17_7), .ref (ad 17)])
                    refine lv_iload_n hx hb dX11_readKeys_215 rfl (lv_at hl 1 rfl) ?_
                    refine mdS_newUp (f1 := (va_up (va_up f 14 c14_7) 16 (u1 c16_7 y17_7 z_12))) C hP hD hS (by omega) (by omega) (by omega) (by omega) rfl (Or.inr (gF_up (V := mdV) (F := mdF) (gF_up (V := mdV) (F := mdF) (gR_up (V := mdV) (F := mdF) (gR_up (V := mdV) (F := mdF) (gR_up (V := mdV) (F := mdF) (gR_up (V := mdV) (F := mdF) (gR_up (V := mdV) (F := mdF) (gR_up (V := mdV) (F := mdF) (gR_up (V := mdV) (F := mdF) ⟨hok.1, hok.2⟩ 6 (hP.2.1 6)) 7 (hP.2.1 7)) 8 (hP.2.1 8)) 9 (hP.2.1 9)) 10 (hP.2.1 10)) 11 (hP.2.1 11)) 17 (hP.2.1 17)) 14 (hP.2.2 14)) 16 (u1_rng (hP.2.2 16) (show 0 ≤ z_12 ∧ z_12 ≤ 1 from (by omega))))) dX11_readKeys_216 (fun H locs hP hS => ?_)
                    refine lv_aload_n hx hb dX11_readKeys_217 rfl (lv_at hl 2 rfl) ?_
                    refine mdG_newKey C hP mF_X11_60 dX11_readKeys_218 ?_
                    refine lv_aload_n hx hb dX11_readKeys_221 rfl (lv_at hl 2 rfl) ?_
                    refine mdG_newKeys C hP mF_X11_214 dX11_readKeys_222 ?_
                    show W p l e (gRm 2 42) s m args below meth c _ _ 0 0 Q (F0 m 225 ls [.int (iI y17_7), .ref (ad 15)])
                    refine lv_iload_n hx hb dX11_readKeys_225 rfl (lv_at hl 0 rfl) ?_
                    refine mdS_newKey (f1 := (va_up (va_up f 14 (u1 c14_7 y17_7 0)) 16 (u1 c16_7 y17_7 z_12))) C hP hD hS (by omega) (by omega) (by decide) rfl (Or.inr (gF_up (V := mdV) (F := mdF) (gF_up (V := mdV) (F := mdF) (gR_up (V := mdV) (F := mdF) (gR_up (V := mdV) (F := mdF) (gR_up (V := mdV) (F := mdF) (gR_up (V := mdV) (F := mdF) (gR_up (V := mdV) (F := mdF) (gR_up (V := mdV) (F := mdF) (gR_up (V := mdV) (F := mdF) ⟨hok.1, hok.2⟩ 6 (hP.2.1 6)) 7 (hP.2.1 7)) 8 (hP.2.1 8)) 9 (hP.2.1 9)) 10 (hP.2.1 10)) 11 (hP.2.1 11)) 17 (hP.2.1 17)) 14 (u1_rng (hP.2.2 14) (show 0 ≤ 0 ∧ 0 ≤ 3 from (by decide)))) 16 (hP.2.2 16))) dX11_readKeys_226 (fun H locs hP hS => ?_)
                    refine lv_aload_n hx hb dX11_readKeys_227 rfl (lv_at hl 2 rfl) ?_
                    refine lv_dup hx hb dX11_readKeys_228 rfl ?_
                    refine mdG_newKeys C hP mF_X11_214 dX11_readKeys_229 ?_
                    show W p l e (gRm 2 42) s m args below meth c _ _ 0 0 Q (F0 m 232 ls [.int (iI y17_7), .ref (ad 0)])
                    refine lv_iconst (v := iI 1) hx hb dX11_readKeys_232 rfl ?_
                    refine gi_add (z := (y17_7 + 1)) hx hb dX11_readKeys_233 rfl ?_
                    refine mdP_newKeys (v1 := (va_up (va_up (va_up (va_up (va_up (va_up (va_up v 6 y6_7) 7 y7_7) 8 w8_17) 9 w9_17) 10 w10_17) 11 w11_17) 17 (y17_7 + 1))) C hP hD hS mF_X11_214 (by omega) rfl (Or.inr (gF_up (V := mdV) (F := mdF) (gF_up (V := mdV) (F := mdF) (gR_up (V := mdV) (F := mdF) (gR_up (V := mdV) (F := mdF) (gR_up (V := mdV) (F := mdF) (gR_up (V := mdV) (F := mdF) (gR_up (V := mdV) (F := mdF) (gR_up (V := mdV) (F := mdF) (gR_up (V := mdV) (F := mdF) ⟨hok.1, hok.2⟩ 6 (hP.2.1 6)) 7 (hP.2.1 7)) 8 (hP.2.1 8)) 9 (hP.2.1 9)) 10 (hP.2.1 10)) 11 (hP.2.1 11)) 17 (show 0 ≤ (y17_7 + 1) ∧ (y17_7 + 1) ≤ 4 from by omega)) 14 (hP.2.2 14)) 16 (hP.2.2 16))) dX11_readKeys_234 (fun H locs hP hS => ?_)
                    refine lv_aload_n hx hb dX11_readKeys_237 rfl (lv_at hl 2 rfl) ?_
                    refine g_cv (As := []) (rest := []) (n := 0) C hml (n_next l D k A ad hD (va_up (va_up (va_up (va_up (va_up (va_up (va_up v 6 y6_7) 7 y7_7) 8 w8_17) 9 w9_17) 10 w10_17) 11 w11_17) 17 (y17_7 + 1)) (va_up (va_up f 14 (u1 c14_7 y17_7 0)) 16 (u1 c16_7 y17_7 z_12)) (va_up g 0 b0_17) B (show ∀ k, (f 0) k % 256 = B k from hB) (show 0 ≤ w10_17 ∧ w10_17 ≤ (v 3) from by omega)) mM_X11_201 mI_X11_next mE_X11_next mN_X11 mC_X11_next (by decide +kernel) 0 (ci := 11) rfl rfl hP hS (fun _ h => h) ⟨Nat.le_of_ble_eq_true rfl, Nat.le_of_ble_eq_true rfl⟩ ⟨Nat.zero_le _, Nat.zero_le _⟩ hl.1 rfl rfl (Nat.le_of_ble_eq_true rfl) dX11_readKeys_238 (fun r_48 v_48 f_48 g_48 H locs hq_48 hP _ hS => ?_)
                    obtain ⟨w8_48, w9_48, w10_48, w11_48, b0_48, rfl, rfl, rfl, rfl, p0_48⟩ := hq_48
                    show W p l e (gRm 2 42) s m args below meth c _ _ 0 0 Q (F0 m 241 ls [])
                    have hP : gWd D (mdT k ad) (va_up (va_up (va_up (va_up (va_up (va_up (va_up v 6 y6_7) 7 y7_7) 8 w8_48) 9 w9_48) 10 w10_48) 11 w11_48) 17 (y17_7 + 1)) (va_up (va_up f 14 (u1 c14_7 y17_7 0)) 16 (u1 c16_7 y17_7 z_12)) (va_up g 0 b0_48) H := ⟨hP.1, (gF_up (V := mdV) (F := mdF) (gF_up (V := mdV) (F := mdF) (gR_up (V := mdV) (F := mdF) (gR_up (V := mdV) (F := mdF) (gR_up (V := mdV) (F := mdF) (gR_up (V := mdV) (F := mdF) (gR_up (V := mdV) (F := mdF) (gR_up (V := mdV) (F := mdF) (gR_up (V := mdV) (F := mdF) ⟨hok.1, hok.2⟩ 6 (hP.2.1 6)) 7 (hP.2.1 7)) 8 (hP.2.1 8)) 9 (hP.2.1 9)) 10 (hP.2.1 10)) 11 (hP.2.1 11)) 17 (hP.2.1 17)) 14 (hP.2.2 14)) 16 (hP.2.2 16))⟩
                    replace p0_48 : mAt B (v 3) w9_48 w10_48 w8_48 w11_48 (b0_48 0) (run bW B (v 3) w10_17) := p0_48
                    have rw8_48 : 0 ≤ w8_48 ∧ w8_48 ≤ 4 := hP.2.1 8
                    have rw9_48 : 0 ≤ w9_48 ∧ w9_48 ≤ 700 := hP.2.1 9
                    have rw10_48 : 0 ≤ w10_48 ∧ w10_48 ≤ 700 := hP.2.1 10
                    have rw11_48 : 0 ≤ w11_48 ∧ w11_48 ≤ 999999 := hP.2.1 11
                    have hN2 : mAt B (v 3) w9_48 w10_48 w8_48 w11_48 (b0_48 0) (tX B (v 3) (tX B (v 3) qq)) := by have h := p0_48; rw [hN1.bh] at h; exact h
                    clear p0_48
                    have hu2 := tX_up (B := B) (n := (v 3)) (q := (tX B (v 3) qq)) (by have h9 := (not_congr (tK_end (B := B) (n := (v 3)) (q := (tX B (v 3) qq)))).mp (by omega); omega)
                    have hle2 := hN2.le
                    have hky : ky1 B (v 3) y17_7 qq = (0, tX B (v 3) (tX B (v 3) qq)) := ky1_d (by omega) (by omega) (by omega)
                    refine lv_aload_n hx hb dX11_readKeys_241 rfl (lv_at hl 2 rfl) ?_
                    refine lv_bipush (v := iI 44) hx hb dX11_readKeys_242 (by decide) ?_
                    refine g_cv (As := [.int (iI 44)]) (rest := []) (n := 1) C hml (n_isS l D k A ad hD (va_up (va_up (va_up (va_up (va_up (va_up (va_up v 6 y6_7) 7 y7_7) 8 w8_48) 9 w9_48) 10 w10_48) 11 w11_48) 17 (y17_7 + 1)) (va_up (va_up f 14 (u1 c14_7 y17_7 0)) 16 (u1 c16_7 y17_7 z_12)) (va_up g 0 b0_48) 44 B (tX B (v 3) (tX B (v 3) qq)) (by decide) (show mAt B (v 3) w9_48 w10_48 w8_48 w11_48 (b0_48 0) (tX B (v 3) (tX B (v 3) qq)) from hN2) (show 40 ≤ (44 : Int) ∧ (44 : Int) < 256 from by omega)) mM_X11_204 mI_X11_isSign mE_X11_isSign mN_X11 mC_X11_isSign (by decide +kernel) 0 (ci := 11) rfl rfl hP hS (fun _ h => h) ⟨Nat.le_of_ble_eq_true rfl, Nat.le_of_ble_eq_true rfl⟩ ⟨Nat.zero_le _, Nat.zero_le _⟩ hl.1 rfl rfl (Nat.le_of_ble_eq_true rfl) dX11_readKeys_244 (fun r_49 v_49 f_49 g_49 H locs hq_49 hP _ hS => ?_)
                    obtain ⟨z_49, rfl, rfl, rfl, rfl, p0_49, p1_49⟩ := hq_49
                    show W p l e (gRm 2 42) s m args below meth c _ _ 0 0 Q (F0 m 247 ls [.int (iI z_49)])
                    replace p0_49 : 0 ≤ z_49 ∧ z_49 ≤ 1 := p0_49
                    replace p1_49 : z_49 = 1 ↔ (tK B (v 3) (tX B (v 3) (tX B (v 3) qq))) = (44 : Int) := p1_49
                    refine lv_istore_n (lv' := [(1, .int (iI z_49)), (3, .int (iI 0)), (2, .int (iI z_12)), (0, .ref (ad 0))]) hx hb dX11_readKeys_247 rfl hl (by decide) rfl (fun ls hl => ?_)
                    refine lv_iload_n hx hb dX11_readKeys_248 rfl (lv_at hl 0 rfl) ?_
                    refine gi_zeq (tgt := 256) hx hb dX11_readKeys_249 (by decide) (by omega) (fun c_50 => ?_) (fun c_50 => ?_)
                    · have v_49 := mt p1_49.mpr (show ¬ z_49 = 1 by omega)
                      clear p1_49
                      refine lv_goto (tgt := 7) hx hb dX11_readKeys_256 (by decide) ?_
                      exact ih_7 z_49 ((tX B (v 3) (tX B (v 3) qq))) y6_7 y7_7 w8_48 w9_48 w10_48 w11_48 (y17_7 + 1) (u1 c14_7 y17_7 0) (u1 c16_7 y17_7 z_12) b0_48 _ _ _ (by omega) (by omega) hN2 (by omega) (by first | (intro h; exfalso; omega) | exact fun _ => (by rw [← hJ3.get (by omega), kys_go (B := B) (n := (v 3)) (p := qq) (c := y17_7) (by omega) (by omega) (by rw [hky]) (by rw [hky]; show tK B (v 3) (tX B (v 3) (tX B (v 3) qq)) = 44; omega), hky])) (by first | (intro h; exfalso; omega) | exact fun _ => (by rw [← hJ3.get (by omega), kys_stop (B := B) (n := (v 3)) (p := qq) (c := y17_7) (by omega) (by omega) (Or.inr (by rw [hky]; show tK B (v 3) (tX B (v 3) (tX B (v 3) qq)) ≠ 44; omega)), hky])) (by first | (intro h; exfalso; omega) | exact fun _ => (by rw [kyP_s (by omega), ← hC1.get (by omega)])) (by first | (intro h; exfalso; omega) | exact fun _ => (by have h8 := hC2.get (by omega); rw [kyN_go (x := y17_7) (by omega) (by omega)] at h8; omega)) (by first | (intro h; exfalso; omega) | exact fun _ => (by have h8 := hC2.get (by omega); rw [kyN_end (x := y17_7) (by omega) (by omega)] at h8; omega)) (kyM_put hC4.get (by omega) (by rw [← hC1.get (by omega)]; omega) (by rw [← hC1.get (by omega)]; first | (rw [if_pos (by omega)]; omega) | (rw [if_neg (by omega)]; omega))) hP hS (lv_sub hl [3, 0] rfl)
                    · have v_49 := p1_49.mp (show z_49 = 1 by omega)
                      clear p1_49
                      refine lv_aload_n hx hb dX11_readKeys_252 rfl (lv_at hl 3 rfl) ?_
                      refine g_cv (As := []) (rest := []) (n := 0) C hml (n_next l D k A ad hD (va_up (va_up (va_up (va_up (va_up (va_up (va_up v 6 y6_7) 7 y7_7) 8 w8_48) 9 w9_48) 10 w10_48) 11 w11_48) 17 (y17_7 + 1)) (va_up (va_up f 14 (u1 c14_7 y17_7 0)) 16 (u1 c16_7 y17_7 z_12)) (va_up g 0 b0_48) B (show ∀ k, (f 0) k % 256 = B k from hB) (show 0 ≤ w10_48 ∧ w10_48 ≤ (v 3) from by omega)) mM_X11_201 mI_X11_next mE_X11_next mN_X11 mC_X11_next (by decide +kernel) 0 (ci := 11) rfl rfl hP hS (fun _ h => h) ⟨Nat.le_of_ble_eq_true rfl, Nat.le_of_ble_eq_true rfl⟩ ⟨Nat.zero_le _, Nat.zero_le _⟩ hl.1 rfl rfl (Nat.le_of_ble_eq_true rfl) dX11_readKeys_253 (fun r_51 v_51 f_51 g_51 H locs hq_51 hP _ hS => ?_)
                      obtain ⟨w8_51, w9_51, w10_51, w11_51, b0_51, rfl, rfl, rfl, rfl, p0_51⟩ := hq_51
                      show W p l e (gRm 2 42) s m args below meth c _ _ 0 0 Q (F0 m 256 ls [])
                      have hP : gWd D (mdT k ad) (va_up (va_up (va_up (va_up (va_up (va_up (va_up v 6 y6_7) 7 y7_7) 8 w8_51) 9 w9_51) 10 w10_51) 11 w11_51) 17 (y17_7 + 1)) (va_up (va_up f 14 (u1 c14_7 y17_7 0)) 16 (u1 c16_7 y17_7 z_12)) (va_up g 0 b0_51) H := ⟨hP.1, (gF_up (V := mdV) (F := mdF) (gF_up (V := mdV) (F := mdF) (gR_up (V := mdV) (F := mdF) (gR_up (V := mdV) (F := mdF) (gR_up (V := mdV) (F := mdF) (gR_up (V := mdV) (F := mdF) (gR_up (V := mdV) (F := mdF) (gR_up (V := mdV) (F := mdF) (gR_up (V := mdV) (F := mdF) ⟨hok.1, hok.2⟩ 6 (hP.2.1 6)) 7 (hP.2.1 7)) 8 (hP.2.1 8)) 9 (hP.2.1 9)) 10 (hP.2.1 10)) 11 (hP.2.1 11)) 17 (hP.2.1 17)) 14 (hP.2.2 14)) 16 (hP.2.2 16))⟩
                      replace p0_51 : mAt B (v 3) w9_51 w10_51 w8_51 w11_51 (b0_51 0) (run bW B (v 3) w10_48) := p0_51
                      have rw8_51 : 0 ≤ w8_51 ∧ w8_51 ≤ 4 := hP.2.1 8
                      have rw9_51 : 0 ≤ w9_51 ∧ w9_51 ≤ 700 := hP.2.1 9
                      have rw10_51 : 0 ≤ w10_51 ∧ w10_51 ≤ 700 := hP.2.1 10
                      have rw11_51 : 0 ≤ w11_51 ∧ w11_51 ≤ 999999 := hP.2.1 11
                      have hN3 : mAt B (v 3) w9_51 w10_51 w8_51 w11_51 (b0_51 0) (tX B (v 3) (tX B (v 3) (tX B (v 3) qq))) := by have h := p0_51; rw [hN2.bh] at h; exact h
                      clear p0_51
                      have hu3 := tX_up (B := B) (n := (v 3)) (q := (tX B (v 3) (tX B (v 3) qq))) (by have h9 := (not_congr (tK_end (B := B) (n := (v 3)) (q := (tX B (v 3) (tX B (v 3) qq))))).mp (by omega); omega)
                      refine lv_goto (tgt := 7) hx hb dX11_readKeys_256 (by decide) ?_
                      exact ih_7 z_49 ((tX B (v 3) (tX B (v 3) (tX B (v 3) qq)))) y6_7 y7_7 w8_51 w9_51 w10_51 w11_51 (y17_7 + 1) (u1 c14_7 y17_7 0) (u1 c16_7 y17_7 z_12) b0_51 _ _ _ (by omega) (by omega) hN3 (by omega) (by first | (intro h; exfalso; omega) | exact fun _ => (by rw [← hJ3.get (by omega), kys_go (B := B) (n := (v 3)) (p := qq) (c := y17_7) (by omega) (by omega) (by rw [hky]) (by rw [hky]; show tK B (v 3) (tX B (v 3) (tX B (v 3) qq)) = 44; omega), hky])) (by first | (intro h; exfalso; omega) | exact fun _ => (by rw [← hJ3.get (by omega), kys_stop (B := B) (n := (v 3)) (p := qq) (c := y17_7) (by omega) (by omega) (Or.inr (by rw [hky]; show tK B (v 3) (tX B (v 3) (tX B (v 3) qq)) ≠ 44; omega)), hky])) (by first | (intro h; exfalso; omega) | exact fun _ => (by rw [kyP_s (by omega), ← hC1.get (by omega)])) (by first | (intro h; exfalso; omega) | exact fun _ => (by have h8 := hC2.get (by omega); rw [kyN_go (x := y17_7) (by omega) (by omega)] at h8; omega)) (by first | (intro h; exfalso; omega) | exact fun _ => (by have h8 := hC2.get (by omega); rw [kyN_end (x := y17_7) (by omega) (by omega)] at h8; omega)) (kyM_put hC4.get (by omega) (by rw [← hC1.get (by omega)]; omega) (by rw [← hC1.get (by omega)]; first | (rw [if_pos (by omega)]; omega) | (rw [if_neg (by omega)]; omega))) hP hS (lv_sub hl [3, 0] rfl)
                  · exfalso; omega
              · exact g_vret hQ C hr hlocks hP hS dX11_readKeys_91 ⟨y6_7, y7_7, y8_7, y9_7, y10_7, y11_7, y17_7, c14_7, c16_7, d0_7, rfl, rfl, rfl, rfl, (by first | exact oM_bad (by rw [← hJ3.get (by omega), kys_stop (c := y17_7) (by omega) (by omega) (Or.inl (by rw [ky1_a (by omega)]; show _ ≠ (0 : Int); omega))]; exact ky1_a (by omega)) (by omega) (by omega) hM | exact oM_bad (by rw [← hJ3.get (by omega), kys_stop (c := y17_7) (by omega) (by omega) (Or.inl (by rw [ky1_b (by omega) (by omega)]; show _ ≠ (0 : Int); omega))]; exact ky1_b (by omega) (by omega)) (by omega) (by omega) hM), (by intro h; exfalso; omega)⟩
            · refine lv_aload_n hx hb dX11_readKeys_75 rfl (lv_at hl 1 rfl) ?_
              refine lv_iconst (v := iI 3) hx hb dX11_readKeys_76 rfl ?_
              refine lv_aload_n hx hb dX11_readKeys_77 rfl (lv_at hl 1 rfl) ?_
              refine mdG_at C hP mF_X11_158 dX11_readKeys_78 ?_
              show W p l e (gRm 2 42) s m args below meth c _ _ 0 0 Q (F0 m 81 ls [.int (iI y9_7), .int (iI 3), .ref (ad 0)])
              have r_52 : 0 ≤ y9_7 ∧ y9_7 ≤ 700 := hP.2.1 9
              refine g_cv (As := [.int (iI 3), .int (iI y9_7)]) (rest := []) (n := 2) C hml (n_fail l D k A ad hD (va_up (va_up (va_up (va_up (va_up (va_up (va_up v 6 y6_7) 7 y7_7) 8 y8_7) 9 y9_7) 10 y10_7) 11 y11_7) 17 y17_7) (va_up (va_up f 14 c14_7) 16 c16_7) (va_up g 0 d0_7) 3 y9_7 (by decide) (by omega) (show 1 ≤ (3 : Int) ∧ (3 : Int) ≤ 5 from by omega) (show 0 ≤ y9_7 ∧ y9_7 ≤ 700 from by omega)) mM_X11_194 mI_X11_fail mE_X11_fail mN_X11 mC_X11_fail (by decide +kernel) 0 (ci := 11) rfl rfl hP hS (fun _ h => h) ⟨Nat.le_of_ble_eq_true rfl, Nat.le_of_ble_eq_true rfl⟩ ⟨Nat.zero_le _, Nat.zero_le _⟩ hl.1 rfl rfl (Nat.le_of_ble_eq_true rfl) dX11_readKeys_81 (fun r_53 v_53 f_53 g_53 H locs hq_53 hP _ hS => ?_)
              obtain ⟨w6_53, w7_53, rfl, rfl, rfl, rfl, p0_53, p1_53⟩ := hq_53
              show W p l e (gRm 2 42) s m args below meth c _ _ 0 0 Q (F0 m 84 ls [])
              have hP : gWd D (mdT k ad) (va_up (va_up (va_up (va_up (va_up (va_up (va_up v 6 w6_53) 7 w7_53) 8 y8_7) 9 y9_7) 10 y10_7) 11 y11_7) 17 y17_7) (va_up (va_up f 14 c14_7) 16 c16_7) (va_up g 0 d0_7) H := ⟨hP.1, (gF_up (V := mdV) (F := mdF) (gF_up (V := mdV) (F := mdF) (gR_up (V := mdV) (F := mdF) (gR_up (V := mdV) (F := mdF) (gR_up (V := mdV) (F := mdF) (gR_up (V := mdV) (F := mdF) (gR_up (V := mdV) (F := mdF) (gR_up (V := mdV) (F := mdF) (gR_up (V := mdV) (F := mdF) ⟨hok.1, hok.2⟩ 6 (hP.2.1 6)) 7 (hP.2.1 7)) 8 (hP.2.1 8)) 9 (hP.2.1 9)) 10 (hP.2.1 10)) 11 (hP.2.1 11)) 17 (hP.2.1 17)) 14 (hP.2.2 14)) 16 (hP.2.2 16))⟩
              replace p0_53 : y6_7 = 0 → w6_53 = (3 : Int) ∧ w7_53 = y9_7 := p0_53
              replace p1_53 : 0 < y6_7 → w6_53 = y6_7 ∧ w7_53 = y7_7 := p1_53
              have rw6_53 : 0 ≤ w6_53 ∧ w6_53 ≤ 5 := hP.2.1 6
              have rw7_53 : 0 ≤ w7_53 ∧ w7_53 ≤ 700 := hP.2.1 7
              first | replace p0_53 := p0_53 (by omega) | clear p0_53
              first | replace p1_53 := p1_53 (by omega) | clear p1_53
              refine lv_aload_n hx hb dX11_readKeys_84 rfl (lv_at hl 1 rfl) ?_
              refine mdG_bad C hP mF_X11_188 dX11_readKeys_85 ?_
              show W p l e (gRm 2 42) s m args below meth c _ _ 0 0 Q (F0 m 88 ls [.int (iI w6_53)])
              have r_54 : 0 ≤ w6_53 ∧ w6_53 ≤ 5 := hP.2.1 6
              refine gi_zle (tgt := 92) hx hb dX11_readKeys_88 (by decide) (by omega) (fun c_55 => ?_) (fun c_55 => ?_)
              · refine lv_aload_n hx hb dX11_readKeys_92 rfl (lv_at hl 1 rfl) ?_
                refine g_cv (As := []) (rest := []) (n := 0) C hml (n_next l D k A ad hD (va_up (va_up (va_up (va_up (va_up (va_up (va_up v 6 w6_53) 7 w7_53) 8 y8_7) 9 y9_7) 10 y10_7) 11 y11_7) 17 y17_7) (va_up (va_up f 14 c14_7) 16 c16_7) (va_up g 0 d0_7) B (show ∀ k, (f 0) k % 256 = B k from hB) (show 0 ≤ y10_7 ∧ y10_7 ≤ (v 3) from by omega)) mM_X11_201 mI_X11_next mE_X11_next mN_X11 mC_X11_next (by decide +kernel) 0 (ci := 11) rfl rfl hP hS (fun _ h => h) ⟨Nat.le_of_ble_eq_true rfl, Nat.le_of_ble_eq_true rfl⟩ ⟨Nat.zero_le _, Nat.zero_le _⟩ hl.1 rfl rfl (Nat.le_of_ble_eq_true rfl) dX11_readKeys_93 (fun r_56 v_56 f_56 g_56 H locs hq_56 hP _ hS => ?_)
                obtain ⟨w8_56, w9_56, w10_56, w11_56, b0_56, rfl, rfl, rfl, rfl, p0_56⟩ := hq_56
                show W p l e (gRm 2 42) s m args below meth c _ _ 0 0 Q (F0 m 96 ls [])
                have hP : gWd D (mdT k ad) (va_up (va_up (va_up (va_up (va_up (va_up (va_up v 6 w6_53) 7 w7_53) 8 w8_56) 9 w9_56) 10 w10_56) 11 w11_56) 17 y17_7) (va_up (va_up f 14 c14_7) 16 c16_7) (va_up g 0 b0_56) H := ⟨hP.1, (gF_up (V := mdV) (F := mdF) (gF_up (V := mdV) (F := mdF) (gR_up (V := mdV) (F := mdF) (gR_up (V := mdV) (F := mdF) (gR_up (V := mdV) (F := mdF) (gR_up (V := mdV) (F := mdF) (gR_up (V := mdV) (F := mdF) (gR_up (V := mdV) (F := mdF) (gR_up (V := mdV) (F := mdF) ⟨hok.1, hok.2⟩ 6 (hP.2.1 6)) 7 (hP.2.1 7)) 8 (hP.2.1 8)) 9 (hP.2.1 9)) 10 (hP.2.1 10)) 11 (hP.2.1 11)) 17 (hP.2.1 17)) 14 (hP.2.2 14)) 16 (hP.2.2 16))⟩
                replace p0_56 : mAt B (v 3) w9_56 w10_56 w8_56 w11_56 (b0_56 0) (run bW B (v 3) y10_7) := p0_56
                have rw8_56 : 0 ≤ w8_56 ∧ w8_56 ≤ 4 := hP.2.1 8
                have rw9_56 : 0 ≤ w9_56 ∧ w9_56 ≤ 700 := hP.2.1 9
                have rw10_56 : 0 ≤ w10_56 ∧ w10_56 ≤ 700 := hP.2.1 10
                have rw11_56 : 0 ≤ w11_56 ∧ w11_56 ≤ 999999 := hP.2.1 11
                have hN1 : mAt B (v 3) w9_56 w10_56 w8_56 w11_56 (b0_56 0) (tX B (v 3) qq) := by have h := p0_56; rw [hM.bh] at h; exact h
                clear p0_56
                have hu1 := tX_up (B := B) (n := (v 3)) (q := qq) (by have h9 := (not_congr (tK_end (B := B) (n := (v 3)) (q := qq))).mp (by omega); omega)
                have hle1 := hN1.le
                refine lv_aload_n hx hb dX11_readKeys_96 rfl (lv_at hl 1 rfl) ?_
                refine lv_bipush (v := iI 115) hx hb dX11_readKeys_97 (by decide) ?_
                refine lv_bipush (v := iI 117) hx hb dX11_readKeys_99 (by decide) ?_
                refine lv_bipush (v := iI 109) hx hb dX11_readKeys_101 (by decide) ?_
                refine lv_iconst (v := iI 0) hx hb dX11_readKeys_103 rfl ?_
                refine lv_iconst (v := iI 0) hx hb dX11_readKeys_104 rfl ?_
                refine lv_iconst (v := iI 0) hx hb dX11_readKeys_105 rfl ?_
                refine lv_iconst (v := iI 0) hx hb dX11_readKeys_106 rfl ?_
                refine g_cs (As := [.int (iI 115), .int (iI 117), .int (iI 109), .int (iI 0), .int (iI 0), .int (iI 0), .int (iI 0)]) (rest := [.ref (ad 0)]) (n := 7) C hml (n_spelled l D k A ad hD (va_up (va_up (va_up (va_up (va_up (va_up (va_up v 6 w6_53) 7 w7_53) 8 w8_56) 9 w9_56) 10 w10_56) 11 w11_56) 17 y17_7) (va_up (va_up f 14 c14_7) 16 c16_7) (va_up g 0 b0_56) 115 117 109 0 0 0 0 (by decide) (by decide) (by decide) (by decide) (by decide) (by decide) (by decide)) mM_X11_228 mS_X11_spelled mN_X11 mC_X11_spelled (by decide +kernel) hP hS (fun _ h => h) ⟨Nat.le_of_ble_eq_true rfl, Nat.le_of_ble_eq_true rfl⟩ ⟨Nat.zero_le _, Nat.zero_le _⟩ hl.1 rfl rfl (Nat.le_of_ble_eq_true rfl) dX11_readKeys_107 (fun r_57 v_57 f_57 g_57 H locs hq_57 hP _ hS => ?_)
                obtain ⟨z_57, rfl, rfl, rfl, rfl, p0_57⟩ := hq_57
                show W p l e (gRm 2 42) s m args below meth c _ _ 0 0 Q (F0 m 110 ls [.long (iL z_57), .ref (ad 0)])
                replace p0_57 : z_57 = (spW (115 : Int) (117 : Int) (109 : Int) (0 : Int) (0 : Int) (0 : Int) (0 : Int)) := p0_57
                have hsp := p0_57
                clear p0_57
                refine g_cv (As := [.long (iL z_57)]) (rest := []) (n := 1) C hml (n_isW l D k A ad hD (va_up (va_up (va_up (va_up (va_up (va_up (va_up v 6 w6_53) 7 w7_53) 8 w8_56) 9 w9_56) 10 w10_56) 11 w11_56) 17 y17_7) (va_up (va_up f 14 c14_7) 16 c16_7) (va_up g 0 b0_56) z_57 B (tX B (v 3) qq) 8 (show mAt B (v 3) w9_56 w10_56 w8_56 w11_56 (b0_56 0) (tX B (v 3) qq) from hN1) (show z_57 = hW 8 ∧ 8 < 18 from ⟨by rw [hsp]; decide +kernel, by decide⟩)) mM_X11_232 mI_X11_isWord mE_X11_isWord mN_X11 mC_X11_isWord (by decide +kernel) 0 (ci := 11) rfl rfl hP hS (fun _ h => h) ⟨Nat.le_of_ble_eq_true rfl, Nat.le_of_ble_eq_true rfl⟩ ⟨Nat.zero_le _, Nat.zero_le _⟩ hl.1 rfl rfl (Nat.le_of_ble_eq_true rfl) dX11_readKeys_110 (fun r_58 v_58 f_58 g_58 H locs hq_58 hP _ hS => ?_)
                obtain ⟨z_58, rfl, rfl, rfl, rfl, p0_58, p1_58⟩ := hq_58
                show W p l e (gRm 2 42) s m args below meth c _ _ 0 0 Q (F0 m 113 ls [.int (iI z_58)])
                replace p0_58 : 0 ≤ z_58 ∧ z_58 ≤ 1 := p0_58
                replace p1_58 : z_58 = 1 ↔ (tK B (v 3) (tX B (v 3) qq)) = 260 + (8 : Int) := p1_58
                refine gi_zeq (tgt := 120) hx hb dX11_readKeys_113 (by decide) (by omega) (fun c_59 => ?_) (fun c_59 => ?_)
                · have v_58 := mt p1_58.mpr (show ¬ z_58 = 1 by omega)
                  clear p1_58
                  refine lv_aload_n hx hb dX11_readKeys_120 rfl (lv_at hl 1 rfl) ?_
                  refine lv_bipush (v := iI 109) hx hb dX11_readKeys_121 (by decide) ?_
                  refine lv_bipush (v := iI 111) hx hb dX11_readKeys_123 (by decide) ?_
                  refine lv_bipush (v := iI 115) hx hb dX11_readKeys_125 (by decide) ?_
                  refine lv_bipush (v := iI 116) hx hb dX11_readKeys_127 (by decide) ?_
                  refine lv_iconst (v := iI 0) hx hb dX11_readKeys_129 rfl ?_
                  refine lv_iconst (v := iI 0) hx hb dX11_readKeys_130 rfl ?_
                  refine lv_iconst (v := iI 0) hx hb dX11_readKeys_131 rfl ?_
                  refine g_cs (As := [.int (iI 109), .int (iI 111), .int (iI 115), .int (iI 116), .int (iI 0), .int (iI 0), .int (iI 0)]) (rest := [.ref (ad 0)]) (n := 7) C hml (n_spelled l D k A ad hD (va_up (va_up (va_up (va_up (va_up (va_up (va_up v 6 w6_53) 7 w7_53) 8 w8_56) 9 w9_56) 10 w10_56) 11 w11_56) 17 y17_7) (va_up (va_up f 14 c14_7) 16 c16_7) (va_up g 0 b0_56) 109 111 115 116 0 0 0 (by decide) (by decide) (by decide) (by decide) (by decide) (by decide) (by decide)) mM_X11_228 mS_X11_spelled mN_X11 mC_X11_spelled (by decide +kernel) hP hS (fun _ h => h) ⟨Nat.le_of_ble_eq_true rfl, Nat.le_of_ble_eq_true rfl⟩ ⟨Nat.zero_le _, Nat.zero_le _⟩ hl.1 rfl rfl (Nat.le_of_ble_eq_true rfl) dX11_readKeys_132 (fun r_60 v_60 f_60 g_60 H locs hq_60 hP _ hS => ?_)
                  obtain ⟨z_60, rfl, rfl, rfl, rfl, p0_60⟩ := hq_60
                  show W p l e (gRm 2 42) s m args below meth c _ _ 0 0 Q (F0 m 135 ls [.long (iL z_60), .ref (ad 0)])
                  replace p0_60 : z_60 = (spW (109 : Int) (111 : Int) (115 : Int) (116 : Int) (0 : Int) (0 : Int) (0 : Int)) := p0_60
                  have hsp := p0_60
                  clear p0_60
                  refine g_cv (As := [.long (iL z_60)]) (rest := []) (n := 1) C hml (n_isW l D k A ad hD (va_up (va_up (va_up (va_up (va_up (va_up (va_up v 6 w6_53) 7 w7_53) 8 w8_56) 9 w9_56) 10 w10_56) 11 w11_56) 17 y17_7) (va_up (va_up f 14 c14_7) 16 c16_7) (va_up g 0 b0_56) z_60 B (tX B (v 3) qq) 9 (show mAt B (v 3) w9_56 w10_56 w8_56 w11_56 (b0_56 0) (tX B (v 3) qq) from hN1) (show z_60 = hW 9 ∧ 9 < 18 from ⟨by rw [hsp]; decide +kernel, by decide⟩)) mM_X11_232 mI_X11_isWord mE_X11_isWord mN_X11 mC_X11_isWord (by decide +kernel) 0 (ci := 11) rfl rfl hP hS (fun _ h => h) ⟨Nat.le_of_ble_eq_true rfl, Nat.le_of_ble_eq_true rfl⟩ ⟨Nat.zero_le _, Nat.zero_le _⟩ hl.1 rfl rfl (Nat.le_of_ble_eq_true rfl) dX11_readKeys_135 (fun r_61 v_61 f_61 g_61 H locs hq_61 hP _ hS => ?_)
                  obtain ⟨z_61, rfl, rfl, rfl, rfl, p0_61, p1_61⟩ := hq_61
                  show W p l e (gRm 2 42) s m args below meth c _ _ 0 0 Q (F0 m 138 ls [.int (iI z_61)])
                  replace p0_61 : 0 ≤ z_61 ∧ z_61 ≤ 1 := p0_61
                  replace p1_61 : z_61 = 1 ↔ (tK B (v 3) (tX B (v 3) qq)) = 260 + (9 : Int) := p1_61
                  refine gi_zeq (tgt := 145) hx hb dX11_readKeys_138 (by decide) (by omega) (fun c_62 => ?_) (fun c_62 => ?_)
                  · have v_61 := mt p1_61.mpr (show ¬ z_61 = 1 by omega)
                    clear p1_61
                    refine lv_aload_n hx hb dX11_readKeys_145 rfl (lv_at hl 1 rfl) ?_
                    refine lv_bipush (v := iI 116) hx hb dX11_readKeys_146 (by decide) ?_
                    refine lv_bipush (v := iI 111) hx hb dX11_readKeys_148 (by decide) ?_
                    refine lv_bipush (v := iI 112) hx hb dX11_readKeys_150 (by decide) ?_
                    refine lv_bipush (v := iI 115) hx hb dX11_readKeys_152 (by decide) ?_
                    refine lv_iconst (v := iI 0) hx hb dX11_readKeys_154 rfl ?_
                    refine lv_iconst (v := iI 0) hx hb dX11_readKeys_155 rfl ?_
                    refine lv_iconst (v := iI 0) hx hb dX11_readKeys_156 rfl ?_
                    refine g_cs (As := [.int (iI 116), .int (iI 111), .int (iI 112), .int (iI 115), .int (iI 0), .int (iI 0), .int (iI 0)]) (rest := [.ref (ad 0)]) (n := 7) C hml (n_spelled l D k A ad hD (va_up (va_up (va_up (va_up (va_up (va_up (va_up v 6 w6_53) 7 w7_53) 8 w8_56) 9 w9_56) 10 w10_56) 11 w11_56) 17 y17_7) (va_up (va_up f 14 c14_7) 16 c16_7) (va_up g 0 b0_56) 116 111 112 115 0 0 0 (by decide) (by decide) (by decide) (by decide) (by decide) (by decide) (by decide)) mM_X11_228 mS_X11_spelled mN_X11 mC_X11_spelled (by decide +kernel) hP hS (fun _ h => h) ⟨Nat.le_of_ble_eq_true rfl, Nat.le_of_ble_eq_true rfl⟩ ⟨Nat.zero_le _, Nat.zero_le _⟩ hl.1 rfl rfl (Nat.le_of_ble_eq_true rfl) dX11_readKeys_157 (fun r_63 v_63 f_63 g_63 H locs hq_63 hP _ hS => ?_)
                    obtain ⟨z_63, rfl, rfl, rfl, rfl, p0_63⟩ := hq_63
                    show W p l e (gRm 2 42) s m args below meth c _ _ 0 0 Q (F0 m 160 ls [.long (iL z_63), .ref (ad 0)])
                    replace p0_63 : z_63 = (spW (116 : Int) (111 : Int) (112 : Int) (115 : Int) (0 : Int) (0 : Int) (0 : Int)) := p0_63
                    have hsp := p0_63
                    clear p0_63
                    refine g_cv (As := [.long (iL z_63)]) (rest := []) (n := 1) C hml (n_isW l D k A ad hD (va_up (va_up (va_up (va_up (va_up (va_up (va_up v 6 w6_53) 7 w7_53) 8 w8_56) 9 w9_56) 10 w10_56) 11 w11_56) 17 y17_7) (va_up (va_up f 14 c14_7) 16 c16_7) (va_up g 0 b0_56) z_63 B (tX B (v 3) qq) 10 (show mAt B (v 3) w9_56 w10_56 w8_56 w11_56 (b0_56 0) (tX B (v 3) qq) from hN1) (show z_63 = hW 10 ∧ 10 < 18 from ⟨by rw [hsp]; decide +kernel, by decide⟩)) mM_X11_232 mI_X11_isWord mE_X11_isWord mN_X11 mC_X11_isWord (by decide +kernel) 0 (ci := 11) rfl rfl hP hS (fun _ h => h) ⟨Nat.le_of_ble_eq_true rfl, Nat.le_of_ble_eq_true rfl⟩ ⟨Nat.zero_le _, Nat.zero_le _⟩ hl.1 rfl rfl (Nat.le_of_ble_eq_true rfl) dX11_readKeys_160 (fun r_64 v_64 f_64 g_64 H locs hq_64 hP _ hS => ?_)
                    obtain ⟨z_64, rfl, rfl, rfl, rfl, p0_64, p1_64⟩ := hq_64
                    show W p l e (gRm 2 42) s m args below meth c _ _ 0 0 Q (F0 m 163 ls [.int (iI z_64)])
                    replace p0_64 : 0 ≤ z_64 ∧ z_64 ≤ 1 := p0_64
                    replace p1_64 : z_64 = 1 ↔ (tK B (v 3) (tX B (v 3) qq)) = 260 + (10 : Int) := p1_64
                    refine gi_zeq (tgt := 170) hx hb dX11_readKeys_163 (by decide) (by omega) (fun c_65 => ?_) (fun c_65 => ?_)
                    · have v_64 := mt p1_64.mpr (show ¬ z_64 = 1 by omega)
                      clear p1_64
                      refine lv_aload_n hx hb dX11_readKeys_170 rfl (lv_at hl 1 rfl) ?_
                      refine lv_bipush (v := iI 122) hx hb dX11_readKeys_171 (by decide) ?_
                      refine lv_bipush (v := iI 111) hx hb dX11_readKeys_173 (by decide) ?_
                      refine lv_bipush (v := iI 110) hx hb dX11_readKeys_175 (by decide) ?_
                      refine lv_bipush (v := iI 101) hx hb dX11_readKeys_177 (by decide) ?_
                      refine lv_bipush (v := iI 115) hx hb dX11_readKeys_179 (by decide) ?_
                      refine lv_iconst (v := iI 0) hx hb dX11_readKeys_181 rfl ?_
                      refine lv_iconst (v := iI 0) hx hb dX11_readKeys_182 rfl ?_
                      refine g_cs (As := [.int (iI 122), .int (iI 111), .int (iI 110), .int (iI 101), .int (iI 115), .int (iI 0), .int (iI 0)]) (rest := [.ref (ad 0)]) (n := 7) C hml (n_spelled l D k A ad hD (va_up (va_up (va_up (va_up (va_up (va_up (va_up v 6 w6_53) 7 w7_53) 8 w8_56) 9 w9_56) 10 w10_56) 11 w11_56) 17 y17_7) (va_up (va_up f 14 c14_7) 16 c16_7) (va_up g 0 b0_56) 122 111 110 101 115 0 0 (by decide) (by decide) (by decide) (by decide) (by decide) (by decide) (by decide)) mM_X11_228 mS_X11_spelled mN_X11 mC_X11_spelled (by decide +kernel) hP hS (fun _ h => h) ⟨Nat.le_of_ble_eq_true rfl, Nat.le_of_ble_eq_true rfl⟩ ⟨Nat.zero_le _, Nat.zero_le _⟩ hl.1 rfl rfl (Nat.le_of_ble_eq_true rfl) dX11_readKeys_183 (fun r_66 v_66 f_66 g_66 H locs hq_66 hP _ hS => ?_)
                      obtain ⟨z_66, rfl, rfl, rfl, rfl, p0_66⟩ := hq_66
                      show W p l e (gRm 2 42) s m args below meth c _ _ 0 0 Q (F0 m 186 ls [.long (iL z_66), .ref (ad 0)])
                      replace p0_66 : z_66 = (spW (122 : Int) (111 : Int) (110 : Int) (101 : Int) (115 : Int) (0 : Int) (0 : Int)) := p0_66
                      have hsp := p0_66
                      clear p0_66
                      refine g_cv (As := [.long (iL z_66)]) (rest := []) (n := 1) C hml (n_isW l D k A ad hD (va_up (va_up (va_up (va_up (va_up (va_up (va_up v 6 w6_53) 7 w7_53) 8 w8_56) 9 w9_56) 10 w10_56) 11 w11_56) 17 y17_7) (va_up (va_up f 14 c14_7) 16 c16_7) (va_up g 0 b0_56) z_66 B (tX B (v 3) qq) 11 (show mAt B (v 3) w9_56 w10_56 w8_56 w11_56 (b0_56 0) (tX B (v 3) qq) from hN1) (show z_66 = hW 11 ∧ 11 < 18 from ⟨by rw [hsp]; decide +kernel, by decide⟩)) mM_X11_232 mI_X11_isWord mE_X11_isWord mN_X11 mC_X11_isWord (by decide +kernel) 0 (ci := 11) rfl rfl hP hS (fun _ h => h) ⟨Nat.le_of_ble_eq_true rfl, Nat.le_of_ble_eq_true rfl⟩ ⟨Nat.zero_le _, Nat.zero_le _⟩ hl.1 rfl rfl (Nat.le_of_ble_eq_true rfl) dX11_readKeys_186 (fun r_67 v_67 f_67 g_67 H locs hq_67 hP _ hS => ?_)
                      obtain ⟨z_67, rfl, rfl, rfl, rfl, p0_67, p1_67⟩ := hq_67
                      show W p l e (gRm 2 42) s m args below meth c _ _ 0 0 Q (F0 m 189 ls [.int (iI z_67)])
                      replace p0_67 : 0 ≤ z_67 ∧ z_67 ≤ 1 := p0_67
                      replace p1_67 : z_67 = 1 ↔ (tK B (v 3) (tX B (v 3) qq)) = 260 + (11 : Int) := p1_67
                      refine gi_zeq (tgt := 196) hx hb dX11_readKeys_189 (by decide) (by omega) (fun c_68 => ?_) (fun c_68 => ?_)
                      · have v_67 := mt p1_67.mpr (show ¬ z_67 = 1 by omega)
                        clear p1_67
                        refine lv_iconst (v := iI (-1)) hx hb dX11_readKeys_196 rfl ?_
                        refine lv_istore_n (lv' := [(3, .int (iI (-1))), (2, .int (iI z_12)), (0, .ref (ad 0)), (1, .int (iI x1))]) hx hb dX11_readKeys_197 rfl hl (by decide) rfl (fun ls hl => ?_)
                        refine lv_iload_n hx hb dX11_readKeys_198 rfl (lv_at hl 0 rfl) ?_
                        refine gi_zge (tgt := 207) hx hb dX11_readKeys_199 (by decide) (by decide) (fun c_69 => ?_) (fun c_69 => ?_)
                        · exfalso; omega
                        · refine lv_aload_n hx hb dX11_readKeys_202 rfl (lv_at hl 2 rfl) ?_
                          refine g_cv (As := []) (rest := []) (n := 0) C hml (n_wrC l D k A ad hD (va_up (va_up (va_up (va_up (va_up (va_up (va_up v 6 w6_53) 7 w7_53) 8 w8_56) 9 w9_56) 10 w10_56) 11 w11_56) 17 y17_7) (va_up (va_up f 14 c14_7) 16 c16_7) (va_up g 0 b0_56) B (tX B (v 3) qq) (show mAt B (v 3) w9_56 w10_56 w8_56 w11_56 (b0_56 0) (tX B (v 3) qq) from hN1)) mM_X11_198 mI_X11_wrong mE_X11_wrong mN_X11 mC_X11_wrong (by decide +kernel) 0 (ci := 11) rfl rfl hP hS (fun _ h => h) ⟨Nat.le_of_ble_eq_true rfl, Nat.le_of_ble_eq_true rfl⟩ ⟨Nat.zero_le _, Nat.zero_le _⟩ hl.1 rfl rfl (Nat.le_of_ble_eq_true rfl) dX11_readKeys_203 (fun r_70 v_70 f_70 g_70 H locs hq_70 hP _ hS => ?_)
                          obtain ⟨w6_70, w7_70, rfl, rfl, rfl, rfl, p0_70, p1_70⟩ := hq_70
                          show W p l e (gRm 2 42) s m args below meth c _ _ 0 0 Q (F0 m 206 ls [])
                          have hP : gWd D (mdT k ad) (va_up (va_up (va_up (va_up (va_up (va_up (va_up v 6 w6_70) 7 w7_70) 8 w8_56) 9 w9_56) 10 w10_56) 11 w11_56) 17 y17_7) (va_up (va_up f 14 c14_7) 16 c16_7) (va_up g 0 b0_56) H := ⟨hP.1, (gF_up (V := mdV) (F := mdF) (gF_up (V := mdV) (F := mdF) (gR_up (V := mdV) (F := mdF) (gR_up (V := mdV) (F := mdF) (gR_up (V := mdV) (F := mdF) (gR_up (V := mdV) (F := mdF) (gR_up (V := mdV) (F := mdF) (gR_up (V := mdV) (F := mdF) (gR_up (V := mdV) (F := mdF) ⟨hok.1, hok.2⟩ 6 (hP.2.1 6)) 7 (hP.2.1 7)) 8 (hP.2.1 8)) 9 (hP.2.1 9)) 10 (hP.2.1 10)) 11 (hP.2.1 11)) 17 (hP.2.1 17)) 14 (hP.2.2 14)) 16 (hP.2.2 16))⟩
                          replace p0_70 : w6_53 = 0 → w6_70 = (fk B (v 3) (tX B (v 3) qq)) ∧ w7_70 = (tX B (v 3) qq) := p0_70
                          replace p1_70 : 0 < w6_53 → w6_70 = w6_53 ∧ w7_70 = w7_53 := p1_70
                          have rw6_70 : 0 ≤ w6_70 ∧ w6_70 ≤ 5 := hP.2.1 6
                          have rw7_70 : 0 ≤ w7_70 ∧ w7_70 ≤ 700 := hP.2.1 7
                          first | replace p0_70 := p0_70 (by omega) | clear p0_70
                          first | replace p1_70 := p1_70 (by omega) | clear p1_70
                          exact g_vret hQ C hr hlocks hP hS dX11_readKeys_206 ⟨w6_70, w7_70, w8_56, w9_56, w10_56, w11_56, y17_7, c14_7, c16_7, b0_56, rfl, rfl, rfl, rfl, (oM_bad (by rw [← hJ3.get (by omega), kys_stop (c := y17_7) (by omega) (by omega) (Or.inl (by rw [ky1_c (by omega) (by omega) (by omega)]; show _ ≠ (0 : Int); omega))]; exact ky1_c (by omega) (by omega) (by omega)) (by omega) (by omega) hN1), (by intro h; exfalso; omega)⟩
                      · have v_67 := p1_67.mp (show z_67 = 1 by omega)
                        clear p1_67
                        refine lv_iconst (v := iI 3) hx hb dX11_readKeys_192 rfl ?_
                        refine lv_goto (tgt := 197) hx hb dX11_readKeys_193 (by decide) ?_
                        refine lv_istore_n (lv' := [(3, .int (iI 3)), (2, .int (iI z_12)), (0, .ref (ad 0)), (1, .int (iI x1))]) hx hb dX11_readKeys_197 rfl hl (by decide) rfl (fun ls hl => ?_)
                        refine lv_iload_n hx hb dX11_readKeys_198 rfl (lv_at hl 0 rfl) ?_
                        refine gi_zge (tgt := 207) hx hb dX11_readKeys_199 (by decide) (by decide) (fun c_71 => ?_) (fun c_71 => ?_)
                        · refine lv_aload_n hx hb dX11_readKeys_207 rfl (lv_at hl 2 rfl) ?_
                          refine mdG_newUp C hP mF_X11_67 dX11_readKeys_208 ?_
                          refine lv_aload_n hx hb dX11_readKeys_211 rfl (lv_at hl 2 rfl) ?_
                          refine mdG_newKeys C hP mF_X11_214 dX11_readKeys_212 ?_
                          show W p l e (gRm 2 42) s m args below meth c _ _ 0 0 Q (F0 m 215 ls [.int (iI y17_7), .ref (ad 17)])
                          refine lv_iload_n hx hb dX11_readKeys_215 rfl (lv_at hl 1 rfl) ?_
                          refine mdS_newUp (f1 := (va_up (va_up f 14 c14_7) 16 (u1 c16_7 y17_7 z_12))) C hP hD hS (by omega) (by omega) (by omega) (by omega) rfl (Or.inr (gF_up (V := mdV) (F := mdF) (gF_up (V := mdV) (F := mdF) (gR_up (V := mdV) (F := mdF) (gR_up (V := mdV) (F := mdF) (gR_up (V := mdV) (F := mdF) (gR_up (V := mdV) (F := mdF) (gR_up (V := mdV) (F := mdF) (gR_up (V := mdV) (F := mdF) (gR_up (V := mdV) (F := mdF) ⟨hok.1, hok.2⟩ 6 (hP.2.1 6)) 7 (hP.2.1 7)) 8 (hP.2.1 8)) 9 (hP.2.1 9)) 10 (hP.2.1 10)) 11 (hP.2.1 11)) 17 (hP.2.1 17)) 14 (hP.2.2 14)) 16 (u1_rng (hP.2.2 16) (show 0 ≤ z_12 ∧ z_12 ≤ 1 from (by omega))))) dX11_readKeys_216 (fun H locs hP hS => ?_)
                          refine lv_aload_n hx hb dX11_readKeys_217 rfl (lv_at hl 2 rfl) ?_
                          refine mdG_newKey C hP mF_X11_60 dX11_readKeys_218 ?_
                          refine lv_aload_n hx hb dX11_readKeys_221 rfl (lv_at hl 2 rfl) ?_
                          refine mdG_newKeys C hP mF_X11_214 dX11_readKeys_222 ?_
                          show W p l e (gRm 2 42) s m args below meth c _ _ 0 0 Q (F0 m 225 ls [.int (iI y17_7), .ref (ad 15)])
                          refine lv_iload_n hx hb dX11_readKeys_225 rfl (lv_at hl 0 rfl) ?_
                          refine mdS_newKey (f1 := (va_up (va_up f 14 (u1 c14_7 y17_7 3)) 16 (u1 c16_7 y17_7 z_12))) C hP hD hS (by omega) (by omega) (by decide) rfl (Or.inr (gF_up (V := mdV) (F := mdF) (gF_up (V := mdV) (F := mdF) (gR_up (V := mdV) (F := mdF) (gR_up (V := mdV) (F := mdF) (gR_up (V := mdV) (F := mdF) (gR_up (V := mdV) (F := mdF) (gR_up (V := mdV) (F := mdF) (gR_up (V := mdV) (F := mdF) (gR_up (V := mdV) (F := mdF) ⟨hok.1, hok.2⟩ 6 (hP.2.1 6)) 7 (hP.2.1 7)) 8 (hP.2.1 8)) 9 (hP.2.1 9)) 10 (hP.2.1 10)) 11 (hP.2.1 11)) 17 (hP.2.1 17)) 14 (u1_rng (hP.2.2 14) (show 0 ≤ 3 ∧ 3 ≤ 3 from (by decide)))) 16 (hP.2.2 16))) dX11_readKeys_226 (fun H locs hP hS => ?_)
                          refine lv_aload_n hx hb dX11_readKeys_227 rfl (lv_at hl 2 rfl) ?_
                          refine lv_dup hx hb dX11_readKeys_228 rfl ?_
                          refine mdG_newKeys C hP mF_X11_214 dX11_readKeys_229 ?_
                          show W p l e (gRm 2 42) s m args below meth c _ _ 0 0 Q (F0 m 232 ls [.int (iI y17_7), .ref (ad 0)])
                          refine lv_iconst (v := iI 1) hx hb dX11_readKeys_232 rfl ?_
                          refine gi_add (z := (y17_7 + 1)) hx hb dX11_readKeys_233 rfl ?_
                          refine mdP_newKeys (v1 := (va_up (va_up (va_up (va_up (va_up (va_up (va_up v 6 w6_53) 7 w7_53) 8 w8_56) 9 w9_56) 10 w10_56) 11 w11_56) 17 (y17_7 + 1))) C hP hD hS mF_X11_214 (by omega) rfl (Or.inr (gF_up (V := mdV) (F := mdF) (gF_up (V := mdV) (F := mdF) (gR_up (V := mdV) (F := mdF) (gR_up (V := mdV) (F := mdF) (gR_up (V := mdV) (F := mdF) (gR_up (V := mdV) (F := mdF) (gR_up (V := mdV) (F := mdF) (gR_up (V := mdV) (F := mdF) (gR_up (V := mdV) (F := mdF) ⟨hok.1, hok.2⟩ 6 (hP.2.1 6)) 7 (hP.2.1 7)) 8 (hP.2.1 8)) 9 (hP.2.1 9)) 10 (hP.2.1 10)) 11 (hP.2.1 11)) 17 (show 0 ≤ (y17_7 + 1) ∧ (y17_7 + 1) ≤ 4 from by omega)) 14 (hP.2.2 14)) 16 (hP.2.2 16))) dX11_readKeys_234 (fun H locs hP hS => ?_)
                          refine lv_aload_n hx hb dX11_readKeys_237 rfl (lv_at hl 2 rfl) ?_
                          refine g_cv (As := []) (rest := []) (n := 0) C hml (n_next l D k A ad hD (va_up (va_up (va_up (va_up (va_up (va_up (va_up v 6 w6_53) 7 w7_53) 8 w8_56) 9 w9_56) 10 w10_56) 11 w11_56) 17 (y17_7 + 1)) (va_up (va_up f 14 (u1 c14_7 y17_7 3)) 16 (u1 c16_7 y17_7 z_12)) (va_up g 0 b0_56) B (show ∀ k, (f 0) k % 256 = B k from hB) (show 0 ≤ w10_56 ∧ w10_56 ≤ (v 3) from by omega)) mM_X11_201 mI_X11_next mE_X11_next mN_X11 mC_X11_next (by decide +kernel) 0 (ci := 11) rfl rfl hP hS (fun _ h => h) ⟨Nat.le_of_ble_eq_true rfl, Nat.le_of_ble_eq_true rfl⟩ ⟨Nat.zero_le _, Nat.zero_le _⟩ hl.1 rfl rfl (Nat.le_of_ble_eq_true rfl) dX11_readKeys_238 (fun r_72 v_72 f_72 g_72 H locs hq_72 hP _ hS => ?_)
                          obtain ⟨w8_72, w9_72, w10_72, w11_72, b0_72, rfl, rfl, rfl, rfl, p0_72⟩ := hq_72
                          show W p l e (gRm 2 42) s m args below meth c _ _ 0 0 Q (F0 m 241 ls [])
                          have hP : gWd D (mdT k ad) (va_up (va_up (va_up (va_up (va_up (va_up (va_up v 6 w6_53) 7 w7_53) 8 w8_72) 9 w9_72) 10 w10_72) 11 w11_72) 17 (y17_7 + 1)) (va_up (va_up f 14 (u1 c14_7 y17_7 3)) 16 (u1 c16_7 y17_7 z_12)) (va_up g 0 b0_72) H := ⟨hP.1, (gF_up (V := mdV) (F := mdF) (gF_up (V := mdV) (F := mdF) (gR_up (V := mdV) (F := mdF) (gR_up (V := mdV) (F := mdF) (gR_up (V := mdV) (F := mdF) (gR_up (V := mdV) (F := mdF) (gR_up (V := mdV) (F := mdF) (gR_up (V := mdV) (F := mdF) (gR_up (V := mdV) (F := mdF) ⟨hok.1, hok.2⟩ 6 (hP.2.1 6)) 7 (hP.2.1 7)) 8 (hP.2.1 8)) 9 (hP.2.1 9)) 10 (hP.2.1 10)) 11 (hP.2.1 11)) 17 (hP.2.1 17)) 14 (hP.2.2 14)) 16 (hP.2.2 16))⟩
                          replace p0_72 : mAt B (v 3) w9_72 w10_72 w8_72 w11_72 (b0_72 0) (run bW B (v 3) w10_56) := p0_72
                          have rw8_72 : 0 ≤ w8_72 ∧ w8_72 ≤ 4 := hP.2.1 8
                          have rw9_72 : 0 ≤ w9_72 ∧ w9_72 ≤ 700 := hP.2.1 9
                          have rw10_72 : 0 ≤ w10_72 ∧ w10_72 ≤ 700 := hP.2.1 10
                          have rw11_72 : 0 ≤ w11_72 ∧ w11_72 ≤ 999999 := hP.2.1 11
                          have hN2 : mAt B (v 3) w9_72 w10_72 w8_72 w11_72 (b0_72 0) (tX B (v 3) (tX B (v 3) qq)) := by have h := p0_72; rw [hN1.bh] at h; exact h
                          clear p0_72
                          have hu2 := tX_up (B := B) (n := (v 3)) (q := (tX B (v 3) qq)) (by have h9 := (not_congr (tK_end (B := B) (n := (v 3)) (q := (tX B (v 3) qq)))).mp (by omega); omega)
                          have hle2 := hN2.le
                          have hky : ky1 B (v 3) y17_7 qq = (0, tX B (v 3) (tX B (v 3) qq)) := ky1_d (by omega) (by omega) (by omega)
                          refine lv_aload_n hx hb dX11_readKeys_241 rfl (lv_at hl 2 rfl) ?_
                          refine lv_bipush (v := iI 44) hx hb dX11_readKeys_242 (by decide) ?_
                          refine g_cv (As := [.int (iI 44)]) (rest := []) (n := 1) C hml (n_isS l D k A ad hD (va_up (va_up (va_up (va_up (va_up (va_up (va_up v 6 w6_53) 7 w7_53) 8 w8_72) 9 w9_72) 10 w10_72) 11 w11_72) 17 (y17_7 + 1)) (va_up (va_up f 14 (u1 c14_7 y17_7 3)) 16 (u1 c16_7 y17_7 z_12)) (va_up g 0 b0_72) 44 B (tX B (v 3) (tX B (v 3) qq)) (by decide) (show mAt B (v 3) w9_72 w10_72 w8_72 w11_72 (b0_72 0) (tX B (v 3) (tX B (v 3) qq)) from hN2) (show 40 ≤ (44 : Int) ∧ (44 : Int) < 256 from by omega)) mM_X11_204 mI_X11_isSign mE_X11_isSign mN_X11 mC_X11_isSign (by decide +kernel) 0 (ci := 11) rfl rfl hP hS (fun _ h => h) ⟨Nat.le_of_ble_eq_true rfl, Nat.le_of_ble_eq_true rfl⟩ ⟨Nat.zero_le _, Nat.zero_le _⟩ hl.1 rfl rfl (Nat.le_of_ble_eq_true rfl) dX11_readKeys_244 (fun r_73 v_73 f_73 g_73 H locs hq_73 hP _ hS => ?_)
                          obtain ⟨z_73, rfl, rfl, rfl, rfl, p0_73, p1_73⟩ := hq_73
                          show W p l e (gRm 2 42) s m args below meth c _ _ 0 0 Q (F0 m 247 ls [.int (iI z_73)])
                          replace p0_73 : 0 ≤ z_73 ∧ z_73 ≤ 1 := p0_73
                          replace p1_73 : z_73 = 1 ↔ (tK B (v 3) (tX B (v 3) (tX B (v 3) qq))) = (44 : Int) := p1_73
                          refine lv_istore_n (lv' := [(1, .int (iI z_73)), (3, .int (iI 3)), (2, .int (iI z_12)), (0, .ref (ad 0))]) hx hb dX11_readKeys_247 rfl hl (by decide) rfl (fun ls hl => ?_)
                          refine lv_iload_n hx hb dX11_readKeys_248 rfl (lv_at hl 0 rfl) ?_
                          refine gi_zeq (tgt := 256) hx hb dX11_readKeys_249 (by decide) (by omega) (fun c_74 => ?_) (fun c_74 => ?_)
                          · have v_73 := mt p1_73.mpr (show ¬ z_73 = 1 by omega)
                            clear p1_73
                            refine lv_goto (tgt := 7) hx hb dX11_readKeys_256 (by decide) ?_
                            exact ih_7 z_73 ((tX B (v 3) (tX B (v 3) qq))) w6_53 w7_53 w8_72 w9_72 w10_72 w11_72 (y17_7 + 1) (u1 c14_7 y17_7 3) (u1 c16_7 y17_7 z_12) b0_72 _ _ _ (by omega) (by omega) hN2 (by omega) (by first | (intro h; exfalso; omega) | exact fun _ => (by rw [← hJ3.get (by omega), kys_go (B := B) (n := (v 3)) (p := qq) (c := y17_7) (by omega) (by omega) (by rw [hky]) (by rw [hky]; show tK B (v 3) (tX B (v 3) (tX B (v 3) qq)) = 44; omega), hky])) (by first | (intro h; exfalso; omega) | exact fun _ => (by rw [← hJ3.get (by omega), kys_stop (B := B) (n := (v 3)) (p := qq) (c := y17_7) (by omega) (by omega) (Or.inr (by rw [hky]; show tK B (v 3) (tX B (v 3) (tX B (v 3) qq)) ≠ 44; omega)), hky])) (by first | (intro h; exfalso; omega) | exact fun _ => (by rw [kyP_s (by omega), ← hC1.get (by omega)])) (by first | (intro h; exfalso; omega) | exact fun _ => (by have h8 := hC2.get (by omega); rw [kyN_go (x := y17_7) (by omega) (by omega)] at h8; omega)) (by first | (intro h; exfalso; omega) | exact fun _ => (by have h8 := hC2.get (by omega); rw [kyN_end (x := y17_7) (by omega) (by omega)] at h8; omega)) (kyM_put hC4.get (by omega) (by rw [← hC1.get (by omega)]; omega) (by rw [← hC1.get (by omega)]; first | (rw [if_pos (by omega)]; omega) | (rw [if_neg (by omega)]; omega))) hP hS (lv_sub hl [3, 0] rfl)
                          · have v_73 := p1_73.mp (show z_73 = 1 by omega)
                            clear p1_73
                            refine lv_aload_n hx hb dX11_readKeys_252 rfl (lv_at hl 3 rfl) ?_
                            refine g_cv (As := []) (rest := []) (n := 0) C hml (n_next l D k A ad hD (va_up (va_up (va_up (va_up (va_up (va_up (va_up v 6 w6_53) 7 w7_53) 8 w8_72) 9 w9_72) 10 w10_72) 11 w11_72) 17 (y17_7 + 1)) (va_up (va_up f 14 (u1 c14_7 y17_7 3)) 16 (u1 c16_7 y17_7 z_12)) (va_up g 0 b0_72) B (show ∀ k, (f 0) k % 256 = B k from hB) (show 0 ≤ w10_72 ∧ w10_72 ≤ (v 3) from by omega)) mM_X11_201 mI_X11_next mE_X11_next mN_X11 mC_X11_next (by decide +kernel) 0 (ci := 11) rfl rfl hP hS (fun _ h => h) ⟨Nat.le_of_ble_eq_true rfl, Nat.le_of_ble_eq_true rfl⟩ ⟨Nat.zero_le _, Nat.zero_le _⟩ hl.1 rfl rfl (Nat.le_of_ble_eq_true rfl) dX11_readKeys_253 (fun r_75 v_75 f_75 g_75 H locs hq_75 hP _ hS => ?_)
                            obtain ⟨w8_75, w9_75, w10_75, w11_75, b0_75, rfl, rfl, rfl, rfl, p0_75⟩ := hq_75
                            show W p l e (gRm 2 42) s m args below meth c _ _ 0 0 Q (F0 m 256 ls [])
                            have hP : gWd D (mdT k ad) (va_up (va_up (va_up (va_up (va_up (va_up (va_up v 6 w6_53) 7 w7_53) 8 w8_75) 9 w9_75) 10 w10_75) 11 w11_75) 17 (y17_7 + 1)) (va_up (va_up f 14 (u1 c14_7 y17_7 3)) 16 (u1 c16_7 y17_7 z_12)) (va_up g 0 b0_75) H := ⟨hP.1, (gF_up (V := mdV) (F := mdF) (gF_up (V := mdV) (F := mdF) (gR_up (V := mdV) (F := mdF) (gR_up (V := mdV) (F := mdF) (gR_up (V := mdV) (F := mdF) (gR_up (V := mdV) (F := mdF) (gR_up (V := mdV) (F := mdF) (gR_up (V := mdV) (F := mdF) (gR_up (V := mdV) (F := mdF) ⟨hok.1, hok.2⟩ 6 (hP.2.1 6)) 7 (hP.2.1 7)) 8 (hP.2.1 8)) 9 (hP.2.1 9)) 10 (hP.2.1 10)) 11 (hP.2.1 11)) 17 (hP.2.1 17)) 14 (hP.2.2 14)) 16 (hP.2.2 16))⟩
                            replace p0_75 : mAt B (v 3) w9_75 w10_75 w8_75 w11_75 (b0_75 0) (run bW B (v 3) w10_72) := p0_75
                            have rw8_75 : 0 ≤ w8_75 ∧ w8_75 ≤ 4 := hP.2.1 8
                            have rw9_75 : 0 ≤ w9_75 ∧ w9_75 ≤ 700 := hP.2.1 9
                            have rw10_75 : 0 ≤ w10_75 ∧ w10_75 ≤ 700 := hP.2.1 10
                            have rw11_75 : 0 ≤ w11_75 ∧ w11_75 ≤ 999999 := hP.2.1 11
                            have hN3 : mAt B (v 3) w9_75 w10_75 w8_75 w11_75 (b0_75 0) (tX B (v 3) (tX B (v 3) (tX B (v 3) qq))) := by have h := p0_75; rw [hN2.bh] at h; exact h
                            clear p0_75
                            have hu3 := tX_up (B := B) (n := (v 3)) (q := (tX B (v 3) (tX B (v 3) qq))) (by have h9 := (not_congr (tK_end (B := B) (n := (v 3)) (q := (tX B (v 3) (tX B (v 3) qq))))).mp (by omega); omega)
                            refine lv_goto (tgt := 7) hx hb dX11_readKeys_256 (by decide) ?_
                            exact ih_7 z_73 ((tX B (v 3) (tX B (v 3) (tX B (v 3) qq)))) w6_53 w7_53 w8_75 w9_75 w10_75 w11_75 (y17_7 + 1) (u1 c14_7 y17_7 3) (u1 c16_7 y17_7 z_12) b0_75 _ _ _ (by omega) (by omega) hN3 (by omega) (by first | (intro h; exfalso; omega) | exact fun _ => (by rw [← hJ3.get (by omega), kys_go (B := B) (n := (v 3)) (p := qq) (c := y17_7) (by omega) (by omega) (by rw [hky]) (by rw [hky]; show tK B (v 3) (tX B (v 3) (tX B (v 3) qq)) = 44; omega), hky])) (by first | (intro h; exfalso; omega) | exact fun _ => (by rw [← hJ3.get (by omega), kys_stop (B := B) (n := (v 3)) (p := qq) (c := y17_7) (by omega) (by omega) (Or.inr (by rw [hky]; show tK B (v 3) (tX B (v 3) (tX B (v 3) qq)) ≠ 44; omega)), hky])) (by first | (intro h; exfalso; omega) | exact fun _ => (by rw [kyP_s (by omega), ← hC1.get (by omega)])) (by first | (intro h; exfalso; omega) | exact fun _ => (by have h8 := hC2.get (by omega); rw [kyN_go (x := y17_7) (by omega) (by omega)] at h8; omega)) (by first | (intro h; exfalso; omega) | exact fun _ => (by have h8 := hC2.get (by omega); rw [kyN_end (x := y17_7) (by omega) (by omega)] at h8; omega)) (kyM_put hC4.get (by omega) (by rw [← hC1.get (by omega)]; omega) (by rw [← hC1.get (by omega)]; first | (rw [if_pos (by omega)]; omega) | (rw [if_neg (by omega)]; omega))) hP hS (lv_sub hl [3, 0] rfl)
                        · exfalso; omega
                    · have v_64 := p1_64.mp (show z_64 = 1 by omega)
                      clear p1_64
                      refine lv_iconst (v := iI 2) hx hb dX11_readKeys_166 rfl ?_
                      refine lv_goto (tgt := 197) hx hb dX11_readKeys_167 (by decide) ?_
                      refine lv_istore_n (lv' := [(3, .int (iI 2)), (2, .int (iI z_12)), (0, .ref (ad 0)), (1, .int (iI x1))]) hx hb dX11_readKeys_197 rfl hl (by decide) rfl (fun ls hl => ?_)
                      refine lv_iload_n hx hb dX11_readKeys_198 rfl (lv_at hl 0 rfl) ?_
                      refine gi_zge (tgt := 207) hx hb dX11_readKeys_199 (by decide) (by decide) (fun c_76 => ?_) (fun c_76 => ?_)
                      · refine lv_aload_n hx hb dX11_readKeys_207 rfl (lv_at hl 2 rfl) ?_
                        refine mdG_newUp C hP mF_X11_67 dX11_readKeys_208 ?_
                        refine lv_aload_n hx hb dX11_readKeys_211 rfl (lv_at hl 2 rfl) ?_
                        refine mdG_newKeys C hP mF_X11_214 dX11_readKeys_212 ?_
                        show W p l e (gRm 2 42) s m args below meth c _ _ 0 0 Q (F0 m 215 ls [.int (iI y17_7), .ref (ad 17)])
                        refine lv_iload_n hx hb dX11_readKeys_215 rfl (lv_at hl 1 rfl) ?_
                        refine mdS_newUp (f1 := (va_up (va_up f 14 c14_7) 16 (u1 c16_7 y17_7 z_12))) C hP hD hS (by omega) (by omega) (by omega) (by omega) rfl (Or.inr (gF_up (V := mdV) (F := mdF) (gF_up (V := mdV) (F := mdF) (gR_up (V := mdV) (F := mdF) (gR_up (V := mdV) (F := mdF) (gR_up (V := mdV) (F := mdF) (gR_up (V := mdV) (F := mdF) (gR_up (V := mdV) (F := mdF) (gR_up (V := mdV) (F := mdF) (gR_up (V := mdV) (F := mdF) ⟨hok.1, hok.2⟩ 6 (hP.2.1 6)) 7 (hP.2.1 7)) 8 (hP.2.1 8)) 9 (hP.2.1 9)) 10 (hP.2.1 10)) 11 (hP.2.1 11)) 17 (hP.2.1 17)) 14 (hP.2.2 14)) 16 (u1_rng (hP.2.2 16) (show 0 ≤ z_12 ∧ z_12 ≤ 1 from (by omega))))) dX11_readKeys_216 (fun H locs hP hS => ?_)
                        refine lv_aload_n hx hb dX11_readKeys_217 rfl (lv_at hl 2 rfl) ?_
                        refine mdG_newKey C hP mF_X11_60 dX11_readKeys_218 ?_
                        refine lv_aload_n hx hb dX11_readKeys_221 rfl (lv_at hl 2 rfl) ?_
                        refine mdG_newKeys C hP mF_X11_214 dX11_readKeys_222 ?_
                        show W p l e (gRm 2 42) s m args below meth c _ _ 0 0 Q (F0 m 225 ls [.int (iI y17_7), .ref (ad 15)])
                        refine lv_iload_n hx hb dX11_readKeys_225 rfl (lv_at hl 0 rfl) ?_
                        refine mdS_newKey (f1 := (va_up (va_up f 14 (u1 c14_7 y17_7 2)) 16 (u1 c16_7 y17_7 z_12))) C hP hD hS (by omega) (by omega) (by decide) rfl (Or.inr (gF_up (V := mdV) (F := mdF) (gF_up (V := mdV) (F := mdF) (gR_up (V := mdV) (F := mdF) (gR_up (V := mdV) (F := mdF) (gR_up (V := mdV) (F := mdF) (gR_up (V := mdV) (F := mdF) (gR_up (V := mdV) (F := mdF) (gR_up (V := mdV) (F := mdF) (gR_up (V := mdV) (F := mdF) ⟨hok.1, hok.2⟩ 6 (hP.2.1 6)) 7 (hP.2.1 7)) 8 (hP.2.1 8)) 9 (hP.2.1 9)) 10 (hP.2.1 10)) 11 (hP.2.1 11)) 17 (hP.2.1 17)) 14 (u1_rng (hP.2.2 14) (show 0 ≤ 2 ∧ 2 ≤ 3 from (by decide)))) 16 (hP.2.2 16))) dX11_readKeys_226 (fun H locs hP hS => ?_)
                        refine lv_aload_n hx hb dX11_readKeys_227 rfl (lv_at hl 2 rfl) ?_
                        refine lv_dup hx hb dX11_readKeys_228 rfl ?_
                        refine mdG_newKeys C hP mF_X11_214 dX11_readKeys_229 ?_
                        show W p l e (gRm 2 42) s m args below meth c _ _ 0 0 Q (F0 m 232 ls [.int (iI y17_7), .ref (ad 0)])
                        refine lv_iconst (v := iI 1) hx hb dX11_readKeys_232 rfl ?_
                        refine gi_add (z := (y17_7 + 1)) hx hb dX11_readKeys_233 rfl ?_
                        refine mdP_newKeys (v1 := (va_up (va_up (va_up (va_up (va_up (va_up (va_up v 6 w6_53) 7 w7_53) 8 w8_56) 9 w9_56) 10 w10_56) 11 w11_56) 17 (y17_7 + 1))) C hP hD hS mF_X11_214 (by omega) rfl (Or.inr (gF_up (V := mdV) (F := mdF) (gF_up (V := mdV) (F := mdF) (gR_up (V := mdV) (F := mdF) (gR_up (V := mdV) (F := mdF) (gR_up (V := mdV) (F := mdF) (gR_up (V := mdV) (F := mdF) (gR_up (V := mdV) (F := mdF) (gR_up (V := mdV) (F := mdF) (gR_up (V := mdV) (F := mdF) ⟨hok.1, hok.2⟩ 6 (hP.2.1 6)) 7 (hP.2.1 7)) 8 (hP.2.1 8)) 9 (hP.2.1 9)) 10 (hP.2.1 10)) 11 (hP.2.1 11)) 17 (show 0 ≤ (y17_7 + 1) ∧ (y17_7 + 1) ≤ 4 from by omega)) 14 (hP.2.2 14)) 16 (hP.2.2 16))) dX11_readKeys_234 (fun H locs hP hS => ?_)
                        refine lv_aload_n hx hb dX11_readKeys_237 rfl (lv_at hl 2 rfl) ?_
                        refine g_cv (As := []) (rest := []) (n := 0) C hml (n_next l D k A ad hD (va_up (va_up (va_up (va_up (va_up (va_up (va_up v 6 w6_53) 7 w7_53) 8 w8_56) 9 w9_56) 10 w10_56) 11 w11_56) 17 (y17_7 + 1)) (va_up (va_up f 14 (u1 c14_7 y17_7 2)) 16 (u1 c16_7 y17_7 z_12)) (va_up g 0 b0_56) B (show ∀ k, (f 0) k % 256 = B k from hB) (show 0 ≤ w10_56 ∧ w10_56 ≤ (v 3) from by omega)) mM_X11_201 mI_X11_next mE_X11_next mN_X11 mC_X11_next (by decide +kernel) 0 (ci := 11) rfl rfl hP hS (fun _ h => h) ⟨Nat.le_of_ble_eq_true rfl, Nat.le_of_ble_eq_true rfl⟩ ⟨Nat.zero_le _, Nat.zero_le _⟩ hl.1 rfl rfl (Nat.le_of_ble_eq_true rfl) dX11_readKeys_238 (fun r_77 v_77 f_77 g_77 H locs hq_77 hP _ hS => ?_)
                        obtain ⟨w8_77, w9_77, w10_77, w11_77, b0_77, rfl, rfl, rfl, rfl, p0_77⟩ := hq_77
                        show W p l e (gRm 2 42) s m args below meth c _ _ 0 0 Q (F0 m 241 ls [])
                        have hP : gWd D (mdT k ad) (va_up (va_up (va_up (va_up (va_up (va_up (va_up v 6 w6_53) 7 w7_53) 8 w8_77) 9 w9_77) 10 w10_77) 11 w11_77) 17 (y17_7 + 1)) (va_up (va_up f 14 (u1 c14_7 y17_7 2)) 16 (u1 c16_7 y17_7 z_12)) (va_up g 0 b0_77) H := ⟨hP.1, (gF_up (V := mdV) (F := mdF) (gF_up (V := mdV) (F := mdF) (gR_up (V := mdV) (F := mdF) (gR_up (V := mdV) (F := mdF) (gR_up (V := mdV) (F := mdF) (gR_up (V := mdV) (F := mdF) (gR_up (V := mdV) (F := mdF) (gR_up (V := mdV) (F := mdF) (gR_up (V := mdV) (F := mdF) ⟨hok.1, hok.2⟩ 6 (hP.2.1 6)) 7 (hP.2.1 7)) 8 (hP.2.1 8)) 9 (hP.2.1 9)) 10 (hP.2.1 10)) 11 (hP.2.1 11)) 17 (hP.2.1 17)) 14 (hP.2.2 14)) 16 (hP.2.2 16))⟩
                        replace p0_77 : mAt B (v 3) w9_77 w10_77 w8_77 w11_77 (b0_77 0) (run bW B (v 3) w10_56) := p0_77
                        have rw8_77 : 0 ≤ w8_77 ∧ w8_77 ≤ 4 := hP.2.1 8
                        have rw9_77 : 0 ≤ w9_77 ∧ w9_77 ≤ 700 := hP.2.1 9
                        have rw10_77 : 0 ≤ w10_77 ∧ w10_77 ≤ 700 := hP.2.1 10
                        have rw11_77 : 0 ≤ w11_77 ∧ w11_77 ≤ 999999 := hP.2.1 11
                        have hN2 : mAt B (v 3) w9_77 w10_77 w8_77 w11_77 (b0_77 0) (tX B (v 3) (tX B (v 3) qq)) := by have h := p0_77; rw [hN1.bh] at h; exact h
                        clear p0_77
                        have hu2 := tX_up (B := B) (n := (v 3)) (q := (tX B (v 3) qq)) (by have h9 := (not_congr (tK_end (B := B) (n := (v 3)) (q := (tX B (v 3) qq)))).mp (by omega); omega)
                        have hle2 := hN2.le
                        have hky : ky1 B (v 3) y17_7 qq = (0, tX B (v 3) (tX B (v 3) qq)) := ky1_d (by omega) (by omega) (by omega)
                        refine lv_aload_n hx hb dX11_readKeys_241 rfl (lv_at hl 2 rfl) ?_
                        refine lv_bipush (v := iI 44) hx hb dX11_readKeys_242 (by decide) ?_
                        refine g_cv (As := [.int (iI 44)]) (rest := []) (n := 1) C hml (n_isS l D k A ad hD (va_up (va_up (va_up (va_up (va_up (va_up (va_up v 6 w6_53) 7 w7_53) 8 w8_77) 9 w9_77) 10 w10_77) 11 w11_77) 17 (y17_7 + 1)) (va_up (va_up f 14 (u1 c14_7 y17_7 2)) 16 (u1 c16_7 y17_7 z_12)) (va_up g 0 b0_77) 44 B (tX B (v 3) (tX B (v 3) qq)) (by decide) (show mAt B (v 3) w9_77 w10_77 w8_77 w11_77 (b0_77 0) (tX B (v 3) (tX B (v 3) qq)) from hN2) (show 40 ≤ (44 : Int) ∧ (44 : Int) < 256 from by omega)) mM_X11_204 mI_X11_isSign mE_X11_isSign mN_X11 mC_X11_isSign (by decide +kernel) 0 (ci := 11) rfl rfl hP hS (fun _ h => h) ⟨Nat.le_of_ble_eq_true rfl, Nat.le_of_ble_eq_true rfl⟩ ⟨Nat.zero_le _, Nat.zero_le _⟩ hl.1 rfl rfl (Nat.le_of_ble_eq_true rfl) dX11_readKeys_244 (fun r_78 v_78 f_78 g_78 H locs hq_78 hP _ hS => ?_)
                        obtain ⟨z_78, rfl, rfl, rfl, rfl, p0_78, p1_78⟩ := hq_78
                        show W p l e (gRm 2 42) s m args below meth c _ _ 0 0 Q (F0 m 247 ls [.int (iI z_78)])
                        replace p0_78 : 0 ≤ z_78 ∧ z_78 ≤ 1 := p0_78
                        replace p1_78 : z_78 = 1 ↔ (tK B (v 3) (tX B (v 3) (tX B (v 3) qq))) = (44 : Int) := p1_78
                        refine lv_istore_n (lv' := [(1, .int (iI z_78)), (3, .int (iI 2)), (2, .int (iI z_12)), (0, .ref (ad 0))]) hx hb dX11_readKeys_247 rfl hl (by decide) rfl (fun ls hl => ?_)
                        refine lv_iload_n hx hb dX11_readKeys_248 rfl (lv_at hl 0 rfl) ?_
                        refine gi_zeq (tgt := 256) hx hb dX11_readKeys_249 (by decide) (by omega) (fun c_79 => ?_) (fun c_79 => ?_)
                        · have v_78 := mt p1_78.mpr (show ¬ z_78 = 1 by omega)
                          clear p1_78
                          refine lv_goto (tgt := 7) hx hb dX11_readKeys_256 (by decide) ?_
                          exact ih_7 z_78 ((tX B (v 3) (tX B (v 3) qq))) w6_53 w7_53 w8_77 w9_77 w10_77 w11_77 (y17_7 + 1) (u1 c14_7 y17_7 2) (u1 c16_7 y17_7 z_12) b0_77 _ _ _ (by omega) (by omega) hN2 (by omega) (by first | (intro h; exfalso; omega) | exact fun _ => (by rw [← hJ3.get (by omega), kys_go (B := B) (n := (v 3)) (p := qq) (c := y17_7) (by omega) (by omega) (by rw [hky]) (by rw [hky]; show tK B (v 3) (tX B (v 3) (tX B (v 3) qq)) = 44; omega), hky])) (by first | (intro h; exfalso; omega) | exact fun _ => (by rw [← hJ3.get (by omega), kys_stop (B := B) (n := (v 3)) (p := qq) (c := y17_7) (by omega) (by omega) (Or.inr (by rw [hky]; show tK B (v 3) (tX B (v 3) (tX B (v 3) qq)) ≠ 44; omega)), hky])) (by first | (intro h; exfalso; omega) | exact fun _ => (by rw [kyP_s (by omega), ← hC1.get (by omega)])) (by first | (intro h; exfalso; omega) | exact fun _ => (by have h8 := hC2.get (by omega); rw [kyN_go (x := y17_7) (by omega) (by omega)] at h8; omega)) (by first | (intro h; exfalso; omega) | exact fun _ => (by have h8 := hC2.get (by omega); rw [kyN_end (x := y17_7) (by omega) (by omega)] at h8; omega)) (kyM_put hC4.get (by omega) (by rw [← hC1.get (by omega)]; omega) (by rw [← hC1.get (by omega)]; first | (rw [if_pos (by omega)]; omega) | (rw [if_neg (by omega)]; omega))) hP hS (lv_sub hl [3, 0] rfl)
                        · have v_78 := p1_78.mp (show z_78 = 1 by omega)
                          clear p1_78
                          refine lv_aload_n hx hb dX11_readKeys_252 rfl (lv_at hl 3 rfl) ?_
                          refine g_cv (As := []) (rest := []) (n := 0) C hml (n_next l D k A ad hD (va_up (va_up (va_up (va_up (va_up (va_up (va_up v 6 w6_53) 7 w7_53) 8 w8_77) 9 w9_77) 10 w10_77) 11 w11_77) 17 (y17_7 + 1)) (va_up (va_up f 14 (u1 c14_7 y17_7 2)) 16 (u1 c16_7 y17_7 z_12)) (va_up g 0 b0_77) B (show ∀ k, (f 0) k % 256 = B k from hB) (show 0 ≤ w10_77 ∧ w10_77 ≤ (v 3) from by omega)) mM_X11_201 mI_X11_next mE_X11_next mN_X11 mC_X11_next (by decide +kernel) 0 (ci := 11) rfl rfl hP hS (fun _ h => h) ⟨Nat.le_of_ble_eq_true rfl, Nat.le_of_ble_eq_true rfl⟩ ⟨Nat.zero_le _, Nat.zero_le _⟩ hl.1 rfl rfl (Nat.le_of_ble_eq_true rfl) dX11_readKeys_253 (fun r_80 v_80 f_80 g_80 H locs hq_80 hP _ hS => ?_)
                          obtain ⟨w8_80, w9_80, w10_80, w11_80, b0_80, rfl, rfl, rfl, rfl, p0_80⟩ := hq_80
                          show W p l e (gRm 2 42) s m args below meth c _ _ 0 0 Q (F0 m 256 ls [])
                          have hP : gWd D (mdT k ad) (va_up (va_up (va_up (va_up (va_up (va_up (va_up v 6 w6_53) 7 w7_53) 8 w8_80) 9 w9_80) 10 w10_80) 11 w11_80) 17 (y17_7 + 1)) (va_up (va_up f 14 (u1 c14_7 y17_7 2)) 16 (u1 c16_7 y17_7 z_12)) (va_up g 0 b0_80) H := ⟨hP.1, (gF_up (V := mdV) (F := mdF) (gF_up (V := mdV) (F := mdF) (gR_up (V := mdV) (F := mdF) (gR_up (V := mdV) (F := mdF) (gR_up (V := mdV) (F := mdF) (gR_up (V := mdV) (F := mdF) (gR_up (V := mdV) (F := mdF) (gR_up (V := mdV) (F := mdF) (gR_up (V := mdV) (F := mdF) ⟨hok.1, hok.2⟩ 6 (hP.2.1 6)) 7 (hP.2.1 7)) 8 (hP.2.1 8)) 9 (hP.2.1 9)) 10 (hP.2.1 10)) 11 (hP.2.1 11)) 17 (hP.2.1 17)) 14 (hP.2.2 14)) 16 (hP.2.2 16))⟩
                          replace p0_80 : mAt B (v 3) w9_80 w10_80 w8_80 w11_80 (b0_80 0) (run bW B (v 3) w10_77) := p0_80
                          have rw8_80 : 0 ≤ w8_80 ∧ w8_80 ≤ 4 := hP.2.1 8
                          have rw9_80 : 0 ≤ w9_80 ∧ w9_80 ≤ 700 := hP.2.1 9
                          have rw10_80 : 0 ≤ w10_80 ∧ w10_80 ≤ 700 := hP.2.1 10
                          have rw11_80 : 0 ≤ w11_80 ∧ w11_80 ≤ 999999 := hP.2.1 11
                          have hN3 : mAt B (v 3) w9_80 w10_80 w8_80 w11_80 (b0_80 0) (tX B (v 3) (tX B (v 3) (tX B (v 3) qq))) := by have h := p0_80; rw [hN2.bh] at h; exact h
                          clear p0_80
                          have hu3 := tX_up (B := B) (n := (v 3)) (q := (tX B (v 3) (tX B (v 3) qq))) (by have h9 := (not_congr (tK_end (B := B) (n := (v 3)) (q := (tX B (v 3) (tX B (v 3) qq))))).mp (by omega); omega)
                          refine lv_goto (tgt := 7) hx hb dX11_readKeys_256 (by decide) ?_
                          exact ih_7 z_78 ((tX B (v 3) (tX B (v 3) (tX B (v 3) qq)))) w6_53 w7_53 w8_80 w9_80 w10_80 w11_80 (y17_7 + 1) (u1 c14_7 y17_7 2) (u1 c16_7 y17_7 z_12) b0_80 _ _ _ (by omega) (by omega) hN3 (by omega) (by first | (intro h; exfalso; omega) | exact fun _ => (by rw [← hJ3.get (by omega), kys_go (B := B) (n := (v 3)) (p := qq) (c := y17_7) (by omega) (by omega) (by rw [hky]) (by rw [hky]; show tK B (v 3) (tX B (v 3) (tX B (v 3) qq)) = 44; omega), hky])) (by first | (intro h; exfalso; omega) | exact fun _ => (by rw [← hJ3.get (by omega), kys_stop (B := B) (n := (v 3)) (p := qq) (c := y17_7) (by omega) (by omega) (Or.inr (by rw [hky]; show tK B (v 3) (tX B (v 3) (tX B (v 3) qq)) ≠ 44; omega)), hky])) (by first | (intro h; exfalso; omega) | exact fun _ => (by rw [kyP_s (by omega), ← hC1.get (by omega)])) (by first | (intro h; exfalso; omega) | exact fun _ => (by have h8 := hC2.get (by omega); rw [kyN_go (x := y17_7) (by omega) (by omega)] at h8; omega)) (by first | (intro h; exfalso; omega) | exact fun _ => (by have h8 := hC2.get (by omega); rw [kyN_end (x := y17_7) (by omega) (by omega)] at h8; omega)) (kyM_put hC4.get (by omega) (by rw [← hC1.get (by omega)]; omega) (by rw [← hC1.get (by omega)]; first | (rw [if_pos (by omega)]; omega) | (rw [if_neg (by omega)]; omega))) hP hS (lv_sub hl [3, 0] rfl)
                      · exfalso; omega
                  · have v_61 := p1_61.mp (show z_61 = 1 by omega)
                    clear p1_61
                    refine lv_iconst (v := iI 1) hx hb dX11_readKeys_141 rfl ?_
                    refine lv_goto (tgt := 197) hx hb dX11_readKeys_142 (by decide) ?_
                    refine lv_istore_n (lv' := [(3, .int (iI 1)), (2, .int (iI z_12)), (0, .ref (ad 0)), (1, .int (iI x1))]) hx hb dX11_readKeys_197 rfl hl (by decide) rfl (fun ls hl => ?_)
                    refine lv_iload_n hx hb dX11_readKeys_198 rfl (lv_at hl 0 rfl) ?_
                    refine gi_zge (tgt := 207) hx hb dX11_readKeys_199 (by decide) (by decide) (fun c_81 => ?_) (fun c_81 => ?_)
                    · refine lv_aload_n hx hb dX11_readKeys_207 rfl (lv_at hl 2 rfl) ?_
                      refine mdG_newUp C hP mF_X11_67 dX11_readKeys_208 ?_
                      refine lv_aload_n hx hb dX11_readKeys_211 rfl (lv_at hl 2 rfl) ?_
                      refine mdG_newKeys C hP mF_X11_214 dX11_readKeys_212 ?_
                      show W p l e (gRm 2 42) s m args below meth c _ _ 0 0 Q (F0 m 215 ls [.int (iI y17_7), .ref (ad 17)])
                      refine lv_iload_n hx hb dX11_readKeys_215 rfl (lv_at hl 1 rfl) ?_
                      refine mdS_newUp (f1 := (va_up (va_up f 14 c14_7) 16 (u1 c16_7 y17_7 z_12))) C hP hD hS (by omega) (by omega) (by omega) (by omega) rfl (Or.inr (gF_up (V := mdV) (F := mdF) (gF_up (V := mdV) (F := mdF) (gR_up (V := mdV) (F := mdF) (gR_up (V := mdV) (F := mdF) (gR_up (V := mdV) (F := mdF) (gR_up (V := mdV) (F := mdF) (gR_up (V := mdV) (F := mdF) (gR_up (V := mdV) (F := mdF) (gR_up (V := mdV) (F := mdF) ⟨hok.1, hok.2⟩ 6 (hP.2.1 6)) 7 (hP.2.1 7)) 8 (hP.2.1 8)) 9 (hP.2.1 9)) 10 (hP.2.1 10)) 11 (hP.2.1 11)) 17 (hP.2.1 17)) 14 (hP.2.2 14)) 16 (u1_rng (hP.2.2 16) (show 0 ≤ z_12 ∧ z_12 ≤ 1 from (by omega))))) dX11_readKeys_216 (fun H locs hP hS => ?_)
                      refine lv_aload_n hx hb dX11_readKeys_217 rfl (lv_at hl 2 rfl) ?_
                      refine mdG_newKey C hP mF_X11_60 dX11_readKeys_218 ?_
                      refine lv_aload_n hx hb dX11_readKeys_221 rfl (lv_at hl 2 rfl) ?_
                      refine mdG_newKeys C hP mF_X11_214 dX11_readKeys_222 ?_
                      show W p l e (gRm 2 42) s m args below meth c _ _ 0 0 Q (F0 m 225 ls [.int (iI y17_7), .ref (ad 15)])
                      refine lv_iload_n hx hb dX11_readKeys_225 rfl (lv_at hl 0 rfl) ?_
                      refine mdS_newKey (f1 := (va_up (va_up f 14 (u1 c14_7 y17_7 1)) 16 (u1 c16_7 y17_7 z_12))) C hP hD hS (by omega) (by omega) (by decide) rfl (Or.inr (gF_up (V := mdV) (F := mdF) (gF_up (V := mdV) (F := mdF) (gR_up (V := mdV) (F := mdF) (gR_up (V := mdV) (F := mdF) (gR_up (V := mdV) (F := mdF) (gR_up (V := mdV) (F := mdF) (gR_up (V := mdV) (F := mdF) (gR_up (V := mdV) (F := mdF) (gR_up (V := mdV) (F := mdF) ⟨hok.1, hok.2⟩ 6 (hP.2.1 6)) 7 (hP.2.1 7)) 8 (hP.2.1 8)) 9 (hP.2.1 9)) 10 (hP.2.1 10)) 11 (hP.2.1 11)) 17 (hP.2.1 17)) 14 (u1_rng (hP.2.2 14) (show 0 ≤ 1 ∧ 1 ≤ 3 from (by decide)))) 16 (hP.2.2 16))) dX11_readKeys_226 (fun H locs hP hS => ?_)
                      refine lv_aload_n hx hb dX11_readKeys_227 rfl (lv_at hl 2 rfl) ?_
                      refine lv_dup hx hb dX11_readKeys_228 rfl ?_
                      refine mdG_newKeys C hP mF_X11_214 dX11_readKeys_229 ?_
                      show W p l e (gRm 2 42) s m args below meth c _ _ 0 0 Q (F0 m 232 ls [.int (iI y17_7), .ref (ad 0)])
                      refine lv_iconst (v := iI 1) hx hb dX11_readKeys_232 rfl ?_
                      refine gi_add (z := (y17_7 + 1)) hx hb dX11_readKeys_233 rfl ?_
                      refine mdP_newKeys (v1 := (va_up (va_up (va_up (va_up (va_up (va_up (va_up v 6 w6_53) 7 w7_53) 8 w8_56) 9 w9_56) 10 w10_56) 11 w11_56) 17 (y17_7 + 1))) C hP hD hS mF_X11_214 (by omega) rfl (Or.inr (gF_up (V := mdV) (F := mdF) (gF_up (V := mdV) (F := mdF) (gR_up (V := mdV) (F := mdF) (gR_up (V := mdV) (F := mdF) (gR_up (V := mdV) (F := mdF) (gR_up (V := mdV) (F := mdF) (gR_up (V := mdV) (F := mdF) (gR_up (V := mdV) (F := mdF) (gR_up (V := mdV) (F := mdF) ⟨hok.1, hok.2⟩ 6 (hP.2.1 6)) 7 (hP.2.1 7)) 8 (hP.2.1 8)) 9 (hP.2.1 9)) 10 (hP.2.1 10)) 11 (hP.2.1 11)) 17 (show 0 ≤ (y17_7 + 1) ∧ (y17_7 + 1) ≤ 4 from by omega)) 14 (hP.2.2 14)) 16 (hP.2.2 16))) dX11_readKeys_234 (fun H locs hP hS => ?_)
                      refine lv_aload_n hx hb dX11_readKeys_237 rfl (lv_at hl 2 rfl) ?_
                      refine g_cv (As := []) (rest := []) (n := 0) C hml (n_next l D k A ad hD (va_up (va_up (va_up (va_up (va_up (va_up (va_up v 6 w6_53) 7 w7_53) 8 w8_56) 9 w9_56) 10 w10_56) 11 w11_56) 17 (y17_7 + 1)) (va_up (va_up f 14 (u1 c14_7 y17_7 1)) 16 (u1 c16_7 y17_7 z_12)) (va_up g 0 b0_56) B (show ∀ k, (f 0) k % 256 = B k from hB) (show 0 ≤ w10_56 ∧ w10_56 ≤ (v 3) from by omega)) mM_X11_201 mI_X11_next mE_X11_next mN_X11 mC_X11_next (by decide +kernel) 0 (ci := 11) rfl rfl hP hS (fun _ h => h) ⟨Nat.le_of_ble_eq_true rfl, Nat.le_of_ble_eq_true rfl⟩ ⟨Nat.zero_le _, Nat.zero_le _⟩ hl.1 rfl rfl (Nat.le_of_ble_eq_true rfl) dX11_readKeys_238 (fun r_82 v_82 f_82 g_82 H locs hq_82 hP _ hS => ?_)
                      obtain ⟨w8_82, w9_82, w10_82, w11_82, b0_82, rfl, rfl, rfl, rfl, p0_82⟩ := hq_82
                      show W p l e (gRm 2 42) s m args below meth c _ _ 0 0 Q (F0 m 241 ls [])
                      have hP : gWd D (mdT k ad) (va_up (va_up (va_up (va_up (va_up (va_up (va_up v 6 w6_53) 7 w7_53) 8 w8_82) 9 w9_82) 10 w10_82) 11 w11_82) 17 (y17_7 + 1)) (va_up (va_up f 14 (u1 c14_7 y17_7 1)) 16 (u1 c16_7 y17_7 z_12)) (va_up g 0 b0_82) H := ⟨hP.1, (gF_up (V := mdV) (F := mdF) (gF_up (V := mdV) (F := mdF) (gR_up (V := mdV) (F := mdF) (gR_up (V := mdV) (F := mdF) (gR_up (V := mdV) (F := mdF) (gR_up (V := mdV) (F := mdF) (gR_up (V := mdV) (F := mdF) (gR_up (V := mdV) (F := mdF) (gR_up (V := mdV) (F := mdF) ⟨hok.1, hok.2⟩ 6 (hP.2.1 6)) 7 (hP.2.1 7)) 8 (hP.2.1 8)) 9 (hP.2.1 9)) 10 (hP.2.1 10)) 11 (hP.2.1 11)) 17 (hP.2.1 17)) 14 (hP.2.2 14)) 16 (hP.2.2 16))⟩
                      replace p0_82 : mAt B (v 3) w9_82 w10_82 w8_82 w11_82 (b0_82 0) (run bW B (v 3) w10_56) := p0_82
                      have rw8_82 : 0 ≤ w8_82 ∧ w8_82 ≤ 4 := hP.2.1 8
                      have rw9_82 : 0 ≤ w9_82 ∧ w9_82 ≤ 700 := hP.2.1 9
                      have rw10_82 : 0 ≤ w10_82 ∧ w10_82 ≤ 700 := hP.2.1 10
                      have rw11_82 : 0 ≤ w11_82 ∧ w11_82 ≤ 999999 := hP.2.1 11
                      have hN2 : mAt B (v 3) w9_82 w10_82 w8_82 w11_82 (b0_82 0) (tX B (v 3) (tX B (v 3) qq)) := by have h := p0_82; rw [hN1.bh] at h; exact h
                      clear p0_82
                      have hu2 := tX_up (B := B) (n := (v 3)) (q := (tX B (v 3) qq)) (by have h9 := (not_congr (tK_end (B := B) (n := (v 3)) (q := (tX B (v 3) qq)))).mp (by omega); omega)
                      have hle2 := hN2.le
                      have hky : ky1 B (v 3) y17_7 qq = (0, tX B (v 3) (tX B (v 3) qq)) := ky1_d (by omega) (by omega) (by omega)
                      refine lv_aload_n hx hb dX11_readKeys_241 rfl (lv_at hl 2 rfl) ?_
                      refine lv_bipush (v := iI 44) hx hb dX11_readKeys_242 (by decide) ?_
                      refine g_cv (As := [.int (iI 44)]) (rest := []) (n := 1) C hml (n_isS l D k A ad hD (va_up (va_up (va_up (va_up (va_up (va_up (va_up v 6 w6_53) 7 w7_53) 8 w8_82) 9 w9_82) 10 w10_82) 11 w11_82) 17 (y17_7 + 1)) (va_up (va_up f 14 (u1 c14_7 y17_7 1)) 16 (u1 c16_7 y17_7 z_12)) (va_up g 0 b0_82) 44 B (tX B (v 3) (tX B (v 3) qq)) (by decide) (show mAt B (v 3) w9_82 w10_82 w8_82 w11_82 (b0_82 0) (tX B (v 3) (tX B (v 3) qq)) from hN2) (show 40 ≤ (44 : Int) ∧ (44 : Int) < 256 from by omega)) mM_X11_204 mI_X11_isSign mE_X11_isSign mN_X11 mC_X11_isSign (by decide +kernel) 0 (ci := 11) rfl rfl hP hS (fun _ h => h) ⟨Nat.le_of_ble_eq_true rfl, Nat.le_of_ble_eq_true rfl⟩ ⟨Nat.zero_le _, Nat.zero_le _⟩ hl.1 rfl rfl (Nat.le_of_ble_eq_true rfl) dX11_readKeys_244 (fun r_83 v_83 f_83 g_83 H locs hq_83 hP _ hS => ?_)
                      obtain ⟨z_83, rfl, rfl, rfl, rfl, p0_83, p1_83⟩ := hq_83
                      show W p l e (gRm 2 42) s m args below meth c _ _ 0 0 Q (F0 m 247 ls [.int (iI z_83)])
                      replace p0_83 : 0 ≤ z_83 ∧ z_83 ≤ 1 := p0_83
                      replace p1_83 : z_83 = 1 ↔ (tK B (v 3) (tX B (v 3) (tX B (v 3) qq))) = (44 : Int) := p1_83
                      refine lv_istore_n (lv' := [(1, .int (iI z_83)), (3, .int (iI 1)), (2, .int (iI z_12)), (0, .ref (ad 0))]) hx hb dX11_readKeys_247 rfl hl (by decide) rfl (fun ls hl => ?_)
                      refine lv_iload_n hx hb dX11_readKeys_248 rfl (lv_at hl 0 rfl) ?_
                      refine gi_zeq (tgt := 256) hx hb dX11_readKeys_249 (by decide) (by omega) (fun c_84 => ?_) (fun c_84 => ?_)
                      · have v_83 := mt p1_83.mpr (show ¬ z_83 = 1 by omega)
                        clear p1_83
                        refine lv_goto (tgt := 7) hx hb dX11_readKeys_256 (by decide) ?_
                        exact ih_7 z_83 ((tX B (v 3) (tX B (v 3) qq))) w6_53 w7_53 w8_82 w9_82 w10_82 w11_82 (y17_7 + 1) (u1 c14_7 y17_7 1) (u1 c16_7 y17_7 z_12) b0_82 _ _ _ (by omega) (by omega) hN2 (by omega) (by first | (intro h; exfalso; omega) | exact fun _ => (by rw [← hJ3.get (by omega), kys_go (B := B) (n := (v 3)) (p := qq) (c := y17_7) (by omega) (by omega) (by rw [hky]) (by rw [hky]; show tK B (v 3) (tX B (v 3) (tX B (v 3) qq)) = 44; omega), hky])) (by first | (intro h; exfalso; omega) | exact fun _ => (by rw [← hJ3.get (by omega), kys_stop (B := B) (n := (v 3)) (p := qq) (c := y17_7) (by omega) (by omega) (Or.inr (by rw [hky]; show tK B (v 3) (tX B (v 3) (tX B (v 3) qq)) ≠ 44; omega)), hky])) (by first | (intro h; exfalso; omega) | exact fun _ => (by rw [kyP_s (by omega), ← hC1.get (by omega)])) (by first | (intro h; exfalso; omega) | exact fun _ => (by have h8 := hC2.get (by omega); rw [kyN_go (x := y17_7) (by omega) (by omega)] at h8; omega)) (by first | (intro h; exfalso; omega) | exact fun _ => (by have h8 := hC2.get (by omega); rw [kyN_end (x := y17_7) (by omega) (by omega)] at h8; omega)) (kyM_put hC4.get (by omega) (by rw [← hC1.get (by omega)]; omega) (by rw [← hC1.get (by omega)]; first | (rw [if_pos (by omega)]; omega) | (rw [if_neg (by omega)]; omega))) hP hS (lv_sub hl [3, 0] rfl)
                      · have v_83 := p1_83.mp (show z_83 = 1 by omega)
                        clear p1_83
                        refine lv_aload_n hx hb dX11_readKeys_252 rfl (lv_at hl 3 rfl) ?_
                        refine g_cv (As := []) (rest := []) (n := 0) C hml (n_next l D k A ad hD (va_up (va_up (va_up (va_up (va_up (va_up (va_up v 6 w6_53) 7 w7_53) 8 w8_82) 9 w9_82) 10 w10_82) 11 w11_82) 17 (y17_7 + 1)) (va_up (va_up f 14 (u1 c14_7 y17_7 1)) 16 (u1 c16_7 y17_7 z_12)) (va_up g 0 b0_82) B (show ∀ k, (f 0) k % 256 = B k from hB) (show 0 ≤ w10_82 ∧ w10_82 ≤ (v 3) from by omega)) mM_X11_201 mI_X11_next mE_X11_next mN_X11 mC_X11_next (by decide +kernel) 0 (ci := 11) rfl rfl hP hS (fun _ h => h) ⟨Nat.le_of_ble_eq_true rfl, Nat.le_of_ble_eq_true rfl⟩ ⟨Nat.zero_le _, Nat.zero_le _⟩ hl.1 rfl rfl (Nat.le_of_ble_eq_true rfl) dX11_readKeys_253 (fun r_85 v_85 f_85 g_85 H locs hq_85 hP _ hS => ?_)
                        obtain ⟨w8_85, w9_85, w10_85, w11_85, b0_85, rfl, rfl, rfl, rfl, p0_85⟩ := hq_85
                        show W p l e (gRm 2 42) s m args below meth c _ _ 0 0 Q (F0 m 256 ls [])
                        have hP : gWd D (mdT k ad) (va_up (va_up (va_up (va_up (va_up (va_up (va_up v 6 w6_53) 7 w7_53) 8 w8_85) 9 w9_85) 10 w10_85) 11 w11_85) 17 (y17_7 + 1)) (va_up (va_up f 14 (u1 c14_7 y17_7 1)) 16 (u1 c16_7 y17_7 z_12)) (va_up g 0 b0_85) H := ⟨hP.1, (gF_up (V := mdV) (F := mdF) (gF_up (V := mdV) (F := mdF) (gR_up (V := mdV) (F := mdF) (gR_up (V := mdV) (F := mdF) (gR_up (V := mdV) (F := mdF) (gR_up (V := mdV) (F := mdF) (gR_up (V := mdV) (F := mdF) (gR_up (V := mdV) (F := mdF) (gR_up (V := mdV) (F := mdF) ⟨hok.1, hok.2⟩ 6 (hP.2.1 6)) 7 (hP.2.1 7)) 8 (hP.2.1 8)) 9 (hP.2.1 9)) 10 (hP.2.1 10)) 11 (hP.2.1 11)) 17 (hP.2.1 17)) 14 (hP.2.2 14)) 16 (hP.2.2 16))⟩
                        replace p0_85 : mAt B (v 3) w9_85 w10_85 w8_85 w11_85 (b0_85 0) (run bW B (v 3) w10_82) := p0_85
                        have rw8_85 : 0 ≤ w8_85 ∧ w8_85 ≤ 4 := hP.2.1 8
                        have rw9_85 : 0 ≤ w9_85 ∧ w9_85 ≤ 700 := hP.2.1 9
                        have rw10_85 : 0 ≤ w10_85 ∧ w10_85 ≤ 700 := hP.2.1 10
                        have rw11_85 : 0 ≤ w11_85 ∧ w11_85 ≤ 999999 := hP.2.1 11
                        have hN3 : mAt B (v 3) w9_85 w10_85 w8_85 w11_85 (b0_85 0) (tX B (v 3) (tX B (v 3) (tX B (v 3) qq))) := by have h := p0_85; rw [hN2.bh] at h; exact h
                        clear p0_85
                        have hu3 := tX_up (B := B) (n := (v 3)) (q := (tX B (v 3) (tX B (v 3) qq))) (by have h9 := (not_congr (tK_end (B := B) (n := (v 3)) (q := (tX B (v 3) (tX B (v 3) qq))))).mp (by omega); omega)
                        refine lv_goto (tgt := 7) hx hb dX11_readKeys_256 (by decide) ?_
                        exact ih_7 z_83 ((tX B (v 3) (tX B (v 3) (tX B (v 3) qq)))) w6_53 w7_53 w8_85 w9_85 w10_85 w11_85 (y17_7 + 1) (u1 c14_7 y17_7 1) (u1 c16_7 y17_7 z_12) b0_85 _ _ _ (by omega) (by omega) hN3 (by omega) (by first | (intro h; exfalso; omega) | exact fun _ => (by rw [← hJ3.get (by omega), kys_go (B := B) (n := (v 3)) (p := qq) (c := y17_7) (by omega) (by omega) (by rw [hky]) (by rw [hky]; show tK B (v 3) (tX B (v 3) (tX B (v 3) qq)) = 44; omega), hky])) (by first | (intro h; exfalso; omega) | exact fun _ => (by rw [← hJ3.get (by omega), kys_stop (B := B) (n := (v 3)) (p := qq) (c := y17_7) (by omega) (by omega) (Or.inr (by rw [hky]; show tK B (v 3) (tX B (v 3) (tX B (v 3) qq)) ≠ 44; omega)), hky])) (by first | (intro h; exfalso; omega) | exact fun _ => (by rw [kyP_s (by omega), ← hC1.get (by omega)])) (by first | (intro h; exfalso; omega) | exact fun _ => (by have h8 := hC2.get (by omega); rw [kyN_go (x := y17_7) (by omega) (by omega)] at h8; omega)) (by first | (intro h; exfalso; omega) | exact fun _ => (by have h8 := hC2.get (by omega); rw [kyN_end (x := y17_7) (by omega) (by omega)] at h8; omega)) (kyM_put hC4.get (by omega) (by rw [← hC1.get (by omega)]; omega) (by rw [← hC1.get (by omega)]; first | (rw [if_pos (by omega)]; omega) | (rw [if_neg (by omega)]; omega))) hP hS (lv_sub hl [3, 0] rfl)
                    · exfalso; omega
                · have v_58 := p1_58.mp (show z_58 = 1 by omega)
                  clear p1_58
                  refine lv_iconst (v := iI 0) hx hb dX11_readKeys_116 rfl ?_
                  refine lv_goto (tgt := 197) hx hb dX11_readKeys_117 (by decide) ?_
                  refine lv_istore_n (lv' := [(3, .int (iI 0)), (2, .int (iI z_12)), (0, .ref (ad 0)), (1, .int (iI x1))]) hx hb dX11_readKeys_197 rfl hl (by decide) rfl (fun ls hl => ?_)
                  refine lv_iload_n hx hb dX11_readKeys_198 rfl (lv_at hl 0 rfl) ?_
                  refine gi_zge (tgt := 207) hx hb dX11_readKeys_199 (by decide) (by decide) (fun c_86 => ?_) (fun c_86 => ?_)
                  · refine lv_aload_n hx hb dX11_readKeys_207 rfl (lv_at hl 2 rfl) ?_
                    refine mdG_newUp C hP mF_X11_67 dX11_readKeys_208 ?_
                    refine lv_aload_n hx hb dX11_readKeys_211 rfl (lv_at hl 2 rfl) ?_
                    refine mdG_newKeys C hP mF_X11_214 dX11_readKeys_212 ?_
                    show W p l e (gRm 2 42) s m args below meth c _ _ 0 0 Q (F0 m 215 ls [.int (iI y17_7), .ref (ad 17)])
                    refine lv_iload_n hx hb dX11_readKeys_215 rfl (lv_at hl 1 rfl) ?_
                    refine mdS_newUp (f1 := (va_up (va_up f 14 c14_7) 16 (u1 c16_7 y17_7 z_12))) C hP hD hS (by omega) (by omega) (by omega) (by omega) rfl (Or.inr (gF_up (V := mdV) (F := mdF) (gF_up (V := mdV) (F := mdF) (gR_up (V := mdV) (F := mdF) (gR_up (V := mdV) (F := mdF) (gR_up (V := mdV) (F := mdF) (gR_up (V := mdV) (F := mdF) (gR_up (V := mdV) (F := mdF) (gR_up (V := mdV) (F := mdF) (gR_up (V := mdV) (F := mdF) ⟨hok.1, hok.2⟩ 6 (hP.2.1 6)) 7 (hP.2.1 7)) 8 (hP.2.1 8)) 9 (hP.2.1 9)) 10 (hP.2.1 10)) 11 (hP.2.1 11)) 17 (hP.2.1 17)) 14 (hP.2.2 14)) 16 (u1_rng (hP.2.2 16) (show 0 ≤ z_12 ∧ z_12 ≤ 1 from (by omega))))) dX11_readKeys_216 (fun H locs hP hS => ?_)
                    refine lv_aload_n hx hb dX11_readKeys_217 rfl (lv_at hl 2 rfl) ?_
                    refine mdG_newKey C hP mF_X11_60 dX11_readKeys_218 ?_
                    refine lv_aload_n hx hb dX11_readKeys_221 rfl (lv_at hl 2 rfl) ?_
                    refine mdG_newKeys C hP mF_X11_214 dX11_readKeys_222 ?_
                    show W p l e (gRm 2 42) s m args below meth c _ _ 0 0 Q (F0 m 225 ls [.int (iI y17_7), .ref (ad 15)])
                    refine lv_iload_n hx hb dX11_readKeys_225 rfl (lv_at hl 0 rfl) ?_
                    refine mdS_newKey (f1 := (va_up (va_up f 14 (u1 c14_7 y17_7 0)) 16 (u1 c16_7 y17_7 z_12))) C hP hD hS (by omega) (by omega) (by decide) rfl (Or.inr (gF_up (V := mdV) (F := mdF) (gF_up (V := mdV) (F := mdF) (gR_up (V := mdV) (F := mdF) (gR_up (V := mdV) (F := mdF) (gR_up (V := mdV) (F := mdF) (gR_up (V := mdV) (F := mdF) (gR_up (V := mdV) (F := mdF) (gR_up (V := mdV) (F := mdF) (gR_up (V := mdV) (F := mdF) ⟨hok.1, hok.2⟩ 6 (hP.2.1 6)) 7 (hP.2.1 7)) 8 (hP.2.1 8)) 9 (hP.2.1 9)) 10 (hP.2.1 10)) 11 (hP.2.1 11)) 17 (hP.2.1 17)) 14 (u1_rng (hP.2.2 14) (show 0 ≤ 0 ∧ 0 ≤ 3 from (by decide)))) 16 (hP.2.2 16))) dX11_readKeys_226 (fun H locs hP hS => ?_)
                    refine lv_aload_n hx hb dX11_readKeys_227 rfl (lv_at hl 2 rfl) ?_
                    refine lv_dup hx hb dX11_readKeys_228 rfl ?_
                    refine mdG_newKeys C hP mF_X11_214 dX11_readKeys_229 ?_
                    show W p l e (gRm 2 42) s m args below meth c _ _ 0 0 Q (F0 m 232 ls [.int (iI y17_7), .ref (ad 0)])
                    refine lv_iconst (v := iI 1) hx hb dX11_readKeys_232 rfl ?_
                    refine gi_add (z := (y17_7 + 1)) hx hb dX11_readKeys_233 rfl ?_
                    refine mdP_newKeys (v1 := (va_up (va_up (va_up (va_up (va_up (va_up (va_up v 6 w6_53) 7 w7_53) 8 w8_56) 9 w9_56) 10 w10_56) 11 w11_56) 17 (y17_7 + 1))) C hP hD hS mF_X11_214 (by omega) rfl (Or.inr (gF_up (V := mdV) (F := mdF) (gF_up (V := mdV) (F := mdF) (gR_up (V := mdV) (F := mdF) (gR_up (V := mdV) (F := mdF) (gR_up (V := mdV) (F := mdF) (gR_up (V := mdV) (F := mdF) (gR_up (V := mdV) (F := mdF) (gR_up (V := mdV) (F := mdF) (gR_up (V := mdV) (F := mdF) ⟨hok.1, hok.2⟩ 6 (hP.2.1 6)) 7 (hP.2.1 7)) 8 (hP.2.1 8)) 9 (hP.2.1 9)) 10 (hP.2.1 10)) 11 (hP.2.1 11)) 17 (show 0 ≤ (y17_7 + 1) ∧ (y17_7 + 1) ≤ 4 from by omega)) 14 (hP.2.2 14)) 16 (hP.2.2 16))) dX11_readKeys_234 (fun H locs hP hS => ?_)
                    refine lv_aload_n hx hb dX11_readKeys_237 rfl (lv_at hl 2 rfl) ?_
                    refine g_cv (As := []) (rest := []) (n := 0) C hml (n_next l D k A ad hD (va_up (va_up (va_up (va_up (va_up (va_up (va_up v 6 w6_53) 7 w7_53) 8 w8_56) 9 w9_56) 10 w10_56) 11 w11_56) 17 (y17_7 + 1)) (va_up (va_up f 14 (u1 c14_7 y17_7 0)) 16 (u1 c16_7 y17_7 z_12)) (va_up g 0 b0_56) B (show ∀ k, (f 0) k % 256 = B k from hB) (show 0 ≤ w10_56 ∧ w10_56 ≤ (v 3) from by omega)) mM_X11_201 mI_X11_next mE_X11_next mN_X11 mC_X11_next (by decide +kernel) 0 (ci := 11) rfl rfl hP hS (fun _ h => h) ⟨Nat.le_of_ble_eq_true rfl, Nat.le_of_ble_eq_true rfl⟩ ⟨Nat.zero_le _, Nat.zero_le _⟩ hl.1 rfl rfl (Nat.le_of_ble_eq_true rfl) dX11_readKeys_238 (fun r_87 v_87 f_87 g_87 H locs hq_87 hP _ hS => ?_)
                    obtain ⟨w8_87, w9_87, w10_87, w11_87, b0_87, rfl, rfl, rfl, rfl, p0_87⟩ := hq_87
                    show W p l e (gRm 2 42) s m args below meth c _ _ 0 0 Q (F0 m 241 ls [])
                    have hP : gWd D (mdT k ad) (va_up (va_up (va_up (va_up (va_up (va_up (va_up v 6 w6_53) 7 w7_53) 8 w8_87) 9 w9_87) 10 w10_87) 11 w11_87) 17 (y17_7 + 1)) (va_up (va_up f 14 (u1 c14_7 y17_7 0)) 16 (u1 c16_7 y17_7 z_12)) (va_up g 0 b0_87) H := ⟨hP.1, (gF_up (V := mdV) (F := mdF) (gF_up (V := mdV) (F := mdF) (gR_up (V := mdV) (F := mdF) (gR_up (V := mdV) (F := mdF) (gR_up (V := mdV) (F := mdF) (gR_up (V := mdV) (F := mdF) (gR_up (V := mdV) (F := mdF) (gR_up (V := mdV) (F := mdF) (gR_up (V := mdV) (F := mdF) ⟨hok.1, hok.2⟩ 6 (hP.2.1 6)) 7 (hP.2.1 7)) 8 (hP.2.1 8)) 9 (hP.2.1 9)) 10 (hP.2.1 10)) 11 (hP.2.1 11)) 17 (hP.2.1 17)) 14 (hP.2.2 14)) 16 (hP.2.2 16))⟩
                    replace p0_87 : mAt B (v 3) w9_87 w10_87 w8_87 w11_87 (b0_87 0) (run bW B (v 3) w10_56) := p0_87
                    have rw8_87 : 0 ≤ w8_87 ∧ w8_87 ≤ 4 := hP.2.1 8
                    have rw9_87 : 0 ≤ w9_87 ∧ w9_87 ≤ 700 := hP.2.1 9
                    have rw10_87 : 0 ≤ w10_87 ∧ w10_87 ≤ 700 := hP.2.1 10
                    have rw11_87 : 0 ≤ w11_87 ∧ w11_87 ≤ 999999 := hP.2.1 11
                    have hN2 : mAt B (v 3) w9_87 w10_87 w8_87 w11_87 (b0_87 0) (tX B (v 3) (tX B (v 3) qq)) := by have h := p0_87; rw [hN1.bh] at h; exact h
                    clear p0_87
                    have hu2 := tX_up (B := B) (n := (v 3)) (q := (tX B (v 3) qq)) (by have h9 := (not_congr (tK_end (B := B) (n := (v 3)) (q := (tX B (v 3) qq)))).mp (by omega); omega)
                    have hle2 := hN2.le
                    have hky : ky1 B (v 3) y17_7 qq = (0, tX B (v 3) (tX B (v 3) qq)) := ky1_d (by omega) (by omega) (by omega)
                    refine lv_aload_n hx hb dX11_readKeys_241 rfl (lv_at hl 2 rfl) ?_
                    refine lv_bipush (v := iI 44) hx hb dX11_readKeys_242 (by decide) ?_
                    refine g_cv (As := [.int (iI 44)]) (rest := []) (n := 1) C hml (n_isS l D k A ad hD (va_up (va_up (va_up (va_up (va_up (va_up (va_up v 6 w6_53) 7 w7_53) 8 w8_87) 9 w9_87) 10 w10_87) 11 w11_87) 17 (y17_7 + 1)) (va_up (va_up f 14 (u1 c14_7 y17_7 0)) 16 (u1 c16_7 y17_7 z_12)) (va_up g 0 b0_87) 44 B (tX B (v 3) (tX B (v 3) qq)) (by decide) (show mAt B (v 3) w9_87 w10_87 w8_87 w11_87 (b0_87 0) (tX B (v 3) (tX B (v 3) qq)) from hN2) (show 40 ≤ (44 : Int) ∧ (44 : Int) < 256 from by omega)) mM_X11_204 mI_X11_isSign mE_X11_isSign mN_X11 mC_X11_isSign (by decide +kernel) 0 (ci := 11) rfl rfl hP hS (fun _ h => h) ⟨Nat.le_of_ble_eq_true rfl, Nat.le_of_ble_eq_true rfl⟩ ⟨Nat.zero_le _, Nat.zero_le _⟩ hl.1 rfl rfl (Nat.le_of_ble_eq_true rfl) dX11_readKeys_244 (fun r_88 v_88 f_88 g_88 H locs hq_88 hP _ hS => ?_)
                    obtain ⟨z_88, rfl, rfl, rfl, rfl, p0_88, p1_88⟩ := hq_88
                    show W p l e (gRm 2 42) s m args below meth c _ _ 0 0 Q (F0 m 247 ls [.int (iI z_88)])
                    replace p0_88 : 0 ≤ z_88 ∧ z_88 ≤ 1 := p0_88
                    replace p1_88 : z_88 = 1 ↔ (tK B (v 3) (tX B (v 3) (tX B (v 3) qq))) = (44 : Int) := p1_88
                    refine lv_istore_n (lv' := [(1, .int (iI z_88)), (3, .int (iI 0)), (2, .int (iI z_12)), (0, .ref (ad 0))]) hx hb dX11_readKeys_247 rfl hl (by decide) rfl (fun ls hl => ?_)
                    refine lv_iload_n hx hb dX11_readKeys_248 rfl (lv_at hl 0 rfl) ?_
                    refine gi_zeq (tgt := 256) hx hb dX11_readKeys_249 (by decide) (by omega) (fun c_89 => ?_) (fun c_89 => ?_)
                    · have v_88 := mt p1_88.mpr (show ¬ z_88 = 1 by omega)
                      clear p1_88
                      refine lv_goto (tgt := 7) hx hb dX11_readKeys_256 (by decide) ?_
                      exact ih_7 z_88 ((tX B (v 3) (tX B (v 3) qq))) w6_53 w7_53 w8_87 w9_87 w10_87 w11_87 (y17_7 + 1) (u1 c14_7 y17_7 0) (u1 c16_7 y17_7 z_12) b0_87 _ _ _ (by omega) (by omega) hN2 (by omega) (by first | (intro h; exfalso; omega) | exact fun _ => (by rw [← hJ3.get (by omega), kys_go (B := B) (n := (v 3)) (p := qq) (c := y17_7) (by omega) (by omega) (by rw [hky]) (by rw [hky]; show tK B (v 3) (tX B (v 3) (tX B (v 3) qq)) = 44; omega), hky])) (by first | (intro h; exfalso; omega) | exact fun _ => (by rw [← hJ3.get (by omega), kys_stop (B := B) (n := (v 3)) (p := qq) (c := y17_7) (by omega) (by omega) (Or.inr (by rw [hky]; show tK B (v 3) (tX B (v 3) (tX B (v 3) qq)) ≠ 44; omega)), hky])) (by first | (intro h; exfalso; omega) | exact fun _ => (by rw [kyP_s (by omega), ← hC1.get (by omega)])) (by first | (intro h; exfalso; omega) | exact fun _ => (by have h8 := hC2.get (by omega); rw [kyN_go (x := y17_7) (by omega) (by omega)] at h8; omega)) (by first | (intro h; exfalso; omega) | exact fun _ => (by have h8 := hC2.get (by omega); rw [kyN_end (x := y17_7) (by omega) (by omega)] at h8; omega)) (kyM_put hC4.get (by omega) (by rw [← hC1.get (by omega)]; omega) (by rw [← hC1.get (by omega)]; first | (rw [if_pos (by omega)]; omega) | (rw [if_neg (by omega)]; omega))) hP hS (lv_sub hl [3, 0] rfl)
                    · have v_88 := p1_88.mp (show z_88 = 1 by omega)
                      clear p1_88
                      refine lv_aload_n hx hb dX11_readKeys_252 rfl (lv_at hl 3 rfl) ?_
                      refine g_cv (As := []) (rest := []) (n := 0) C hml (n_next l D k A ad hD (va_up (va_up (va_up (va_up (va_up (va_up (va_up v 6 w6_53) 7 w7_53) 8 w8_87) 9 w9_87) 10 w10_87) 11 w11_87) 17 (y17_7 + 1)) (va_up (va_up f 14 (u1 c14_7 y17_7 0)) 16 (u1 c16_7 y17_7 z_12)) (va_up g 0 b0_87) B (show ∀ k, (f 0) k % 256 = B k from hB) (show 0 ≤ w10_87 ∧ w10_87 ≤ (v 3) from by omega)) mM_X11_201 mI_X11_next mE_X11_next mN_X11 mC_X11_next (by decide +kernel) 0 (ci := 11) rfl rfl hP hS (fun _ h => h) ⟨Nat.le_of_ble_eq_true rfl, Nat.le_of_ble_eq_true rfl⟩ ⟨Nat.zero_le _, Nat.zero_le _⟩ hl.1 rfl rfl (Nat.le_of_ble_eq_true rfl) dX11_readKeys_253 (fun r_90 v_90 f_90 g_90 H locs hq_90 hP _ hS => ?_)
                      obtain ⟨w8_90, w9_90, w10_90, w11_90, b0_90, rfl, rfl, rfl, rfl, p0_90⟩ := hq_90
                      show W p l e (gRm 2 42) s m args below meth c _ _ 0 0 Q (F0 m 256 ls [])
                      have hP : gWd D (mdT k ad) (va_up (va_up (va_up (va_up (va_up (va_up (va_up v 6 w6_53) 7 w7_53) 8 w8_90) 9 w9_90) 10 w10_90) 11 w11_90) 17 (y17_7 + 1)) (va_up (va_up f 14 (u1 c14_7 y17_7 0)) 16 (u1 c16_7 y17_7 z_12)) (va_up g 0 b0_90) H := ⟨hP.1, (gF_up (V := mdV) (F := mdF) (gF_up (V := mdV) (F := mdF) (gR_up (V := mdV) (F := mdF) (gR_up (V := mdV) (F := mdF) (gR_up (V := mdV) (F := mdF) (gR_up (V := mdV) (F := mdF) (gR_up (V := mdV) (F := mdF) (gR_up (V := mdV) (F := mdF) (gR_up (V := mdV) (F := mdF) ⟨hok.1, hok.2⟩ 6 (hP.2.1 6)) 7 (hP.2.1 7)) 8 (hP.2.1 8)) 9 (hP.2.1 9)) 10 (hP.2.1 10)) 11 (hP.2.1 11)) 17 (hP.2.1 17)) 14 (hP.2.2 14)) 16 (hP.2.2 16))⟩
                      replace p0_90 : mAt B (v 3) w9_90 w10_90 w8_90 w11_90 (b0_90 0) (run bW B (v 3) w10_87) := p0_90
                      have rw8_90 : 0 ≤ w8_90 ∧ w8_90 ≤ 4 := hP.2.1 8
                      have rw9_90 : 0 ≤ w9_90 ∧ w9_90 ≤ 700 := hP.2.1 9
                      have rw10_90 : 0 ≤ w10_90 ∧ w10_90 ≤ 700 := hP.2.1 10
                      have rw11_90 : 0 ≤ w11_90 ∧ w11_90 ≤ 999999 := hP.2.1 11
                      have hN3 : mAt B (v 3) w9_90 w10_90 w8_90 w11_90 (b0_90 0) (tX B (v 3) (tX B (v 3) (tX B (v 3) qq))) := by have h := p0_90; rw [hN2.bh] at h; exact h
                      clear p0_90
                      have hu3 := tX_up (B := B) (n := (v 3)) (q := (tX B (v 3) (tX B (v 3) qq))) (by have h9 := (not_congr (tK_end (B := B) (n := (v 3)) (q := (tX B (v 3) (tX B (v 3) qq))))).mp (by omega); omega)
                      refine lv_goto (tgt := 7) hx hb dX11_readKeys_256 (by decide) ?_
                      exact ih_7 z_88 ((tX B (v 3) (tX B (v 3) (tX B (v 3) qq)))) w6_53 w7_53 w8_90 w9_90 w10_90 w11_90 (y17_7 + 1) (u1 c14_7 y17_7 0) (u1 c16_7 y17_7 z_12) b0_90 _ _ _ (by omega) (by omega) hN3 (by omega) (by first | (intro h; exfalso; omega) | exact fun _ => (by rw [← hJ3.get (by omega), kys_go (B := B) (n := (v 3)) (p := qq) (c := y17_7) (by omega) (by omega) (by rw [hky]) (by rw [hky]; show tK B (v 3) (tX B (v 3) (tX B (v 3) qq)) = 44; omega), hky])) (by first | (intro h; exfalso; omega) | exact fun _ => (by rw [← hJ3.get (by omega), kys_stop (B := B) (n := (v 3)) (p := qq) (c := y17_7) (by omega) (by omega) (Or.inr (by rw [hky]; show tK B (v 3) (tX B (v 3) (tX B (v 3) qq)) ≠ 44; omega)), hky])) (by first | (intro h; exfalso; omega) | exact fun _ => (by rw [kyP_s (by omega), ← hC1.get (by omega)])) (by first | (intro h; exfalso; omega) | exact fun _ => (by have h8 := hC2.get (by omega); rw [kyN_go (x := y17_7) (by omega) (by omega)] at h8; omega)) (by first | (intro h; exfalso; omega) | exact fun _ => (by have h8 := hC2.get (by omega); rw [kyN_end (x := y17_7) (by omega) (by omega)] at h8; omega)) (kyM_put hC4.get (by omega) (by rw [← hC1.get (by omega)]; omega) (by rw [← hC1.get (by omega)]; first | (rw [if_pos (by omega)]; omega) | (rw [if_neg (by omega)]; omega))) hP hS (lv_sub hl [3, 0] rfl)
                  · exfalso; omega
              · exact g_vret hQ C hr hlocks hP hS dX11_readKeys_91 ⟨w6_53, w7_53, y8_7, y9_7, y10_7, y11_7, y17_7, c14_7, c16_7, d0_7, rfl, rfl, rfl, rfl, (by first | exact oM_bad (by rw [← hJ3.get (by omega), kys_stop (c := y17_7) (by omega) (by omega) (Or.inl (by rw [ky1_a (by omega)]; show _ ≠ (0 : Int); omega))]; exact ky1_a (by omega)) (by omega) (by omega) hM | exact oM_bad (by rw [← hJ3.get (by omega), kys_stop (c := y17_7) (by omega) (by omega) (Or.inl (by rw [ky1_b (by omega) (by omega)]; show _ ≠ (0 : Int); omega))]; exact ky1_b (by omega) (by omega)) (by omega) (by omega) hM), (by intro h; exfalso; omega)⟩
          · have v_12 := mt p1_12.mpr (show ¬ z_12 = 1 by omega)
            clear p1_12
            refine lv_aload_n hx hb dX11_readKeys_39 rfl (lv_at hl 1 rfl) ?_
            refine lv_bipush (v := iI 100) hx hb dX11_readKeys_40 (by decide) ?_
            refine lv_bipush (v := iI 111) hx hb dX11_readKeys_42 (by decide) ?_
            refine lv_bipush (v := iI 119) hx hb dX11_readKeys_44 (by decide) ?_
            refine lv_bipush (v := iI 110) hx hb dX11_readKeys_46 (by decide) ?_
            refine lv_iconst (v := iI 0) hx hb dX11_readKeys_48 rfl ?_
            refine lv_iconst (v := iI 0) hx hb dX11_readKeys_49 rfl ?_
            refine lv_iconst (v := iI 0) hx hb dX11_readKeys_50 rfl ?_
            refine g_cs (As := [.int (iI 100), .int (iI 111), .int (iI 119), .int (iI 110), .int (iI 0), .int (iI 0), .int (iI 0)]) (rest := [.ref (ad 0)]) (n := 7) C hml (n_spelled l D k A ad hD (va_up (va_up (va_up (va_up (va_up (va_up (va_up v 6 y6_7) 7 y7_7) 8 y8_7) 9 y9_7) 10 y10_7) 11 y11_7) 17 y17_7) (va_up (va_up f 14 c14_7) 16 c16_7) (va_up g 0 d0_7) 100 111 119 110 0 0 0 (by decide) (by decide) (by decide) (by decide) (by decide) (by decide) (by decide)) mM_X11_228 mS_X11_spelled mN_X11 mC_X11_spelled (by decide +kernel) hP hS (fun _ h => h) ⟨Nat.le_of_ble_eq_true rfl, Nat.le_of_ble_eq_true rfl⟩ ⟨Nat.zero_le _, Nat.zero_le _⟩ hl.1 rfl rfl (Nat.le_of_ble_eq_true rfl) dX11_readKeys_51 (fun r_91 v_91 f_91 g_91 H locs hq_91 hP _ hS => ?_)
            obtain ⟨z_91, rfl, rfl, rfl, rfl, p0_91⟩ := hq_91
            show W p l e (gRm 2 42) s m args below meth c _ _ 0 0 Q (F0 m 54 ls [.long (iL z_91), .ref (ad 0)])
            replace p0_91 : z_91 = (spW (100 : Int) (111 : Int) (119 : Int) (110 : Int) (0 : Int) (0 : Int) (0 : Int)) := p0_91
            have hsp := p0_91
            clear p0_91
            refine g_cv (As := [.long (iL z_91)]) (rest := []) (n := 1) C hml (n_isW l D k A ad hD (va_up (va_up (va_up (va_up (va_up (va_up (va_up v 6 y6_7) 7 y7_7) 8 y8_7) 9 y9_7) 10 y10_7) 11 y11_7) 17 y17_7) (va_up (va_up f 14 c14_7) 16 c16_7) (va_up g 0 d0_7) z_91 B qq 7 (show mAt B (v 3) y9_7 y10_7 y8_7 y11_7 (d0_7 0) qq from hM) (show z_91 = hW 7 ∧ 7 < 18 from ⟨by rw [hsp]; decide +kernel, by decide⟩)) mM_X11_232 mI_X11_isWord mE_X11_isWord mN_X11 mC_X11_isWord (by decide +kernel) 0 (ci := 11) rfl rfl hP hS (fun _ h => h) ⟨Nat.le_of_ble_eq_true rfl, Nat.le_of_ble_eq_true rfl⟩ ⟨Nat.zero_le _, Nat.zero_le _⟩ hl.1 rfl rfl (Nat.le_of_ble_eq_true rfl) dX11_readKeys_54 (fun r_92 v_92 f_92 g_92 H locs hq_92 hP _ hS => ?_)
            obtain ⟨z_92, rfl, rfl, rfl, rfl, p0_92, p1_92⟩ := hq_92
            show W p l e (gRm 2 42) s m args below meth c _ _ 0 0 Q (F0 m 57 ls [.int (iI z_92)])
            replace p0_92 : 0 ≤ z_92 ∧ z_92 ≤ 1 := p0_92
            replace p1_92 : z_92 = 1 ↔ (tK B (v 3) qq) = 260 + (7 : Int) := p1_92
            refine gi_zne (tgt := 67) hx hb dX11_readKeys_57 (by decide) (by omega) (fun c_93 => ?_) (fun c_93 => ?_)
            · have v_92 := p1_92.mp (show z_92 = 1 by omega)
              clear p1_92
              refine lv_aload_n hx hb dX11_readKeys_67 rfl (lv_at hl 1 rfl) ?_
              refine mdG_newKeys C hP mF_X11_214 dX11_readKeys_68 ?_
              show W p l e (gRm 2 42) s m args below meth c _ _ 0 0 Q (F0 m 71 ls [.int (iI y17_7)])
              have r_94 : 0 ≤ y17_7 ∧ y17_7 ≤ 4 := hP.2.1 17
              refine lv_iconst (v := iI 4) hx hb dX11_readKeys_71 rfl ?_
              refine gi_cne (tgt := 84) hx hb dX11_readKeys_72 (by decide) (by omega) (by decide) (fun c_95 => ?_) (fun c_95 => ?_)
              · refine lv_aload_n hx hb dX11_readKeys_84 rfl (lv_at hl 1 rfl) ?_
                refine mdG_bad C hP mF_X11_188 dX11_readKeys_85 ?_
                show W p l e (gRm 2 42) s m args below meth c _ _ 0 0 Q (F0 m 88 ls [.int (iI y6_7)])
                refine gi_zle (tgt := 92) hx hb dX11_readKeys_88 (by decide) (by omega) (fun c_96 => ?_) (fun c_96 => ?_)
                · refine lv_aload_n hx hb dX11_readKeys_92 rfl (lv_at hl 1 rfl) ?_
                  refine g_cv (As := []) (rest := []) (n := 0) C hml (n_next l D k A ad hD (va_up (va_up (va_up (va_up (va_up (va_up (va_up v 6 y6_7) 7 y7_7) 8 y8_7) 9 y9_7) 10 y10_7) 11 y11_7) 17 y17_7) (va_up (va_up f 14 c14_7) 16 c16_7) (va_up g 0 d0_7) B (show ∀ k, (f 0) k % 256 = B k from hB) (show 0 ≤ y10_7 ∧ y10_7 ≤ (v 3) from by omega)) mM_X11_201 mI_X11_next mE_X11_next mN_X11 mC_X11_next (by decide +kernel) 0 (ci := 11) rfl rfl hP hS (fun _ h => h) ⟨Nat.le_of_ble_eq_true rfl, Nat.le_of_ble_eq_true rfl⟩ ⟨Nat.zero_le _, Nat.zero_le _⟩ hl.1 rfl rfl (Nat.le_of_ble_eq_true rfl) dX11_readKeys_93 (fun r_97 v_97 f_97 g_97 H locs hq_97 hP _ hS => ?_)
                  obtain ⟨w8_97, w9_97, w10_97, w11_97, b0_97, rfl, rfl, rfl, rfl, p0_97⟩ := hq_97
                  show W p l e (gRm 2 42) s m args below meth c _ _ 0 0 Q (F0 m 96 ls [])
                  have hP : gWd D (mdT k ad) (va_up (va_up (va_up (va_up (va_up (va_up (va_up v 6 y6_7) 7 y7_7) 8 w8_97) 9 w9_97) 10 w10_97) 11 w11_97) 17 y17_7) (va_up (va_up f 14 c14_7) 16 c16_7) (va_up g 0 b0_97) H := ⟨hP.1, (gF_up (V := mdV) (F := mdF) (gF_up (V := mdV) (F := mdF) (gR_up (V := mdV) (F := mdF) (gR_up (V := mdV) (F := mdF) (gR_up (V := mdV) (F := mdF) (gR_up (V := mdV) (F := mdF) (gR_up (V := mdV) (F := mdF) (gR_up (V := mdV) (F := mdF) (gR_up (V := mdV) (F := mdF) ⟨hok.1, hok.2⟩ 6 (hP.2.1 6)) 7 (hP.2.1 7)) 8 (hP.2.1 8)) 9 (hP.2.1 9)) 10 (hP.2.1 10)) 11 (hP.2.1 11)) 17 (hP.2.1 17)) 14 (hP.2.2 14)) 16 (hP.2.2 16))⟩
                  replace p0_97 : mAt B (v 3) w9_97 w10_97 w8_97 w11_97 (b0_97 0) (run bW B (v 3) y10_7) := p0_97
                  have rw8_97 : 0 ≤ w8_97 ∧ w8_97 ≤ 4 := hP.2.1 8
                  have rw9_97 : 0 ≤ w9_97 ∧ w9_97 ≤ 700 := hP.2.1 9
                  have rw10_97 : 0 ≤ w10_97 ∧ w10_97 ≤ 700 := hP.2.1 10
                  have rw11_97 : 0 ≤ w11_97 ∧ w11_97 ≤ 999999 := hP.2.1 11
                  have hN1 : mAt B (v 3) w9_97 w10_97 w8_97 w11_97 (b0_97 0) (tX B (v 3) qq) := by have h := p0_97; rw [hM.bh] at h; exact h
                  clear p0_97
                  have hu1 := tX_up (B := B) (n := (v 3)) (q := qq) (by have h9 := (not_congr (tK_end (B := B) (n := (v 3)) (q := qq))).mp (by omega); omega)
                  have hle1 := hN1.le
                  refine lv_aload_n hx hb dX11_readKeys_96 rfl (lv_at hl 1 rfl) ?_
                  refine lv_bipush (v := iI 115) hx hb dX11_readKeys_97 (by decide) ?_
                  refine lv_bipush (v := iI 117) hx hb dX11_readKeys_99 (by decide) ?_
                  refine lv_bipush (v := iI 109) hx hb dX11_readKeys_101 (by decide) ?_
                  refine lv_iconst (v := iI 0) hx hb dX11_readKeys_103 rfl ?_
                  refine lv_iconst (v := iI 0) hx hb dX11_readKeys_104 rfl ?_
                  refine lv_iconst (v := iI 0) hx hb dX11_readKeys_105 rfl ?_
                  refine lv_iconst (v := iI 0) hx hb dX11_readKeys_106 rfl ?_
                  refine g_cs (As := [.int (iI 115), .int (iI 117), .int (iI 109), .int (iI 0), .int (iI 0), .int (iI 0), .int (iI 0)]) (rest := [.ref (ad 0)]) (n := 7) C hml (n_spelled l D k A ad hD (va_up (va_up (va_up (va_up (va_up (va_up (va_up v 6 y6_7) 7 y7_7) 8 w8_97) 9 w9_97) 10 w10_97) 11 w11_97) 17 y17_7) (va_up (va_up f 14 c14_7) 16 c16_7) (va_up g 0 b0_97) 115 117 109 0 0 0 0 (by decide) (by decide) (by decide) (by decide) (by decide) (by decide) (by decide)) mM_X11_228 mS_X11_spelled mN_X11 mC_X11_spelled (by decide +kernel) hP hS (fun _ h => h) ⟨Nat.le_of_ble_eq_true rfl, Nat.le_of_ble_eq_true rfl⟩ ⟨Nat.zero_le _, Nat.zero_le _⟩ hl.1 rfl rfl (Nat.le_of_ble_eq_true rfl) dX11_readKeys_107 (fun r_98 v_98 f_98 g_98 H locs hq_98 hP _ hS => ?_)
                  obtain ⟨z_98, rfl, rfl, rfl, rfl, p0_98⟩ := hq_98
                  show W p l e (gRm 2 42) s m args below meth c _ _ 0 0 Q (F0 m 110 ls [.long (iL z_98), .ref (ad 0)])
                  replace p0_98 : z_98 = (spW (115 : Int) (117 : Int) (109 : Int) (0 : Int) (0 : Int) (0 : Int) (0 : Int)) := p0_98
                  have hsp := p0_98
                  clear p0_98
                  refine g_cv (As := [.long (iL z_98)]) (rest := []) (n := 1) C hml (n_isW l D k A ad hD (va_up (va_up (va_up (va_up (va_up (va_up (va_up v 6 y6_7) 7 y7_7) 8 w8_97) 9 w9_97) 10 w10_97) 11 w11_97) 17 y17_7) (va_up (va_up f 14 c14_7) 16 c16_7) (va_up g 0 b0_97) z_98 B (tX B (v 3) qq) 8 (show mAt B (v 3) w9_97 w10_97 w8_97 w11_97 (b0_97 0) (tX B (v 3) qq) from hN1) (show z_98 = hW 8 ∧ 8 < 18 from ⟨by rw [hsp]; decide +kernel, by decide⟩)) mM_X11_232 mI_X11_isWord mE_X11_isWord mN_X11 mC_X11_isWord (by decide +kernel) 0 (ci := 11) rfl rfl hP hS (fun _ h => h) ⟨Nat.le_of_ble_eq_true rfl, Nat.le_of_ble_eq_true rfl⟩ ⟨Nat.zero_le _, Nat.zero_le _⟩ hl.1 rfl rfl (Nat.le_of_ble_eq_true rfl) dX11_readKeys_110 (fun r_99 v_99 f_99 g_99 H locs hq_99 hP _ hS => ?_)
                  obtain ⟨z_99, rfl, rfl, rfl, rfl, p0_99, p1_99⟩ := hq_99
                  show W p l e (gRm 2 42) s m args below meth c _ _ 0 0 Q (F0 m 113 ls [.int (iI z_99)])
                  replace p0_99 : 0 ≤ z_99 ∧ z_99 ≤ 1 := p0_99
                  replace p1_99 : z_99 = 1 ↔ (tK B (v 3) (tX B (v 3) qq)) = 260 + (8 : Int) := p1_99
                  refine gi_zeq (tgt := 120) hx hb dX11_readKeys_113 (by decide) (by omega) (fun c_100 => ?_) (fun c_100 => ?_)
                  · have v_99 := mt p1_99.mpr (show ¬ z_99 = 1 by omega)
                    clear p1_99
                    refine lv_aload_n hx hb dX11_readKeys_120 rfl (lv_at hl 1 rfl) ?_
                    refine lv_bipush (v := iI 109) hx hb dX11_readKeys_121 (by decide) ?_
                    refine lv_bipush (v := iI 111) hx hb dX11_readKeys_123 (by decide) ?_
                    refine lv_bipush (v := iI 115) hx hb dX11_readKeys_125 (by decide) ?_
                    refine lv_bipush (v := iI 116) hx hb dX11_readKeys_127 (by decide) ?_
                    refine lv_iconst (v := iI 0) hx hb dX11_readKeys_129 rfl ?_
                    refine lv_iconst (v := iI 0) hx hb dX11_readKeys_130 rfl ?_
                    refine lv_iconst (v := iI 0) hx hb dX11_readKeys_131 rfl ?_
                    refine g_cs (As := [.int (iI 109), .int (iI 111), .int (iI 115), .int (iI 116), .int (iI 0), .int (iI 0), .int (iI 0)]) (rest := [.ref (ad 0)]) (n := 7) C hml (n_spelled l D k A ad hD (va_up (va_up (va_up (va_up (va_up (va_up (va_up v 6 y6_7) 7 y7_7) 8 w8_97) 9 w9_97) 10 w10_97) 11 w11_97) 17 y17_7) (va_up (va_up f 14 c14_7) 16 c16_7) (va_up g 0 b0_97) 109 111 115 116 0 0 0 (by decide) (by decide) (by decide) (by decide) (by decide) (by decide) (by decide)) mM_X11_228 mS_X11_spelled mN_X11 mC_X11_spelled (by decide +kernel) hP hS (fun _ h => h) ⟨Nat.le_of_ble_eq_true rfl, Nat.le_of_ble_eq_true rfl⟩ ⟨Nat.zero_le _, Nat.zero_le _⟩ hl.1 rfl rfl (Nat.le_of_ble_eq_true rfl) dX11_readKeys_132 (fun r_101 v_101 f_101 g_101 H locs hq_101 hP _ hS => ?_)
                    obtain ⟨z_101, rfl, rfl, rfl, rfl, p0_101⟩ := hq_101
                    show W p l e (gRm 2 42) s m args below meth c _ _ 0 0 Q (F0 m 135 ls [.long (iL z_101), .ref (ad 0)])
                    replace p0_101 : z_101 = (spW (109 : Int) (111 : Int) (115 : Int) (116 : Int) (0 : Int) (0 : Int) (0 : Int)) := p0_101
                    have hsp := p0_101
                    clear p0_101
                    refine g_cv (As := [.long (iL z_101)]) (rest := []) (n := 1) C hml (n_isW l D k A ad hD (va_up (va_up (va_up (va_up (va_up (va_up (va_up v 6 y6_7) 7 y7_7) 8 w8_97) 9 w9_97) 10 w10_97) 11 w11_97) 17 y17_7) (va_up (va_up f 14 c14_7) 16 c16_7) (va_up g 0 b0_97) z_101 B (tX B (v 3) qq) 9 (show mAt B (v 3) w9_97 w10_97 w8_97 w11_97 (b0_97 0) (tX B (v 3) qq) from hN1) (show z_101 = hW 9 ∧ 9 < 18 from ⟨by rw [hsp]; decide +kernel, by decide⟩)) mM_X11_232 mI_X11_isWord mE_X11_isWord mN_X11 mC_X11_isWord (by decide +kernel) 0 (ci := 11) rfl rfl hP hS (fun _ h => h) ⟨Nat.le_of_ble_eq_true rfl, Nat.le_of_ble_eq_true rfl⟩ ⟨Nat.zero_le _, Nat.zero_le _⟩ hl.1 rfl rfl (Nat.le_of_ble_eq_true rfl) dX11_readKeys_135 (fun r_102 v_102 f_102 g_102 H locs hq_102 hP _ hS => ?_)
                    obtain ⟨z_102, rfl, rfl, rfl, rfl, p0_102, p1_102⟩ := hq_102
                    show W p l e (gRm 2 42) s m args below meth c _ _ 0 0 Q (F0 m 138 ls [.int (iI z_102)])
                    replace p0_102 : 0 ≤ z_102 ∧ z_102 ≤ 1 := p0_102
                    replace p1_102 : z_102 = 1 ↔ (tK B (v 3) (tX B (v 3) qq)) = 260 + (9 : Int) := p1_102
                    refine gi_zeq (tgt := 145) hx hb dX11_readKeys_138 (by decide) (by omega) (fun c_103 => ?_) (fun c_103 => ?_)
                    · have v_102 := mt p1_102.mpr (show ¬ z_102 = 1 by omega)
                      clear p1_102
                      refine lv_aload_n hx hb dX11_readKeys_145 rfl (lv_at hl 1 rfl) ?_
                      refine lv_bipush (v := iI 116) hx hb dX11_readKeys_146 (by decide) ?_
                      refine lv_bipush (v := iI 111) hx hb dX11_readKeys_148 (by decide) ?_
                      refine lv_bipush (v := iI 112) hx hb dX11_readKeys_150 (by decide) ?_
                      refine lv_bipush (v := iI 115) hx hb dX11_readKeys_152 (by decide) ?_
                      refine lv_iconst (v := iI 0) hx hb dX11_readKeys_154 rfl ?_
                      refine lv_iconst (v := iI 0) hx hb dX11_readKeys_155 rfl ?_
                      refine lv_iconst (v := iI 0) hx hb dX11_readKeys_156 rfl ?_
                      refine g_cs (As := [.int (iI 116), .int (iI 111), .int (iI 112), .int (iI 115), .int (iI 0), .int (iI 0), .int (iI 0)]) (rest := [.ref (ad 0)]) (n := 7) C hml (n_spelled l D k A ad hD (va_up (va_up (va_up (va_up (va_up (va_up (va_up v 6 y6_7) 7 y7_7) 8 w8_97) 9 w9_97) 10 w10_97) 11 w11_97) 17 y17_7) (va_up (va_up f 14 c14_7) 16 c16_7) (va_up g 0 b0_97) 116 111 112 115 0 0 0 (by decide) (by decide) (by decide) (by decide) (by decide) (by decide) (by decide)) mM_X11_228 mS_X11_spelled mN_X11 mC_X11_spelled (by decide +kernel) hP hS (fun _ h => h) ⟨Nat.le_of_ble_eq_true rfl, Nat.le_of_ble_eq_true rfl⟩ ⟨Nat.zero_le _, Nat.zero_le _⟩ hl.1 rfl rfl (Nat.le_of_ble_eq_true rfl) dX11_readKeys_157 (fun r_104 v_104 f_104 g_104 H locs hq_104 hP _ hS => ?_)
                      obtain ⟨z_104, rfl, rfl, rfl, rfl, p0_104⟩ := hq_104
                      show W p l e (gRm 2 42) s m args below meth c _ _ 0 0 Q (F0 m 160 ls [.long (iL z_104), .ref (ad 0)])
                      replace p0_104 : z_104 = (spW (116 : Int) (111 : Int) (112 : Int) (115 : Int) (0 : Int) (0 : Int) (0 : Int)) := p0_104
                      have hsp := p0_104
                      clear p0_104
                      refine g_cv (As := [.long (iL z_104)]) (rest := []) (n := 1) C hml (n_isW l D k A ad hD (va_up (va_up (va_up (va_up (va_up (va_up (va_up v 6 y6_7) 7 y7_7) 8 w8_97) 9 w9_97) 10 w10_97) 11 w11_97) 17 y17_7) (va_up (va_up f 14 c14_7) 16 c16_7) (va_up g 0 b0_97) z_104 B (tX B (v 3) qq) 10 (show mAt B (v 3) w9_97 w10_97 w8_97 w11_97 (b0_97 0) (tX B (v 3) qq) from hN1) (show z_104 = hW 10 ∧ 10 < 18 from ⟨by rw [hsp]; decide +kernel, by decide⟩)) mM_X11_232 mI_X11_isWord mE_X11_isWord mN_X11 mC_X11_isWord (by decide +kernel) 0 (ci := 11) rfl rfl hP hS (fun _ h => h) ⟨Nat.le_of_ble_eq_true rfl, Nat.le_of_ble_eq_true rfl⟩ ⟨Nat.zero_le _, Nat.zero_le _⟩ hl.1 rfl rfl (Nat.le_of_ble_eq_true rfl) dX11_readKeys_160 (fun r_105 v_105 f_105 g_105 H locs hq_105 hP _ hS => ?_)
                      obtain ⟨z_105, rfl, rfl, rfl, rfl, p0_105, p1_105⟩ := hq_105
                      show W p l e (gRm 2 42) s m args below meth c _ _ 0 0 Q (F0 m 163 ls [.int (iI z_105)])
                      replace p0_105 : 0 ≤ z_105 ∧ z_105 ≤ 1 := p0_105
                      replace p1_105 : z_105 = 1 ↔ (tK B (v 3) (tX B (v 3) qq)) = 260 + (10 : Int) := p1_105
                      refine gi_zeq (tgt := 170) hx hb dX11_readKeys_163 (by decide) (by omega) (fun c_106 => ?_) (fun c_106 => ?_)
                      · have v_105 := mt p1_105.mpr (show ¬ z_105 = 1 by omega)
                        clear p1_105
                        refine lv_aload_n hx hb dX11_readKeys_170 rfl (lv_at hl 1 rfl) ?_
                        refine lv_bipush (v := iI 122) hx hb dX11_readKeys_171 (by decide) ?_
                        refine lv_bipush (v := iI 111) hx hb dX11_readKeys_173 (by decide) ?_
                        refine lv_bipush (v := iI 110) hx hb dX11_readKeys_175 (by decide) ?_
                        refine lv_bipush (v := iI 101) hx hb dX11_readKeys_177 (by decide) ?_
                        refine lv_bipush (v := iI 115) hx hb dX11_readKeys_179 (by decide) ?_
                        refine lv_iconst (v := iI 0) hx hb dX11_readKeys_181 rfl ?_
                        refine lv_iconst (v := iI 0) hx hb dX11_readKeys_182 rfl ?_
                        refine g_cs (As := [.int (iI 122), .int (iI 111), .int (iI 110), .int (iI 101), .int (iI 115), .int (iI 0), .int (iI 0)]) (rest := [.ref (ad 0)]) (n := 7) C hml (n_spelled l D k A ad hD (va_up (va_up (va_up (va_up (va_up (va_up (va_up v 6 y6_7) 7 y7_7) 8 w8_97) 9 w9_97) 10 w10_97) 11 w11_97) 17 y17_7) (va_up (va_up f 14 c14_7) 16 c16_7) (va_up g 0 b0_97) 122 111 110 101 115 0 0 (by decide) (by decide) (by decide) (by decide) (by decide) (by decide) (by decide)) mM_X11_228 mS_X11_spelled mN_X11 mC_X11_spelled (by decide +kernel) hP hS (fun _ h => h) ⟨Nat.le_of_ble_eq_true rfl, Nat.le_of_ble_eq_true rfl⟩ ⟨Nat.zero_le _, Nat.zero_le _⟩ hl.1 rfl rfl (Nat.le_of_ble_eq_true rfl) dX11_readKeys_183 (fun r_107 v_107 f_107 g_107 H locs hq_107 hP _ hS => ?_)
                        obtain ⟨z_107, rfl, rfl, rfl, rfl, p0_107⟩ := hq_107
                        show W p l e (gRm 2 42) s m args below meth c _ _ 0 0 Q (F0 m 186 ls [.long (iL z_107), .ref (ad 0)])
                        replace p0_107 : z_107 = (spW (122 : Int) (111 : Int) (110 : Int) (101 : Int) (115 : Int) (0 : Int) (0 : Int)) := p0_107
                        have hsp := p0_107
                        clear p0_107
                        refine g_cv (As := [.long (iL z_107)]) (rest := []) (n := 1) C hml (n_isW l D k A ad hD (va_up (va_up (va_up (va_up (va_up (va_up (va_up v 6 y6_7) 7 y7_7) 8 w8_97) 9 w9_97) 10 w10_97) 11 w11_97) 17 y17_7) (va_up (va_up f 14 c14_7) 16 c16_7) (va_up g 0 b0_97) z_107 B (tX B (v 3) qq) 11 (show mAt B (v 3) w9_97 w10_97 w8_97 w11_97 (b0_97 0) (tX B (v 3) qq) from hN1) (show z_107 = hW 11 ∧ 11 < 18 from ⟨by rw [hsp]; decide +kernel, by decide⟩)) mM_X11_232 mI_X11_isWord mE_X11_isWord mN_X11 mC_X11_isWord (by decide +kernel) 0 (ci := 11) rfl rfl hP hS (fun _ h => h) ⟨Nat.le_of_ble_eq_true rfl, Nat.le_of_ble_eq_true rfl⟩ ⟨Nat.zero_le _, Nat.zero_le _⟩ hl.1 rfl rfl (Nat.le_of_ble_eq_true rfl) dX11_readKeys_186 (fun r_108 v_108 f_108 g_108 H locs hq_108 hP _ hS => ?_)
                        obtain ⟨z_108, rfl, rfl, rfl, rfl, p0_108, p1_108⟩ := hq_108
                        show W p l e (gRm 2 42) s m args below meth c _ _ 0 0 Q (F0 m 189 ls [.int (iI z_108)])
                        replace p0_108 : 0 ≤ z_108 ∧ z_108 ≤ 1 := p0_108
                        replace p1_108 : z_108 = 1 ↔ (tK B (v 3) (tX B (v 3) qq)) = 260 + (11 : Int) := p1_108
                        refine gi_zeq (tgt := 196) hx hb dX11_readKeys_189 (by decide) (by omega) (fun c_109 => ?_) (fun c_109 => ?_)
                        · have v_108 := mt p1_108.mpr (show ¬ z_108 = 1 by omega)
                          clear p1_108
                          refine lv_iconst (v := iI (-1)) hx hb dX11_readKeys_196 rfl ?_
                          refine lv_istore_n (lv' := [(3, .int (iI (-1))), (2, .int (iI z_12)), (0, .ref (ad 0)), (1, .int (iI x1))]) hx hb dX11_readKeys_197 rfl hl (by decide) rfl (fun ls hl => ?_)
                          refine lv_iload_n hx hb dX11_readKeys_198 rfl (lv_at hl 0 rfl) ?_
                          refine gi_zge (tgt := 207) hx hb dX11_readKeys_199 (by decide) (by decide) (fun c_110 => ?_) (fun c_110 => ?_)
                          · exfalso; omega
                          · refine lv_aload_n hx hb dX11_readKeys_202 rfl (lv_at hl 2 rfl) ?_
                            refine g_cv (As := []) (rest := []) (n := 0) C hml (n_wrC l D k A ad hD (va_up (va_up (va_up (va_up (va_up (va_up (va_up v 6 y6_7) 7 y7_7) 8 w8_97) 9 w9_97) 10 w10_97) 11 w11_97) 17 y17_7) (va_up (va_up f 14 c14_7) 16 c16_7) (va_up g 0 b0_97) B (tX B (v 3) qq) (show mAt B (v 3) w9_97 w10_97 w8_97 w11_97 (b0_97 0) (tX B (v 3) qq) from hN1)) mM_X11_198 mI_X11_wrong mE_X11_wrong mN_X11 mC_X11_wrong (by decide +kernel) 0 (ci := 11) rfl rfl hP hS (fun _ h => h) ⟨Nat.le_of_ble_eq_true rfl, Nat.le_of_ble_eq_true rfl⟩ ⟨Nat.zero_le _, Nat.zero_le _⟩ hl.1 rfl rfl (Nat.le_of_ble_eq_true rfl) dX11_readKeys_203 (fun r_111 v_111 f_111 g_111 H locs hq_111 hP _ hS => ?_)
                            obtain ⟨w6_111, w7_111, rfl, rfl, rfl, rfl, p0_111, p1_111⟩ := hq_111
                            show W p l e (gRm 2 42) s m args below meth c _ _ 0 0 Q (F0 m 206 ls [])
                            have hP : gWd D (mdT k ad) (va_up (va_up (va_up (va_up (va_up (va_up (va_up v 6 w6_111) 7 w7_111) 8 w8_97) 9 w9_97) 10 w10_97) 11 w11_97) 17 y17_7) (va_up (va_up f 14 c14_7) 16 c16_7) (va_up g 0 b0_97) H := ⟨hP.1, (gF_up (V := mdV) (F := mdF) (gF_up (V := mdV) (F := mdF) (gR_up (V := mdV) (F := mdF) (gR_up (V := mdV) (F := mdF) (gR_up (V := mdV) (F := mdF) (gR_up (V := mdV) (F := mdF) (gR_up (V := mdV) (F := mdF) (gR_up (V := mdV) (F := mdF) (gR_up (V := mdV) (F := mdF) ⟨hok.1, hok.2⟩ 6 (hP.2.1 6)) 7 (hP.2.1 7)) 8 (hP.2.1 8)) 9 (hP.2.1 9)) 10 (hP.2.1 10)) 11 (hP.2.1 11)) 17 (hP.2.1 17)) 14 (hP.2.2 14)) 16 (hP.2.2 16))⟩
                            replace p0_111 : y6_7 = 0 → w6_111 = (fk B (v 3) (tX B (v 3) qq)) ∧ w7_111 = (tX B (v 3) qq) := p0_111
                            replace p1_111 : 0 < y6_7 → w6_111 = y6_7 ∧ w7_111 = y7_7 := p1_111
                            have rw6_111 : 0 ≤ w6_111 ∧ w6_111 ≤ 5 := hP.2.1 6
                            have rw7_111 : 0 ≤ w7_111 ∧ w7_111 ≤ 700 := hP.2.1 7
                            first | replace p0_111 := p0_111 (by omega) | clear p0_111
                            first | replace p1_111 := p1_111 (by omega) | clear p1_111
                            exact g_vret hQ C hr hlocks hP hS dX11_readKeys_206 ⟨w6_111, w7_111, w8_97, w9_97, w10_97, w11_97, y17_7, c14_7, c16_7, b0_97, rfl, rfl, rfl, rfl, (oM_bad (by rw [← hJ3.get (by omega), kys_stop (c := y17_7) (by omega) (by omega) (Or.inl (by rw [ky1_c (by omega) (by omega) (by omega)]; show _ ≠ (0 : Int); omega))]; exact ky1_c (by omega) (by omega) (by omega)) (by omega) (by omega) hN1), (by intro h; exfalso; omega)⟩
                        · have v_108 := p1_108.mp (show z_108 = 1 by omega)
                          clear p1_108
                          refine lv_iconst (v := iI 3) hx hb dX11_readKeys_192 rfl ?_
                          refine lv_goto (tgt := 197) hx hb dX11_readKeys_193 (by decide) ?_
                          refine lv_istore_n (lv' := [(3, .int (iI 3)), (2, .int (iI z_12)), (0, .ref (ad 0)), (1, .int (iI x1))]) hx hb dX11_readKeys_197 rfl hl (by decide) rfl (fun ls hl => ?_)
                          refine lv_iload_n hx hb dX11_readKeys_198 rfl (lv_at hl 0 rfl) ?_
                          refine gi_zge (tgt := 207) hx hb dX11_readKeys_199 (by decide) (by decide) (fun c_112 => ?_) (fun c_112 => ?_)
                          · refine lv_aload_n hx hb dX11_readKeys_207 rfl (lv_at hl 2 rfl) ?_
                            refine mdG_newUp C hP mF_X11_67 dX11_readKeys_208 ?_
                            refine lv_aload_n hx hb dX11_readKeys_211 rfl (lv_at hl 2 rfl) ?_
                            refine mdG_newKeys C hP mF_X11_214 dX11_readKeys_212 ?_
                            show W p l e (gRm 2 42) s m args below meth c _ _ 0 0 Q (F0 m 215 ls [.int (iI y17_7), .ref (ad 17)])
                            refine lv_iload_n hx hb dX11_readKeys_215 rfl (lv_at hl 1 rfl) ?_
                            refine mdS_newUp (f1 := (va_up (va_up f 14 c14_7) 16 (u1 c16_7 y17_7 z_12))) C hP hD hS (by omega) (by omega) (by omega) (by omega) rfl (Or.inr (gF_up (V := mdV) (F := mdF) (gF_up (V := mdV) (F := mdF) (gR_up (V := mdV) (F := mdF) (gR_up (V := mdV) (F := mdF) (gR_up (V := mdV) (F := mdF) (gR_up (V := mdV) (F := mdF) (gR_up (V := mdV) (F := mdF) (gR_up (V := mdV) (F := mdF) (gR_up (V := mdV) (F := mdF) ⟨hok.1, hok.2⟩ 6 (hP.2.1 6)) 7 (hP.2.1 7)) 8 (hP.2.1 8)) 9 (hP.2.1 9)) 10 (hP.2.1 10)) 11 (hP.2.1 11)) 17 (hP.2.1 17)) 14 (hP.2.2 14)) 16 (u1_rng (hP.2.2 16) (show 0 ≤ z_12 ∧ z_12 ≤ 1 from (by omega))))) dX11_readKeys_216 (fun H locs hP hS => ?_)
                            refine lv_aload_n hx hb dX11_readKeys_217 rfl (lv_at hl 2 rfl) ?_
                            refine mdG_newKey C hP mF_X11_60 dX11_readKeys_218 ?_
                            refine lv_aload_n hx hb dX11_readKeys_221 rfl (lv_at hl 2 rfl) ?_
                            refine mdG_newKeys C hP mF_X11_214 dX11_readKeys_222 ?_
                            show W p l e (gRm 2 42) s m args below meth c _ _ 0 0 Q (F0 m 225 ls [.int (iI y17_7), .ref (ad 15)])
                            refine lv_iload_n hx hb dX11_readKeys_225 rfl (lv_at hl 0 rfl) ?_
                            refine mdS_newKey (f1 := (va_up (va_up f 14 (u1 c14_7 y17_7 3)) 16 (u1 c16_7 y17_7 z_12))) C hP hD hS (by omega) (by omega) (by decide) rfl (Or.inr (gF_up (V := mdV) (F := mdF) (gF_up (V := mdV) (F := mdF) (gR_up (V := mdV) (F := mdF) (gR_up (V := mdV) (F := mdF) (gR_up (V := mdV) (F := mdF) (gR_up (V := mdV) (F := mdF) (gR_up (V := mdV) (F := mdF) (gR_up (V := mdV) (F := mdF) (gR_up (V := mdV) (F := mdF) ⟨hok.1, hok.2⟩ 6 (hP.2.1 6)) 7 (hP.2.1 7)) 8 (hP.2.1 8)) 9 (hP.2.1 9)) 10 (hP.2.1 10)) 11 (hP.2.1 11)) 17 (hP.2.1 17)) 14 (u1_rng (hP.2.2 14) (show 0 ≤ 3 ∧ 3 ≤ 3 from (by decide)))) 16 (hP.2.2 16))) dX11_readKeys_226 (fun H locs hP hS => ?_)
                            refine lv_aload_n hx hb dX11_readKeys_227 rfl (lv_at hl 2 rfl) ?_
                            refine lv_dup hx hb dX11_readKeys_228 rfl ?_
                            refine mdG_newKeys C hP mF_X11_214 dX11_readKeys_229 ?_
                            show W p l e (gRm 2 42) s m args below meth c _ _ 0 0 Q (F0 m 232 ls [.int (iI y17_7), .ref (ad 0)])
                            refine lv_iconst (v := iI 1) hx hb dX11_readKeys_232 rfl ?_
                            refine gi_add (z := (y17_7 + 1)) hx hb dX11_readKeys_233 rfl ?_
                            refine mdP_newKeys (v1 := (va_up (va_up (va_up (va_up (va_up (va_up (va_up v 6 y6_7) 7 y7_7) 8 w8_97) 9 w9_97) 10 w10_97) 11 w11_97) 17 (y17_7 + 1))) C hP hD hS mF_X11_214 (by omega) rfl (Or.inr (gF_up (V := mdV) (F := mdF) (gF_up (V := mdV) (F := mdF) (gR_up (V := mdV) (F := mdF) (gR_up (V := mdV) (F := mdF) (gR_up (V := mdV) (F := mdF) (gR_up (V := mdV) (F := mdF) (gR_up (V := mdV) (F := mdF) (gR_up (V := mdV) (F := mdF) (gR_up (V := mdV) (F := mdF) ⟨hok.1, hok.2⟩ 6 (hP.2.1 6)) 7 (hP.2.1 7)) 8 (hP.2.1 8)) 9 (hP.2.1 9)) 10 (hP.2.1 10)) 11 (hP.2.1 11)) 17 (show 0 ≤ (y17_7 + 1) ∧ (y17_7 + 1) ≤ 4 from by omega)) 14 (hP.2.2 14)) 16 (hP.2.2 16))) dX11_readKeys_234 (fun H locs hP hS => ?_)
                            refine lv_aload_n hx hb dX11_readKeys_237 rfl (lv_at hl 2 rfl) ?_
                            refine g_cv (As := []) (rest := []) (n := 0) C hml (n_next l D k A ad hD (va_up (va_up (va_up (va_up (va_up (va_up (va_up v 6 y6_7) 7 y7_7) 8 w8_97) 9 w9_97) 10 w10_97) 11 w11_97) 17 (y17_7 + 1)) (va_up (va_up f 14 (u1 c14_7 y17_7 3)) 16 (u1 c16_7 y17_7 z_12)) (va_up g 0 b0_97) B (show ∀ k, (f 0) k % 256 = B k from hB) (show 0 ≤ w10_97 ∧ w10_97 ≤ (v 3) from by omega)) mM_X11_201 mI_X11_next mE_X11_next mN_X11 mC_X11_next (by decide +kernel) 0 (ci := 11) rfl rfl hP hS (fun _ h => h) ⟨Nat.le_of_ble_eq_true rfl, Nat.le_of_ble_eq_true rfl⟩ ⟨Nat.zero_le _, Nat.zero_le _⟩ hl.1 rfl rfl (Nat.le_of_ble_eq_true rfl) dX11_readKeys_238 (fun r_113 v_113 f_113 g_113 H locs hq_113 hP _ hS => ?_)
                            obtain ⟨w8_113, w9_113, w10_113, w11_113, b0_113, rfl, rfl, rfl, rfl, p0_113⟩ := hq_113
                            show W p l e (gRm 2 42) s m args below meth c _ _ 0 0 Q (F0 m 241 ls [])
                            have hP : gWd D (mdT k ad) (va_up (va_up (va_up (va_up (va_up (va_up (va_up v 6 y6_7) 7 y7_7) 8 w8_113) 9 w9_113) 10 w10_113) 11 w11_113) 17 (y17_7 + 1)) (va_up (va_up f 14 (u1 c14_7 y17_7 3)) 16 (u1 c16_7 y17_7 z_12)) (va_up g 0 b0_113) H := ⟨hP.1, (gF_up (V := mdV) (F := mdF) (gF_up (V := mdV) (F := mdF) (gR_up (V := mdV) (F := mdF) (gR_up (V := mdV) (F := mdF) (gR_up (V := mdV) (F := mdF) (gR_up (V := mdV) (F := mdF) (gR_up (V := mdV) (F := mdF) (gR_up (V := mdV) (F := mdF) (gR_up (V := mdV) (F := mdF) ⟨hok.1, hok.2⟩ 6 (hP.2.1 6)) 7 (hP.2.1 7)) 8 (hP.2.1 8)) 9 (hP.2.1 9)) 10 (hP.2.1 10)) 11 (hP.2.1 11)) 17 (hP.2.1 17)) 14 (hP.2.2 14)) 16 (hP.2.2 16))⟩
                            replace p0_113 : mAt B (v 3) w9_113 w10_113 w8_113 w11_113 (b0_113 0) (run bW B (v 3) w10_97) := p0_113
                            have rw8_113 : 0 ≤ w8_113 ∧ w8_113 ≤ 4 := hP.2.1 8
                            have rw9_113 : 0 ≤ w9_113 ∧ w9_113 ≤ 700 := hP.2.1 9
                            have rw10_113 : 0 ≤ w10_113 ∧ w10_113 ≤ 700 := hP.2.1 10
                            have rw11_113 : 0 ≤ w11_113 ∧ w11_113 ≤ 999999 := hP.2.1 11
                            have hN2 : mAt B (v 3) w9_113 w10_113 w8_113 w11_113 (b0_113 0) (tX B (v 3) (tX B (v 3) qq)) := by have h := p0_113; rw [hN1.bh] at h; exact h
                            clear p0_113
                            have hu2 := tX_up (B := B) (n := (v 3)) (q := (tX B (v 3) qq)) (by have h9 := (not_congr (tK_end (B := B) (n := (v 3)) (q := (tX B (v 3) qq)))).mp (by omega); omega)
                            have hle2 := hN2.le
                            have hky : ky1 B (v 3) y17_7 qq = (0, tX B (v 3) (tX B (v 3) qq)) := ky1_d (by omega) (by omega) (by omega)
                            refine lv_aload_n hx hb dX11_readKeys_241 rfl (lv_at hl 2 rfl) ?_
                            refine lv_bipush (v := iI 44) hx hb dX11_readKeys_242 (by decide) ?_
                            refine g_cv (As := [.int (iI 44)]) (rest := []) (n := 1) C hml (n_isS l D k A ad hD (va_up (va_up (va_up (va_up (va_up (va_up (va_up v 6 y6_7) 7 y7_7) 8 w8_113) 9 w9_113) 10 w10_113) 11 w11_113) 17 (y17_7 + 1)) (va_up (va_up f 14 (u1 c14_7 y17_7 3)) 16 (u1 c16_7 y17_7 z_12)) (va_up g 0 b0_113) 44 B (tX B (v 3) (tX B (v 3) qq)) (by decide) (show mAt B (v 3) w9_113 w10_113 w8_113 w11_113 (b0_113 0) (tX B (v 3) (tX B (v 3) qq)) from hN2) (show 40 ≤ (44 : Int) ∧ (44 : Int) < 256 from by omega)) mM_X11_204 mI_X11_isSign mE_X11_isSign mN_X11 mC_X11_isSign (by decide +kernel) 0 (ci := 11) rfl rfl hP hS (fun _ h => h) ⟨Nat.le_of_ble_eq_true rfl, Nat.le_of_ble_eq_true rfl⟩ ⟨Nat.zero_le _, Nat.zero_le _⟩ hl.1 rfl rfl (Nat.le_of_ble_eq_true rfl) dX11_readKeys_244 (fun r_114 v_114 f_114 g_114 H locs hq_114 hP _ hS => ?_)
                            obtain ⟨z_114, rfl, rfl, rfl, rfl, p0_114, p1_114⟩ := hq_114
                            show W p l e (gRm 2 42) s m args below meth c _ _ 0 0 Q (F0 m 247 ls [.int (iI z_114)])
                            replace p0_114 : 0 ≤ z_114 ∧ z_114 ≤ 1 := p0_114
                            replace p1_114 : z_114 = 1 ↔ (tK B (v 3) (tX B (v 3) (tX B (v 3) qq))) = (44 : Int) := p1_114
                            refine lv_istore_n (lv' := [(1, .int (iI z_114)), (3, .int (iI 3)), (2, .int (iI z_12)), (0, .ref (ad 0))]) hx hb dX11_readKeys_247 rfl hl (by decide) rfl (fun ls hl => ?_)
                            refine lv_iload_n hx hb dX11_readKeys_248 rfl (lv_at hl 0 rfl) ?_
                            refine gi_zeq (tgt := 256) hx hb dX11_readKeys_249 (by decide) (by omega) (fun c_115 => ?_) (fun c_115 => ?_)
                            · have v_114 := mt p1_114.mpr (show ¬ z_114 = 1 by omega)
                              clear p1_114
                              refine lv_goto (tgt := 7) hx hb dX11_readKeys_256 (by decide) ?_
                              exact ih_7 z_114 ((tX B (v 3) (tX B (v 3) qq))) y6_7 y7_7 w8_113 w9_113 w10_113 w11_113 (y17_7 + 1) (u1 c14_7 y17_7 3) (u1 c16_7 y17_7 z_12) b0_113 _ _ _ (by omega) (by omega) hN2 (by omega) (by first | (intro h; exfalso; omega) | exact fun _ => (by rw [← hJ3.get (by omega), kys_go (B := B) (n := (v 3)) (p := qq) (c := y17_7) (by omega) (by omega) (by rw [hky]) (by rw [hky]; show tK B (v 3) (tX B (v 3) (tX B (v 3) qq)) = 44; omega), hky])) (by first | (intro h; exfalso; omega) | exact fun _ => (by rw [← hJ3.get (by omega), kys_stop (B := B) (n := (v 3)) (p := qq) (c := y17_7) (by omega) (by omega) (Or.inr (by rw [hky]; show tK B (v 3) (tX B (v 3) (tX B (v 3) qq)) ≠ 44; omega)), hky])) (by first | (intro h; exfalso; omega) | exact fun _ => (by rw [kyP_s (by omega), ← hC1.get (by omega)])) (by first | (intro h; exfalso; omega) | exact fun _ => (by have h8 := hC2.get (by omega); rw [kyN_go (x := y17_7) (by omega) (by omega)] at h8; omega)) (by first | (intro h; exfalso; omega) | exact fun _ => (by have h8 := hC2.get (by omega); rw [kyN_end (x := y17_7) (by omega) (by omega)] at h8; omega)) (kyM_put hC4.get (by omega) (by rw [← hC1.get (by omega)]; omega) (by rw [← hC1.get (by omega)]; first | (rw [if_pos (by omega)]; omega) | (rw [if_neg (by omega)]; omega))) hP hS (lv_sub hl [3, 0] rfl)
                            · have v_114 := p1_114.mp (show z_114 = 1 by omega)
                              clear p1_114
                              refine lv_aload_n hx hb dX11_readKeys_252 rfl (lv_at hl 3 rfl) ?_
                              refine g_cv (As := []) (rest := []) (n := 0) C hml (n_next l D k A ad hD (va_up (va_up (va_up (va_up (va_up (va_up (va_up v 6 y6_7) 7 y7_7) 8 w8_113) 9 w9_113) 10 w10_113) 11 w11_113) 17 (y17_7 + 1)) (va_up (va_up f 14 (u1 c14_7 y17_7 3)) 16 (u1 c16_7 y17_7 z_12)) (va_up g 0 b0_113) B (show ∀ k, (f 0) k % 256 = B k from hB) (show 0 ≤ w10_113 ∧ w10_113 ≤ (v 3) from by omega)) mM_X11_201 mI_X11_next mE_X11_next mN_X11 mC_X11_next (by decide +kernel) 0 (ci := 11) rfl rfl hP hS (fun _ h => h) ⟨Nat.le_of_ble_eq_true rfl, Nat.le_of_ble_eq_true rfl⟩ ⟨Nat.zero_le _, Nat.zero_le _⟩ hl.1 rfl rfl (Nat.le_of_ble_eq_true rfl) dX11_readKeys_253 (fun r_116 v_116 f_116 g_116 H locs hq_116 hP _ hS => ?_)
                              obtain ⟨w8_116, w9_116, w10_116, w11_116, b0_116, rfl, rfl, rfl, rfl, p0_116⟩ := hq_116
                              show W p l e (gRm 2 42) s m args below meth c _ _ 0 0 Q (F0 m 256 ls [])
                              have hP : gWd D (mdT k ad) (va_up (va_up (va_up (va_up (va_up (va_up (va_up v 6 y6_7) 7 y7_7) 8 w8_116) 9 w9_116) 10 w10_116) 11 w11_116) 17 (y17_7 + 1)) (va_up (va_up f 14 (u1 c14_7 y17_7 3)) 16 (u1 c16_7 y17_7 z_12)) (va_up g 0 b0_116) H := ⟨hP.1, (gF_up (V := mdV) (F := mdF) (gF_up (V := mdV) (F := mdF) (gR_up (V := mdV) (F := mdF) (gR_up (V := mdV) (F := mdF) (gR_up (V := mdV) (F := mdF) (gR_up (V := mdV) (F := mdF) (gR_up (V := mdV) (F := mdF) (gR_up (V := mdV) (F := mdF) (gR_up (V := mdV) (F := mdF) ⟨hok.1, hok.2⟩ 6 (hP.2.1 6)) 7 (hP.2.1 7)) 8 (hP.2.1 8)) 9 (hP.2.1 9)) 10 (hP.2.1 10)) 11 (hP.2.1 11)) 17 (hP.2.1 17)) 14 (hP.2.2 14)) 16 (hP.2.2 16))⟩
                              replace p0_116 : mAt B (v 3) w9_116 w10_116 w8_116 w11_116 (b0_116 0) (run bW B (v 3) w10_113) := p0_116
                              have rw8_116 : 0 ≤ w8_116 ∧ w8_116 ≤ 4 := hP.2.1 8
                              have rw9_116 : 0 ≤ w9_116 ∧ w9_116 ≤ 700 := hP.2.1 9
                              have rw10_116 : 0 ≤ w10_116 ∧ w10_116 ≤ 700 := hP.2.1 10
                              have rw11_116 : 0 ≤ w11_116 ∧ w11_116 ≤ 999999 := hP.2.1 11
                              have hN3 : mAt B (v 3) w9_116 w10_116 w8_116 w11_116 (b0_116 0) (tX B (v 3) (tX B (v 3) (tX B (v 3) qq))) := by have h := p0_116; rw [hN2.bh] at h; exact h
                              clear p0_116
                              have hu3 := tX_up (B := B) (n := (v 3)) (q := (tX B (v 3) (tX B (v 3) qq))) (by have h9 := (not_congr (tK_end (B := B) (n := (v 3)) (q := (tX B (v 3) (tX B (v 3) qq))))).mp (by omega); omega)
                              refine lv_goto (tgt := 7) hx hb dX11_readKeys_256 (by decide) ?_
                              exact ih_7 z_114 ((tX B (v 3) (tX B (v 3) (tX B (v 3) qq)))) y6_7 y7_7 w8_116 w9_116 w10_116 w11_116 (y17_7 + 1) (u1 c14_7 y17_7 3) (u1 c16_7 y17_7 z_12) b0_116 _ _ _ (by omega) (by omega) hN3 (by omega) (by first | (intro h; exfalso; omega) | exact fun _ => (by rw [← hJ3.get (by omega), kys_go (B := B) (n := (v 3)) (p := qq) (c := y17_7) (by omega) (by omega) (by rw [hky]) (by rw [hky]; show tK B (v 3) (tX B (v 3) (tX B (v 3) qq)) = 44; omega), hky])) (by first | (intro h; exfalso; omega) | exact fun _ => (by rw [← hJ3.get (by omega), kys_stop (B := B) (n := (v 3)) (p := qq) (c := y17_7) (by omega) (by omega) (Or.inr (by rw [hky]; show tK B (v 3) (tX B (v 3) (tX B (v 3) qq)) ≠ 44; omega)), hky])) (by first | (intro h; exfalso; omega) | exact fun _ => (by rw [kyP_s (by omega), ← hC1.get (by omega)])) (by first | (intro h; exfalso; omega) | exact fun _ => (by have h8 := hC2.get (by omega); rw [kyN_go (x := y17_7) (by omega) (by omega)] at h8; omega)) (by first | (intro h; exfalso; omega) | exact fun _ => (by have h8 := hC2.get (by omega); rw [kyN_end (x := y17_7) (by omega) (by omega)] at h8; omega)) (kyM_put hC4.get (by omega) (by rw [← hC1.get (by omega)]; omega) (by rw [← hC1.get (by omega)]; first | (rw [if_pos (by omega)]; omega) | (rw [if_neg (by omega)]; omega))) hP hS (lv_sub hl [3, 0] rfl)
                          · exfalso; omega
                      · have v_105 := p1_105.mp (show z_105 = 1 by omega)
                        clear p1_105
                        refine lv_iconst (v := iI 2) hx hb dX11_readKeys_166 rfl ?_
                        refine lv_goto (tgt := 197) hx hb dX11_readKeys_167 (by decide) ?_
                        refine lv_istore_n (lv' := [(3, .int (iI 2)), (2, .int (iI z_12)), (0, .ref (ad 0)), (1, .int (iI x1))]) hx hb dX11_readKeys_197 rfl hl (by decide) rfl (fun ls hl => ?_)
                        refine lv_iload_n hx hb dX11_readKeys_198 rfl (lv_at hl 0 rfl) ?_
                        refine gi_zge (tgt := 207) hx hb dX11_readKeys_199 (by decide) (by decide) (fun c_117 => ?_) (fun c_117 => ?_)
                        · refine lv_aload_n hx hb dX11_readKeys_207 rfl (lv_at hl 2 rfl) ?_
                          refine mdG_newUp C hP mF_X11_67 dX11_readKeys_208 ?_
                          refine lv_aload_n hx hb dX11_readKeys_211 rfl (lv_at hl 2 rfl) ?_
                          refine mdG_newKeys C hP mF_X11_214 dX11_readKeys_212 ?_
                          show W p l e (gRm 2 42) s m args below meth c _ _ 0 0 Q (F0 m 215 ls [.int (iI y17_7), .ref (ad 17)])
                          refine lv_iload_n hx hb dX11_readKeys_215 rfl (lv_at hl 1 rfl) ?_
                          refine mdS_newUp (f1 := (va_up (va_up f 14 c14_7) 16 (u1 c16_7 y17_7 z_12))) C hP hD hS (by omega) (by omega) (by omega) (by omega) rfl (Or.inr (gF_up (V := mdV) (F := mdF) (gF_up (V := mdV) (F := mdF) (gR_up (V := mdV) (F := mdF) (gR_up (V := mdV) (F := mdF) (gR_up (V := mdV) (F := mdF) (gR_up (V := mdV) (F := mdF) (gR_up (V := mdV) (F := mdF) (gR_up (V := mdV) (F := mdF) (gR_up (V := mdV) (F := mdF) ⟨hok.1, hok.2⟩ 6 (hP.2.1 6)) 7 (hP.2.1 7)) 8 (hP.2.1 8)) 9 (hP.2.1 9)) 10 (hP.2.1 10)) 11 (hP.2.1 11)) 17 (hP.2.1 17)) 14 (hP.2.2 14)) 16 (u1_rng (hP.2.2 16) (show 0 ≤ z_12 ∧ z_12 ≤ 1 from (by omega))))) dX11_readKeys_216 (fun H locs hP hS => ?_)
                          refine lv_aload_n hx hb dX11_readKeys_217 rfl (lv_at hl 2 rfl) ?_
                          refine mdG_newKey C hP mF_X11_60 dX11_readKeys_218 ?_
                          refine lv_aload_n hx hb dX11_readKeys_221 rfl (lv_at hl 2 rfl) ?_
                          refine mdG_newKeys C hP mF_X11_214 dX11_readKeys_222 ?_
                          show W p l e (gRm 2 42) s m args below meth c _ _ 0 0 Q (F0 m 225 ls [.int (iI y17_7), .ref (ad 15)])
                          refine lv_iload_n hx hb dX11_readKeys_225 rfl (lv_at hl 0 rfl) ?_
                          refine mdS_newKey (f1 := (va_up (va_up f 14 (u1 c14_7 y17_7 2)) 16 (u1 c16_7 y17_7 z_12))) C hP hD hS (by omega) (by omega) (by decide) rfl (Or.inr (gF_up (V := mdV) (F := mdF) (gF_up (V := mdV) (F := mdF) (gR_up (V := mdV) (F := mdF) (gR_up (V := mdV) (F := mdF) (gR_up (V := mdV) (F := mdF) (gR_up (V := mdV) (F := mdF) (gR_up (V := mdV) (F := mdF) (gR_up (V := mdV) (F := mdF) (gR_up (V := mdV) (F := mdF) ⟨hok.1, hok.2⟩ 6 (hP.2.1 6)) 7 (hP.2.1 7)) 8 (hP.2.1 8)) 9 (hP.2.1 9)) 10 (hP.2.1 10)) 11 (hP.2.1 11)) 17 (hP.2.1 17)) 14 (u1_rng (hP.2.2 14) (show 0 ≤ 2 ∧ 2 ≤ 3 from (by decide)))) 16 (hP.2.2 16))) dX11_readKeys_226 (fun H locs hP hS => ?_)
                          refine lv_aload_n hx hb dX11_readKeys_227 rfl (lv_at hl 2 rfl) ?_
                          refine lv_dup hx hb dX11_readKeys_228 rfl ?_
                          refine mdG_newKeys C hP mF_X11_214 dX11_readKeys_229 ?_
                          show W p l e (gRm 2 42) s m args below meth c _ _ 0 0 Q (F0 m 232 ls [.int (iI y17_7), .ref (ad 0)])
                          refine lv_iconst (v := iI 1) hx hb dX11_readKeys_232 rfl ?_
                          refine gi_add (z := (y17_7 + 1)) hx hb dX11_readKeys_233 rfl ?_
                          refine mdP_newKeys (v1 := (va_up (va_up (va_up (va_up (va_up (va_up (va_up v 6 y6_7) 7 y7_7) 8 w8_97) 9 w9_97) 10 w10_97) 11 w11_97) 17 (y17_7 + 1))) C hP hD hS mF_X11_214 (by omega) rfl (Or.inr (gF_up (V := mdV) (F := mdF) (gF_up (V := mdV) (F := mdF) (gR_up (V := mdV) (F := mdF) (gR_up (V := mdV) (F := mdF) (gR_up (V := mdV) (F := mdF) (gR_up (V := mdV) (F := mdF) (gR_up (V := mdV) (F := mdF) (gR_up (V := mdV) (F := mdF) (gR_up (V := mdV) (F := mdF) ⟨hok.1, hok.2⟩ 6 (hP.2.1 6)) 7 (hP.2.1 7)) 8 (hP.2.1 8)) 9 (hP.2.1 9)) 10 (hP.2.1 10)) 11 (hP.2.1 11)) 17 (show 0 ≤ (y17_7 + 1) ∧ (y17_7 + 1) ≤ 4 from by omega)) 14 (hP.2.2 14)) 16 (hP.2.2 16))) dX11_readKeys_234 (fun H locs hP hS => ?_)
                          refine lv_aload_n hx hb dX11_readKeys_237 rfl (lv_at hl 2 rfl) ?_
                          refine g_cv (As := []) (rest := []) (n := 0) C hml (n_next l D k A ad hD (va_up (va_up (va_up (va_up (va_up (va_up (va_up v 6 y6_7) 7 y7_7) 8 w8_97) 9 w9_97) 10 w10_97) 11 w11_97) 17 (y17_7 + 1)) (va_up (va_up f 14 (u1 c14_7 y17_7 2)) 16 (u1 c16_7 y17_7 z_12)) (va_up g 0 b0_97) B (show ∀ k, (f 0) k % 256 = B k from hB) (show 0 ≤ w10_97 ∧ w10_97 ≤ (v 3) from by omega)) mM_X11_201 mI_X11_next mE_X11_next mN_X11 mC_X11_next (by decide +kernel) 0 (ci := 11) rfl rfl hP hS (fun _ h => h) ⟨Nat.le_of_ble_eq_true rfl, Nat.le_of_ble_eq_true rfl⟩ ⟨Nat.zero_le _, Nat.zero_le _⟩ hl.1 rfl rfl (Nat.le_of_ble_eq_true rfl) dX11_readKeys_238 (fun r_118 v_118 f_118 g_118 H locs hq_118 hP _ hS => ?_)
                          obtain ⟨w8_118, w9_118, w10_118, w11_118, b0_118, rfl, rfl, rfl, rfl, p0_118⟩ := hq_118
                          show W p l e (gRm 2 42) s m args below meth c _ _ 0 0 Q (F0 m 241 ls [])
                          have hP : gWd D (mdT k ad) (va_up (va_up (va_up (va_up (va_up (va_up (va_up v 6 y6_7) 7 y7_7) 8 w8_118) 9 w9_118) 10 w10_118) 11 w11_118) 17 (y17_7 + 1)) (va_up (va_up f 14 (u1 c14_7 y17_7 2)) 16 (u1 c16_7 y17_7 z_12)) (va_up g 0 b0_118) H := ⟨hP.1, (gF_up (V := mdV) (F := mdF) (gF_up (V := mdV) (F := mdF) (gR_up (V := mdV) (F := mdF) (gR_up (V := mdV) (F := mdF) (gR_up (V := mdV) (F := mdF) (gR_up (V := mdV) (F := mdF) (gR_up (V := mdV) (F := mdF) (gR_up (V := mdV) (F := mdF) (gR_up (V := mdV) (F := mdF) ⟨hok.1, hok.2⟩ 6 (hP.2.1 6)) 7 (hP.2.1 7)) 8 (hP.2.1 8)) 9 (hP.2.1 9)) 10 (hP.2.1 10)) 11 (hP.2.1 11)) 17 (hP.2.1 17)) 14 (hP.2.2 14)) 16 (hP.2.2 16))⟩
                          replace p0_118 : mAt B (v 3) w9_118 w10_118 w8_118 w11_118 (b0_118 0) (run bW B (v 3) w10_97) := p0_118
                          have rw8_118 : 0 ≤ w8_118 ∧ w8_118 ≤ 4 := hP.2.1 8
                          have rw9_118 : 0 ≤ w9_118 ∧ w9_118 ≤ 700 := hP.2.1 9
                          have rw10_118 : 0 ≤ w10_118 ∧ w10_118 ≤ 700 := hP.2.1 10
                          have rw11_118 : 0 ≤ w11_118 ∧ w11_118 ≤ 999999 := hP.2.1 11
                          have hN2 : mAt B (v 3) w9_118 w10_118 w8_118 w11_118 (b0_118 0) (tX B (v 3) (tX B (v 3) qq)) := by have h := p0_118; rw [hN1.bh] at h; exact h
                          clear p0_118
                          have hu2 := tX_up (B := B) (n := (v 3)) (q := (tX B (v 3) qq)) (by have h9 := (not_congr (tK_end (B := B) (n := (v 3)) (q := (tX B (v 3) qq)))).mp (by omega); omega)
                          have hle2 := hN2.le
                          have hky : ky1 B (v 3) y17_7 qq = (0, tX B (v 3) (tX B (v 3) qq)) := ky1_d (by omega) (by omega) (by omega)
                          refine lv_aload_n hx hb dX11_readKeys_241 rfl (lv_at hl 2 rfl) ?_
                          refine lv_bipush (v := iI 44) hx hb dX11_readKeys_242 (by decide) ?_
                          refine g_cv (As := [.int (iI 44)]) (rest := []) (n := 1) C hml (n_isS l D k A ad hD (va_up (va_up (va_up (va_up (va_up (va_up (va_up v 6 y6_7) 7 y7_7) 8 w8_118) 9 w9_118) 10 w10_118) 11 w11_118) 17 (y17_7 + 1)) (va_up (va_up f 14 (u1 c14_7 y17_7 2)) 16 (u1 c16_7 y17_7 z_12)) (va_up g 0 b0_118) 44 B (tX B (v 3) (tX B (v 3) qq)) (by decide) (show mAt B (v 3) w9_118 w10_118 w8_118 w11_118 (b0_118 0) (tX B (v 3) (tX B (v 3) qq)) from hN2) (show 40 ≤ (44 : Int) ∧ (44 : Int) < 256 from by omega)) mM_X11_204 mI_X11_isSign mE_X11_isSign mN_X11 mC_X11_isSign (by decide +kernel) 0 (ci := 11) rfl rfl hP hS (fun _ h => h) ⟨Nat.le_of_ble_eq_true rfl, Nat.le_of_ble_eq_true rfl⟩ ⟨Nat.zero_le _, Nat.zero_le _⟩ hl.1 rfl rfl (Nat.le_of_ble_eq_true rfl) dX11_readKeys_244 (fun r_119 v_119 f_119 g_119 H locs hq_119 hP _ hS => ?_)
                          obtain ⟨z_119, rfl, rfl, rfl, rfl, p0_119, p1_119⟩ := hq_119
                          show W p l e (gRm 2 42) s m args below meth c _ _ 0 0 Q (F0 m 247 ls [.int (iI z_119)])
                          replace p0_119 : 0 ≤ z_119 ∧ z_119 ≤ 1 := p0_119
                          replace p1_119 : z_119 = 1 ↔ (tK B (v 3) (tX B (v 3) (tX B (v 3) qq))) = (44 : Int) := p1_119
                          refine lv_istore_n (lv' := [(1, .int (iI z_119)), (3, .int (iI 2)), (2, .int (iI z_12)), (0, .ref (ad 0))]) hx hb dX11_readKeys_247 rfl hl (by decide) rfl (fun ls hl => ?_)
                          refine lv_iload_n hx hb dX11_readKeys_248 rfl (lv_at hl 0 rfl) ?_
                          refine gi_zeq (tgt := 256) hx hb dX11_readKeys_249 (by decide) (by omega) (fun c_120 => ?_) (fun c_120 => ?_)
                          · have v_119 := mt p1_119.mpr (show ¬ z_119 = 1 by omega)
                            clear p1_119
                            refine lv_goto (tgt := 7) hx hb dX11_readKeys_256 (by decide) ?_
                            exact ih_7 z_119 ((tX B (v 3) (tX B (v 3) qq))) y6_7 y7_7 w8_118 w9_118 w10_118 w11_118 (y17_7 + 1) (u1 c14_7 y17_7 2) (u1 c16_7 y17_7 z_12) b0_118 _ _ _ (by omega) (by omega) hN2 (by omega) (by first | (intro h; exfalso; omega) | exact fun _ => (by rw [← hJ3.get (by omega), kys_go (B := B) (n := (v 3)) (p := qq) (c := y17_7) (by omega) (by omega) (by rw [hky]) (by rw [hky]; show tK B (v 3) (tX B (v 3) (tX B (v 3) qq)) = 44; omega), hky])) (by first | (intro h; exfalso; omega) | exact fun _ => (by rw [← hJ3.get (by omega), kys_stop (B := B) (n := (v 3)) (p := qq) (c := y17_7) (by omega) (by omega) (Or.inr (by rw [hky]; show tK B (v 3) (tX B (v 3) (tX B (v 3) qq)) ≠ 44; omega)), hky])) (by first | (intro h; exfalso; omega) | exact fun _ => (by rw [kyP_s (by omega), ← hC1.get (by omega)])) (by first | (intro h; exfalso; omega) | exact fun _ => (by have h8 := hC2.get (by omega); rw [kyN_go (x := y17_7) (by omega) (by omega)] at h8; omega)) (by first | (intro h; exfalso; omega) | exact fun _ => (by have h8 := hC2.get (by omega); rw [kyN_end (x := y17_7) (by omega) (by omega)] at h8; omega)) (kyM_put hC4.get (by omega) (by rw [← hC1.get (by omega)]; omega) (by rw [← hC1.get (by omega)]; first | (rw [if_pos (by omega)]; omega) | (rw [if_neg (by omega)]; omega))) hP hS (lv_sub hl [3, 0] rfl)
                          · have v_119 := p1_119.mp (show z_119 = 1 by omega)
                            clear p1_119
                            refine lv_aload_n hx hb dX11_readKeys_252 rfl (lv_at hl 3 rfl) ?_
                            refine g_cv (As := []) (rest := []) (n := 0) C hml (n_next l D k A ad hD (va_up (va_up (va_up (va_up (va_up (va_up (va_up v 6 y6_7) 7 y7_7) 8 w8_118) 9 w9_118) 10 w10_118) 11 w11_118) 17 (y17_7 + 1)) (va_up (va_up f 14 (u1 c14_7 y17_7 2)) 16 (u1 c16_7 y17_7 z_12)) (va_up g 0 b0_118) B (show ∀ k, (f 0) k % 256 = B k from hB) (show 0 ≤ w10_118 ∧ w10_118 ≤ (v 3) from by omega)) mM_X11_201 mI_X11_next mE_X11_next mN_X11 mC_X11_next (by decide +kernel) 0 (ci := 11) rfl rfl hP hS (fun _ h => h) ⟨Nat.le_of_ble_eq_true rfl, Nat.le_of_ble_eq_true rfl⟩ ⟨Nat.zero_le _, Nat.zero_le _⟩ hl.1 rfl rfl (Nat.le_of_ble_eq_true rfl) dX11_readKeys_253 (fun r_121 v_121 f_121 g_121 H locs hq_121 hP _ hS => ?_)
                            obtain ⟨w8_121, w9_121, w10_121, w11_121, b0_121, rfl, rfl, rfl, rfl, p0_121⟩ := hq_121
                            show W p l e (gRm 2 42) s m args below meth c _ _ 0 0 Q (F0 m 256 ls [])
                            have hP : gWd D (mdT k ad) (va_up (va_up (va_up (va_up (va_up (va_up (va_up v 6 y6_7) 7 y7_7) 8 w8_121) 9 w9_121) 10 w10_121) 11 w11_121) 17 (y17_7 + 1)) (va_up (va_up f 14 (u1 c14_7 y17_7 2)) 16 (u1 c16_7 y17_7 z_12)) (va_up g 0 b0_121) H := ⟨hP.1, (gF_up (V := mdV) (F := mdF) (gF_up (V := mdV) (F := mdF) (gR_up (V := mdV) (F := mdF) (gR_up (V := mdV) (F := mdF) (gR_up (V := mdV) (F := mdF) (gR_up (V := mdV) (F := mdF) (gR_up (V := mdV) (F := mdF) (gR_up (V := mdV) (F := mdF) (gR_up (V := mdV) (F := mdF) ⟨hok.1, hok.2⟩ 6 (hP.2.1 6)) 7 (hP.2.1 7)) 8 (hP.2.1 8)) 9 (hP.2.1 9)) 10 (hP.2.1 10)) 11 (hP.2.1 11)) 17 (hP.2.1 17)) 14 (hP.2.2 14)) 16 (hP.2.2 16))⟩
                            replace p0_121 : mAt B (v 3) w9_121 w10_121 w8_121 w11_121 (b0_121 0) (run bW B (v 3) w10_118) := p0_121
                            have rw8_121 : 0 ≤ w8_121 ∧ w8_121 ≤ 4 := hP.2.1 8
                            have rw9_121 : 0 ≤ w9_121 ∧ w9_121 ≤ 700 := hP.2.1 9
                            have rw10_121 : 0 ≤ w10_121 ∧ w10_121 ≤ 700 := hP.2.1 10
                            have rw11_121 : 0 ≤ w11_121 ∧ w11_121 ≤ 999999 := hP.2.1 11
                            have hN3 : mAt B (v 3) w9_121 w10_121 w8_121 w11_121 (b0_121 0) (tX B (v 3) (tX B (v 3) (tX B (v 3) qq))) := by have h := p0_121; rw [hN2.bh] at h; exact h
                            clear p0_121
                            have hu3 := tX_up (B := B) (n := (v 3)) (q := (tX B (v 3) (tX B (v 3) qq))) (by have h9 := (not_congr (tK_end (B := B) (n := (v 3)) (q := (tX B (v 3) (tX B (v 3) qq))))).mp (by omega); omega)
                            refine lv_goto (tgt := 7) hx hb dX11_readKeys_256 (by decide) ?_
                            exact ih_7 z_119 ((tX B (v 3) (tX B (v 3) (tX B (v 3) qq)))) y6_7 y7_7 w8_121 w9_121 w10_121 w11_121 (y17_7 + 1) (u1 c14_7 y17_7 2) (u1 c16_7 y17_7 z_12) b0_121 _ _ _ (by omega) (by omega) hN3 (by omega) (by first | (intro h; exfalso; omega) | exact fun _ => (by rw [← hJ3.get (by omega), kys_go (B := B) (n := (v 3)) (p := qq) (c := y17_7) (by omega) (by omega) (by rw [hky]) (by rw [hky]; show tK B (v 3) (tX B (v 3) (tX B (v 3) qq)) = 44; omega), hky])) (by first | (intro h; exfalso; omega) | exact fun _ => (by rw [← hJ3.get (by omega), kys_stop (B := B) (n := (v 3)) (p := qq) (c := y17_7) (by omega) (by omega) (Or.inr (by rw [hky]; show tK B (v 3) (tX B (v 3) (tX B (v 3) qq)) ≠ 44; omega)), hky])) (by first | (intro h; exfalso; omega) | exact fun _ => (by rw [kyP_s (by omega), ← hC1.get (by omega)])) (by first | (intro h; exfalso; omega) | exact fun _ => (by have h8 := hC2.get (by omega); rw [kyN_go (x := y17_7) (by omega) (by omega)] at h8; omega)) (by first | (intro h; exfalso; omega) | exact fun _ => (by have h8 := hC2.get (by omega); rw [kyN_end (x := y17_7) (by omega) (by omega)] at h8; omega)) (kyM_put hC4.get (by omega) (by rw [← hC1.get (by omega)]; omega) (by rw [← hC1.get (by omega)]; first | (rw [if_pos (by omega)]; omega) | (rw [if_neg (by omega)]; omega))) hP hS (lv_sub hl [3, 0] rfl)
                        · exfalso; omega
                    · have v_102 := p1_102.mp (show z_102 = 1 by omega)
                      clear p1_102
                      refine lv_iconst (v := iI 1) hx hb dX11_readKeys_141 rfl ?_
                      refine lv_goto (tgt := 197) hx hb dX11_readKeys_142 (by decide) ?_
                      refine lv_istore_n (lv' := [(3, .int (iI 1)), (2, .int (iI z_12)), (0, .ref (ad 0)), (1, .int (iI x1))]) hx hb dX11_readKeys_197 rfl hl (by decide) rfl (fun ls hl => ?_)
                      refine lv_iload_n hx hb dX11_readKeys_198 rfl (lv_at hl 0 rfl) ?_
                      refine gi_zge (tgt := 207) hx hb dX11_readKeys_199 (by decide) (by decide) (fun c_122 => ?_) (fun c_122 => ?_)
                      · refine lv_aload_n hx hb dX11_readKeys_207 rfl (lv_at hl 2 rfl) ?_
                        refine mdG_newUp C hP mF_X11_67 dX11_readKeys_208 ?_
                        refine lv_aload_n hx hb dX11_readKeys_211 rfl (lv_at hl 2 rfl) ?_
                        refine mdG_newKeys C hP mF_X11_214 dX11_readKeys_212 ?_
                        show W p l e (gRm 2 42) s m args below meth c _ _ 0 0 Q (F0 m 215 ls [.int (iI y17_7), .ref (ad 17)])
                        refine lv_iload_n hx hb dX11_readKeys_215 rfl (lv_at hl 1 rfl) ?_
                        refine mdS_newUp (f1 := (va_up (va_up f 14 c14_7) 16 (u1 c16_7 y17_7 z_12))) C hP hD hS (by omega) (by omega) (by omega) (by omega) rfl (Or.inr (gF_up (V := mdV) (F := mdF) (gF_up (V := mdV) (F := mdF) (gR_up (V := mdV) (F := mdF) (gR_up (V := mdV) (F := mdF) (gR_up (V := mdV) (F := mdF) (gR_up (V := mdV) (F := mdF) (gR_up (V := mdV) (F := mdF) (gR_up (V := mdV) (F := mdF) (gR_up (V := mdV) (F := mdF) ⟨hok.1, hok.2⟩ 6 (hP.2.1 6)) 7 (hP.2.1 7)) 8 (hP.2.1 8)) 9 (hP.2.1 9)) 10 (hP.2.1 10)) 11 (hP.2.1 11)) 17 (hP.2.1 17)) 14 (hP.2.2 14)) 16 (u1_rng (hP.2.2 16) (show 0 ≤ z_12 ∧ z_12 ≤ 1 from (by omega))))) dX11_readKeys_216 (fun H locs hP hS => ?_)
                        refine lv_aload_n hx hb dX11_readKeys_217 rfl (lv_at hl 2 rfl) ?_
                        refine mdG_newKey C hP mF_X11_60 dX11_readKeys_218 ?_
                        refine lv_aload_n hx hb dX11_readKeys_221 rfl (lv_at hl 2 rfl) ?_
                        refine mdG_newKeys C hP mF_X11_214 dX11_readKeys_222 ?_
                        show W p l e (gRm 2 42) s m args below meth c _ _ 0 0 Q (F0 m 225 ls [.int (iI y17_7), .ref (ad 15)])
                        refine lv_iload_n hx hb dX11_readKeys_225 rfl (lv_at hl 0 rfl) ?_
                        refine mdS_newKey (f1 := (va_up (va_up f 14 (u1 c14_7 y17_7 1)) 16 (u1 c16_7 y17_7 z_12))) C hP hD hS (by omega) (by omega) (by decide) rfl (Or.inr (gF_up (V := mdV) (F := mdF) (gF_up (V := mdV) (F := mdF) (gR_up (V := mdV) (F := mdF) (gR_up (V := mdV) (F := mdF) (gR_up (V := mdV) (F := mdF) (gR_up (V := mdV) (F := mdF) (gR_up (V := mdV) (F := mdF) (gR_up (V := mdV) (F := mdF) (gR_up (V := mdV) (F := mdF) ⟨hok.1, hok.2⟩ 6 (hP.2.1 6)) 7 (hP.2.1 7)) 8 (hP.2.1 8)) 9 (hP.2.1 9)) 10 (hP.2.1 10)) 11 (hP.2.1 11)) 17 (hP.2.1 17)) 14 (u1_rng (hP.2.2 14) (show 0 ≤ 1 ∧ 1 ≤ 3 from (by decide)))) 16 (hP.2.2 16))) dX11_readKeys_226 (fun H locs hP hS => ?_)
                        refine lv_aload_n hx hb dX11_readKeys_227 rfl (lv_at hl 2 rfl) ?_
                        refine lv_dup hx hb dX11_readKeys_228 rfl ?_
                        refine mdG_newKeys C hP mF_X11_214 dX11_readKeys_229 ?_
                        show W p l e (gRm 2 42) s m args below meth c _ _ 0 0 Q (F0 m 232 ls [.int (iI y17_7), .ref (ad 0)])
                        refine lv_iconst (v := iI 1) hx hb dX11_readKeys_232 rfl ?_
                        refine gi_add (z := (y17_7 + 1)) hx hb dX11_readKeys_233 rfl ?_
                        refine mdP_newKeys (v1 := (va_up (va_up (va_up (va_up (va_up (va_up (va_up v 6 y6_7) 7 y7_7) 8 w8_97) 9 w9_97) 10 w10_97) 11 w11_97) 17 (y17_7 + 1))) C hP hD hS mF_X11_214 (by omega) rfl (Or.inr (gF_up (V := mdV) (F := mdF) (gF_up (V := mdV) (F := mdF) (gR_up (V := mdV) (F := mdF) (gR_up (V := mdV) (F := mdF) (gR_up (V := mdV) (F := mdF) (gR_up (V := mdV) (F := mdF) (gR_up (V := mdV) (F := mdF) (gR_up (V := mdV) (F := mdF) (gR_up (V := mdV) (F := mdF) ⟨hok.1, hok.2⟩ 6 (hP.2.1 6)) 7 (hP.2.1 7)) 8 (hP.2.1 8)) 9 (hP.2.1 9)) 10 (hP.2.1 10)) 11 (hP.2.1 11)) 17 (show 0 ≤ (y17_7 + 1) ∧ (y17_7 + 1) ≤ 4 from by omega)) 14 (hP.2.2 14)) 16 (hP.2.2 16))) dX11_readKeys_234 (fun H locs hP hS => ?_)
                        refine lv_aload_n hx hb dX11_readKeys_237 rfl (lv_at hl 2 rfl) ?_
                        refine g_cv (As := []) (rest := []) (n := 0) C hml (n_next l D k A ad hD (va_up (va_up (va_up (va_up (va_up (va_up (va_up v 6 y6_7) 7 y7_7) 8 w8_97) 9 w9_97) 10 w10_97) 11 w11_97) 17 (y17_7 + 1)) (va_up (va_up f 14 (u1 c14_7 y17_7 1)) 16 (u1 c16_7 y17_7 z_12)) (va_up g 0 b0_97) B (show ∀ k, (f 0) k % 256 = B k from hB) (show 0 ≤ w10_97 ∧ w10_97 ≤ (v 3) from by omega)) mM_X11_201 mI_X11_next mE_X11_next mN_X11 mC_X11_next (by decide +kernel) 0 (ci := 11) rfl rfl hP hS (fun _ h => h) ⟨Nat.le_of_ble_eq_true rfl, Nat.le_of_ble_eq_true rfl⟩ ⟨Nat.zero_le _, Nat.zero_le _⟩ hl.1 rfl rfl (Nat.le_of_ble_eq_true rfl) dX11_readKeys_238 (fun r_123 v_123 f_123 g_123 H locs hq_123 hP _ hS => ?_)
                        obtain ⟨w8_123, w9_123, w10_123, w11_123, b0_123, rfl, rfl, rfl, rfl, p0_123⟩ := hq_123
                        show W p l e (gRm 2 42) s m args below meth c _ _ 0 0 Q (F0 m 241 ls [])
                        have hP : gWd D (mdT k ad) (va_up (va_up (va_up (va_up (va_up (va_up (va_up v 6 y6_7) 7 y7_7) 8 w8_123) 9 w9_123) 10 w10_123) 11 w11_123) 17 (y17_7 + 1)) (va_up (va_up f 14 (u1 c14_7 y17_7 1)) 16 (u1 c16_7 y17_7 z_12)) (va_up g 0 b0_123) H := ⟨hP.1, (gF_up (V := mdV) (F := mdF) (gF_up (V := mdV) (F := mdF) (gR_up (V := mdV) (F := mdF) (gR_up (V := mdV) (F := mdF) (gR_up (V := mdV) (F := mdF) (gR_up (V := mdV) (F := mdF) (gR_up (V := mdV) (F := mdF) (gR_up (V := mdV) (F := mdF) (gR_up (V := mdV) (F := mdF) ⟨hok.1, hok.2⟩ 6 (hP.2.1 6)) 7 (hP.2.1 7)) 8 (hP.2.1 8)) 9 (hP.2.1 9)) 10 (hP.2.1 10)) 11 (hP.2.1 11)) 17 (hP.2.1 17)) 14 (hP.2.2 14)) 16 (hP.2.2 16))⟩
                        replace p0_123 : mAt B (v 3) w9_123 w10_123 w8_123 w11_123 (b0_123 0) (run bW B (v 3) w10_97) := p0_123
                        have rw8_123 : 0 ≤ w8_123 ∧ w8_123 ≤ 4 := hP.2.1 8
                        have rw9_123 : 0 ≤ w9_123 ∧ w9_123 ≤ 700 := hP.2.1 9
                        have rw10_123 : 0 ≤ w10_123 ∧ w10_123 ≤ 700 := hP.2.1 10
                        have rw11_123 : 0 ≤ w11_123 ∧ w11_123 ≤ 999999 := hP.2.1 11
                        have hN2 : mAt B (v 3) w9_123 w10_123 w8_123 w11_123 (b0_123 0) (tX B (v 3) (tX B (v 3) qq)) := by have h := p0_123; rw [hN1.bh] at h; exact h
                        clear p0_123
                        have hu2 := tX_up (B := B) (n := (v 3)) (q := (tX B (v 3) qq)) (by have h9 := (not_congr (tK_end (B := B) (n := (v 3)) (q := (tX B (v 3) qq)))).mp (by omega); omega)
                        have hle2 := hN2.le
                        have hky : ky1 B (v 3) y17_7 qq = (0, tX B (v 3) (tX B (v 3) qq)) := ky1_d (by omega) (by omega) (by omega)
                        refine lv_aload_n hx hb dX11_readKeys_241 rfl (lv_at hl 2 rfl) ?_
                        refine lv_bipush (v := iI 44) hx hb dX11_readKeys_242 (by decide) ?_
                        refine g_cv (As := [.int (iI 44)]) (rest := []) (n := 1) C hml (n_isS l D k A ad hD (va_up (va_up (va_up (va_up (va_up (va_up (va_up v 6 y6_7) 7 y7_7) 8 w8_123) 9 w9_123) 10 w10_123) 11 w11_123) 17 (y17_7 + 1)) (va_up (va_up f 14 (u1 c14_7 y17_7 1)) 16 (u1 c16_7 y17_7 z_12)) (va_up g 0 b0_123) 44 B (tX B (v 3) (tX B (v 3) qq)) (by decide) (show mAt B (v 3) w9_123 w10_123 w8_123 w11_123 (b0_123 0) (tX B (v 3) (tX B (v 3) qq)) from hN2) (show 40 ≤ (44 : Int) ∧ (44 : Int) < 256 from by omega)) mM_X11_204 mI_X11_isSign mE_X11_isSign mN_X11 mC_X11_isSign (by decide +kernel) 0 (ci := 11) rfl rfl hP hS (fun _ h => h) ⟨Nat.le_of_ble_eq_true rfl, Nat.le_of_ble_eq_true rfl⟩ ⟨Nat.zero_le _, Nat.zero_le _⟩ hl.1 rfl rfl (Nat.le_of_ble_eq_true rfl) dX11_readKeys_244 (fun r_124 v_124 f_124 g_124 H locs hq_124 hP _ hS => ?_)
                        obtain ⟨z_124, rfl, rfl, rfl, rfl, p0_124, p1_124⟩ := hq_124
                        show W p l e (gRm 2 42) s m args below meth c _ _ 0 0 Q (F0 m 247 ls [.int (iI z_124)])
                        replace p0_124 : 0 ≤ z_124 ∧ z_124 ≤ 1 := p0_124
                        replace p1_124 : z_124 = 1 ↔ (tK B (v 3) (tX B (v 3) (tX B (v 3) qq))) = (44 : Int) := p1_124
                        refine lv_istore_n (lv' := [(1, .int (iI z_124)), (3, .int (iI 1)), (2, .int (iI z_12)), (0, .ref (ad 0))]) hx hb dX11_readKeys_247 rfl hl (by decide) rfl (fun ls hl => ?_)
                        refine lv_iload_n hx hb dX11_readKeys_248 rfl (lv_at hl 0 rfl) ?_
                        refine gi_zeq (tgt := 256) hx hb dX11_readKeys_249 (by decide) (by omega) (fun c_125 => ?_) (fun c_125 => ?_)
                        · have v_124 := mt p1_124.mpr (show ¬ z_124 = 1 by omega)
                          clear p1_124
                          refine lv_goto (tgt := 7) hx hb dX11_readKeys_256 (by decide) ?_
                          exact ih_7 z_124 ((tX B (v 3) (tX B (v 3) qq))) y6_7 y7_7 w8_123 w9_123 w10_123 w11_123 (y17_7 + 1) (u1 c14_7 y17_7 1) (u1 c16_7 y17_7 z_12) b0_123 _ _ _ (by omega) (by omega) hN2 (by omega) (by first | (intro h; exfalso; omega) | exact fun _ => (by rw [← hJ3.get (by omega), kys_go (B := B) (n := (v 3)) (p := qq) (c := y17_7) (by omega) (by omega) (by rw [hky]) (by rw [hky]; show tK B (v 3) (tX B (v 3) (tX B (v 3) qq)) = 44; omega), hky])) (by first | (intro h; exfalso; omega) | exact fun _ => (by rw [← hJ3.get (by omega), kys_stop (B := B) (n := (v 3)) (p := qq) (c := y17_7) (by omega) (by omega) (Or.inr (by rw [hky]; show tK B (v 3) (tX B (v 3) (tX B (v 3) qq)) ≠ 44; omega)), hky])) (by first | (intro h; exfalso; omega) | exact fun _ => (by rw [kyP_s (by omega), ← hC1.get (by omega)])) (by first | (intro h; exfalso; omega) | exact fun _ => (by have h8 := hC2.get (by omega); rw [kyN_go (x := y17_7) (by omega) (by omega)] at h8; omega)) (by first | (intro h; exfalso; omega) | exact fun _ => (by have h8 := hC2.get (by omega); rw [kyN_end (x := y17_7) (by omega) (by omega)] at h8; omega)) (kyM_put hC4.get (by omega) (by rw [← hC1.get (by omega)]; omega) (by rw [← hC1.get (by omega)]; first | (rw [if_pos (by omega)]; omega) | (rw [if_neg (by omega)]; omega))) hP hS (lv_sub hl [3, 0] rfl)
                        · have v_124 := p1_124.mp (show z_124 = 1 by omega)
                          clear p1_124
                          refine lv_aload_n hx hb dX11_readKeys_252 rfl (lv_at hl 3 rfl) ?_
                          refine g_cv (As := []) (rest := []) (n := 0) C hml (n_next l D k A ad hD (va_up (va_up (va_up (va_up (va_up (va_up (va_up v 6 y6_7) 7 y7_7) 8 w8_123) 9 w9_123) 10 w10_123) 11 w11_123) 17 (y17_7 + 1)) (va_up (va_up f 14 (u1 c14_7 y17_7 1)) 16 (u1 c16_7 y17_7 z_12)) (va_up g 0 b0_123) B (show ∀ k, (f 0) k % 256 = B k from hB) (show 0 ≤ w10_123 ∧ w10_123 ≤ (v 3) from by omega)) mM_X11_201 mI_X11_next mE_X11_next mN_X11 mC_X11_next (by decide +kernel) 0 (ci := 11) rfl rfl hP hS (fun _ h => h) ⟨Nat.le_of_ble_eq_true rfl, Nat.le_of_ble_eq_true rfl⟩ ⟨Nat.zero_le _, Nat.zero_le _⟩ hl.1 rfl rfl (Nat.le_of_ble_eq_true rfl) dX11_readKeys_253 (fun r_126 v_126 f_126 g_126 H locs hq_126 hP _ hS => ?_)
                          obtain ⟨w8_126, w9_126, w10_126, w11_126, b0_126, rfl, rfl, rfl, rfl, p0_126⟩ := hq_126
                          show W p l e (gRm 2 42) s m args below meth c _ _ 0 0 Q (F0 m 256 ls [])
                          have hP : gWd D (mdT k ad) (va_up (va_up (va_up (va_up (va_up (va_up (va_up v 6 y6_7) 7 y7_7) 8 w8_126) 9 w9_126) 10 w10_126) 11 w11_126) 17 (y17_7 + 1)) (va_up (va_up f 14 (u1 c14_7 y17_7 1)) 16 (u1 c16_7 y17_7 z_12)) (va_up g 0 b0_126) H := ⟨hP.1, (gF_up (V := mdV) (F := mdF) (gF_up (V := mdV) (F := mdF) (gR_up (V := mdV) (F := mdF) (gR_up (V := mdV) (F := mdF) (gR_up (V := mdV) (F := mdF) (gR_up (V := mdV) (F := mdF) (gR_up (V := mdV) (F := mdF) (gR_up (V := mdV) (F := mdF) (gR_up (V := mdV) (F := mdF) ⟨hok.1, hok.2⟩ 6 (hP.2.1 6)) 7 (hP.2.1 7)) 8 (hP.2.1 8)) 9 (hP.2.1 9)) 10 (hP.2.1 10)) 11 (hP.2.1 11)) 17 (hP.2.1 17)) 14 (hP.2.2 14)) 16 (hP.2.2 16))⟩
                          replace p0_126 : mAt B (v 3) w9_126 w10_126 w8_126 w11_126 (b0_126 0) (run bW B (v 3) w10_123) := p0_126
                          have rw8_126 : 0 ≤ w8_126 ∧ w8_126 ≤ 4 := hP.2.1 8
                          have rw9_126 : 0 ≤ w9_126 ∧ w9_126 ≤ 700 := hP.2.1 9
                          have rw10_126 : 0 ≤ w10_126 ∧ w10_126 ≤ 700 := hP.2.1 10
                          have rw11_126 : 0 ≤ w11_126 ∧ w11_126 ≤ 999999 := hP.2.1 11
                          have hN3 : mAt B (v 3) w9_126 w10_126 w8_126 w11_126 (b0_126 0) (tX B (v 3) (tX B (v 3) (tX B (v 3) qq))) := by have h := p0_126; rw [hN2.bh] at h; exact h
                          clear p0_126
                          have hu3 := tX_up (B := B) (n := (v 3)) (q := (tX B (v 3) (tX B (v 3) qq))) (by have h9 := (not_congr (tK_end (B := B) (n := (v 3)) (q := (tX B (v 3) (tX B (v 3) qq))))).mp (by omega); omega)
                          refine lv_goto (tgt := 7) hx hb dX11_readKeys_256 (by decide) ?_
                          exact ih_7 z_124 ((tX B (v 3) (tX B (v 3) (tX B (v 3) qq)))) y6_7 y7_7 w8_126 w9_126 w10_126 w11_126 (y17_7 + 1) (u1 c14_7 y17_7 1) (u1 c16_7 y17_7 z_12) b0_126 _ _ _ (by omega) (by omega) hN3 (by omega) (by first | (intro h; exfalso; omega) | exact fun _ => (by rw [← hJ3.get (by omega), kys_go (B := B) (n := (v 3)) (p := qq) (c := y17_7) (by omega) (by omega) (by rw [hky]) (by rw [hky]; show tK B (v 3) (tX B (v 3) (tX B (v 3) qq)) = 44; omega), hky])) (by first | (intro h; exfalso; omega) | exact fun _ => (by rw [← hJ3.get (by omega), kys_stop (B := B) (n := (v 3)) (p := qq) (c := y17_7) (by omega) (by omega) (Or.inr (by rw [hky]; show tK B (v 3) (tX B (v 3) (tX B (v 3) qq)) ≠ 44; omega)), hky])) (by first | (intro h; exfalso; omega) | exact fun _ => (by rw [kyP_s (by omega), ← hC1.get (by omega)])) (by first | (intro h; exfalso; omega) | exact fun _ => (by have h8 := hC2.get (by omega); rw [kyN_go (x := y17_7) (by omega) (by omega)] at h8; omega)) (by first | (intro h; exfalso; omega) | exact fun _ => (by have h8 := hC2.get (by omega); rw [kyN_end (x := y17_7) (by omega) (by omega)] at h8; omega)) (kyM_put hC4.get (by omega) (by rw [← hC1.get (by omega)]; omega) (by rw [← hC1.get (by omega)]; first | (rw [if_pos (by omega)]; omega) | (rw [if_neg (by omega)]; omega))) hP hS (lv_sub hl [3, 0] rfl)
                      · exfalso; omega
                  · have v_99 := p1_99.mp (show z_99 = 1 by omega)
                    clear p1_99
                    refine lv_iconst (v := iI 0) hx hb dX11_readKeys_116 rfl ?_
                    refine lv_goto (tgt := 197) hx hb dX11_readKeys_117 (by decide) ?_
                    refine lv_istore_n (lv' := [(3, .int (iI 0)), (2, .int (iI z_12)), (0, .ref (ad 0)), (1, .int (iI x1))]) hx hb dX11_readKeys_197 rfl hl (by decide) rfl (fun ls hl => ?_)
                    refine lv_iload_n hx hb dX11_readKeys_198 rfl (lv_at hl 0 rfl) ?_
                    refine gi_zge (tgt := 207) hx hb dX11_readKeys_199 (by decide) (by decide) (fun c_127 => ?_) (fun c_127 => ?_)
                    · refine lv_aload_n hx hb dX11_readKeys_207 rfl (lv_at hl 2 rfl) ?_
                      refine mdG_newUp C hP mF_X11_67 dX11_readKeys_208 ?_
                      refine lv_aload_n hx hb dX11_readKeys_211 rfl (lv_at hl 2 rfl) ?_
                      refine mdG_newKeys C hP mF_X11_214 dX11_readKeys_212 ?_
                      show W p l e (gRm 2 42) s m args below meth c _ _ 0 0 Q (F0 m 215 ls [.int (iI y17_7), .ref (ad 17)])
                      refine lv_iload_n hx hb dX11_readKeys_215 rfl (lv_at hl 1 rfl) ?_
                      refine mdS_newUp (f1 := (va_up (va_up f 14 c14_7) 16 (u1 c16_7 y17_7 z_12))) C hP hD hS (by omega) (by omega) (by omega) (by omega) rfl (Or.inr (gF_up (V := mdV) (F := mdF) (gF_up (V := mdV) (F := mdF) (gR_up (V := mdV) (F := mdF) (gR_up (V := mdV) (F := mdF) (gR_up (V := mdV) (F := mdF) (gR_up (V := mdV) (F := mdF) (gR_up (V := mdV) (F := mdF) (gR_up (V := mdV) (F := mdF) (gR_up (V := mdV) (F := mdF) ⟨hok.1, hok.2⟩ 6 (hP.2.1 6)) 7 (hP.2.1 7)) 8 (hP.2.1 8)) 9 (hP.2.1 9)) 10 (hP.2.1 10)) 11 (hP.2.1 11)) 17 (hP.2.1 17)) 14 (hP.2.2 14)) 16 (u1_rng (hP.2.2 16) (show 0 ≤ z_12 ∧ z_12 ≤ 1 from (by omega))))) dX11_readKeys_216 (fun H locs hP hS => ?_)
                      refine lv_aload_n hx hb dX11_readKeys_217 rfl (lv_at hl 2 rfl) ?_
                      refine mdG_newKey C hP mF_X11_60 dX11_readKeys_218 ?_
                      refine lv_aload_n hx hb dX11_readKeys_221 rfl (lv_at hl 2 rfl) ?_
                      refine mdG_newKeys C hP mF_X11_214 dX11_readKeys_222 ?_
                      show W p l e (gRm 2 42) s m args below meth c _ _ 0 0 Q (F0 m 225 ls [.int (iI y17_7), .ref (ad 15)])
                      refine lv_iload_n hx hb dX11_readKeys_225 rfl (lv_at hl 0 rfl) ?_
                      refine mdS_newKey (f1 := (va_up (va_up f 14 (u1 c14_7 y17_7 0)) 16 (u1 c16_7 y17_7 z_12))) C hP hD hS (by omega) (by omega) (by decide) rfl (Or.inr (gF_up (V := mdV) (F := mdF) (gF_up (V := mdV) (F := mdF) (gR_up (V := mdV) (F := mdF) (gR_up (V := mdV) (F := mdF) (gR_up (V := mdV) (F := mdF) (gR_up (V := mdV) (F := mdF) (gR_up (V := mdV) (F := mdF) (gR_up (V := mdV) (F := mdF) (gR_up (V := mdV) (F := mdF) ⟨hok.1, hok.2⟩ 6 (hP.2.1 6)) 7 (hP.2.1 7)) 8 (hP.2.1 8)) 9 (hP.2.1 9)) 10 (hP.2.1 10)) 11 (hP.2.1 11)) 17 (hP.2.1 17)) 14 (u1_rng (hP.2.2 14) (show 0 ≤ 0 ∧ 0 ≤ 3 from (by decide)))) 16 (hP.2.2 16))) dX11_readKeys_226 (fun H locs hP hS => ?_)
                      refine lv_aload_n hx hb dX11_readKeys_227 rfl (lv_at hl 2 rfl) ?_
                      refine lv_dup hx hb dX11_readKeys_228 rfl ?_
                      refine mdG_newKeys C hP mF_X11_214 dX11_readKeys_229 ?_
                      show W p l e (gRm 2 42) s m args below meth c _ _ 0 0 Q (F0 m 232 ls [.int (iI y17_7), .ref (ad 0)])
                      refine lv_iconst (v := iI 1) hx hb dX11_readKeys_232 rfl ?_
                      refine gi_add (z := (y17_7 + 1)) hx hb dX11_readKeys_233 rfl ?_
                      refine mdP_newKeys (v1 := (va_up (va_up (va_up (va_up (va_up (va_up (va_up v 6 y6_7) 7 y7_7) 8 w8_97) 9 w9_97) 10 w10_97) 11 w11_97) 17 (y17_7 + 1))) C hP hD hS mF_X11_214 (by omega) rfl (Or.inr (gF_up (V := mdV) (F := mdF) (gF_up (V := mdV) (F := mdF) (gR_up (V := mdV) (F := mdF) (gR_up (V := mdV) (F := mdF) (gR_up (V := mdV) (F := mdF) (gR_up (V := mdV) (F := mdF) (gR_up (V := mdV) (F := mdF) (gR_up (V := mdV) (F := mdF) (gR_up (V := mdV) (F := mdF) ⟨hok.1, hok.2⟩ 6 (hP.2.1 6)) 7 (hP.2.1 7)) 8 (hP.2.1 8)) 9 (hP.2.1 9)) 10 (hP.2.1 10)) 11 (hP.2.1 11)) 17 (show 0 ≤ (y17_7 + 1) ∧ (y17_7 + 1) ≤ 4 from by omega)) 14 (hP.2.2 14)) 16 (hP.2.2 16))) dX11_readKeys_234 (fun H locs hP hS => ?_)
                      refine lv_aload_n hx hb dX11_readKeys_237 rfl (lv_at hl 2 rfl) ?_
                      refine g_cv (As := []) (rest := []) (n := 0) C hml (n_next l D k A ad hD (va_up (va_up (va_up (va_up (va_up (va_up (va_up v 6 y6_7) 7 y7_7) 8 w8_97) 9 w9_97) 10 w10_97) 11 w11_97) 17 (y17_7 + 1)) (va_up (va_up f 14 (u1 c14_7 y17_7 0)) 16 (u1 c16_7 y17_7 z_12)) (va_up g 0 b0_97) B (show ∀ k, (f 0) k % 256 = B k from hB) (show 0 ≤ w10_97 ∧ w10_97 ≤ (v 3) from by omega)) mM_X11_201 mI_X11_next mE_X11_next mN_X11 mC_X11_next (by decide +kernel) 0 (ci := 11) rfl rfl hP hS (fun _ h => h) ⟨Nat.le_of_ble_eq_true rfl, Nat.le_of_ble_eq_true rfl⟩ ⟨Nat.zero_le _, Nat.zero_le _⟩ hl.1 rfl rfl (Nat.le_of_ble_eq_true rfl) dX11_readKeys_238 (fun r_128 v_128 f_128 g_128 H locs hq_128 hP _ hS => ?_)
                      obtain ⟨w8_128, w9_128, w10_128, w11_128, b0_128, rfl, rfl, rfl, rfl, p0_128⟩ := hq_128
                      show W p l e (gRm 2 42) s m args below meth c _ _ 0 0 Q (F0 m 241 ls [])
                      have hP : gWd D (mdT k ad) (va_up (va_up (va_up (va_up (va_up (va_up (va_up v 6 y6_7) 7 y7_7) 8 w8_128) 9 w9_128) 10 w10_128) 11 w11_128) 17 (y17_7 + 1)) (va_up (va_up f 14 (u1 c14_7 y17_7 0)) 16 (u1 c16_7 y17_7 z_12)) (va_up g 0 b0_128) H := ⟨hP.1, (gF_up (V := mdV) (F := mdF) (gF_up (V := mdV) (F := mdF) (gR_up (V := mdV) (F := mdF) (gR_up (V := mdV) (F := mdF) (gR_up (V := mdV) (F := mdF) (gR_up (V := mdV) (F := mdF) (gR_up (V := mdV) (F := mdF) (gR_up (V := mdV) (F := mdF) (gR_up (V := mdV) (F := mdF) ⟨hok.1, hok.2⟩ 6 (hP.2.1 6)) 7 (hP.2.1 7)) 8 (hP.2.1 8)) 9 (hP.2.1 9)) 10 (hP.2.1 10)) 11 (hP.2.1 11)) 17 (hP.2.1 17)) 14 (hP.2.2 14)) 16 (hP.2.2 16))⟩
                      replace p0_128 : mAt B (v 3) w9_128 w10_128 w8_128 w11_128 (b0_128 0) (run bW B (v 3) w10_97) := p0_128
                      have rw8_128 : 0 ≤ w8_128 ∧ w8_128 ≤ 4 := hP.2.1 8
                      have rw9_128 : 0 ≤ w9_128 ∧ w9_128 ≤ 700 := hP.2.1 9
                      have rw10_128 : 0 ≤ w10_128 ∧ w10_128 ≤ 700 := hP.2.1 10
                      have rw11_128 : 0 ≤ w11_128 ∧ w11_128 ≤ 999999 := hP.2.1 11
                      have hN2 : mAt B (v 3) w9_128 w10_128 w8_128 w11_128 (b0_128 0) (tX B (v 3) (tX B (v 3) qq)) := by have h := p0_128; rw [hN1.bh] at h; exact h
                      clear p0_128
                      have hu2 := tX_up (B := B) (n := (v 3)) (q := (tX B (v 3) qq)) (by have h9 := (not_congr (tK_end (B := B) (n := (v 3)) (q := (tX B (v 3) qq)))).mp (by omega); omega)
                      have hle2 := hN2.le
                      have hky : ky1 B (v 3) y17_7 qq = (0, tX B (v 3) (tX B (v 3) qq)) := ky1_d (by omega) (by omega) (by omega)
                      refine lv_aload_n hx hb dX11_readKeys_241 rfl (lv_at hl 2 rfl) ?_
                      refine lv_bipush (v := iI 44) hx hb dX11_readKeys_242 (by decide) ?_
                      refine g_cv (As := [.int (iI 44)]) (rest := []) (n := 1) C hml (n_isS l D k A ad hD (va_up (va_up (va_up (va_up (va_up (va_up (va_up v 6 y6_7) 7 y7_7) 8 w8_128) 9 w9_128) 10 w10_128) 11 w11_128) 17 (y17_7 + 1)) (va_up (va_up f 14 (u1 c14_7 y17_7 0)) 16 (u1 c16_7 y17_7 z_12)) (va_up g 0 b0_128) 44 B (tX B (v 3) (tX B (v 3) qq)) (by decide) (show mAt B (v 3) w9_128 w10_128 w8_128 w11_128 (b0_128 0) (tX B (v 3) (tX B (v 3) qq)) from hN2) (show 40 ≤ (44 : Int) ∧ (44 : Int) < 256 from by omega)) mM_X11_204 mI_X11_isSign mE_X11_isSign mN_X11 mC_X11_isSign (by decide +kernel) 0 (ci := 11) rfl rfl hP hS (fun _ h => h) ⟨Nat.le_of_ble_eq_true rfl, Nat.le_of_ble_eq_true rfl⟩ ⟨Nat.zero_le _, Nat.zero_le _⟩ hl.1 rfl rfl (Nat.le_of_ble_eq_true rfl) dX11_readKeys_244 (fun r_129 v_129 f_129 g_129 H locs hq_129 hP _ hS => ?_)
                      obtain ⟨z_129, rfl, rfl, rfl, rfl, p0_129, p1_129⟩ := hq_129
                      show W p l e (gRm 2 42) s m args below meth c _ _ 0 0 Q (F0 m 247 ls [.int (iI z_129)])
                      replace p0_129 : 0 ≤ z_129 ∧ z_129 ≤ 1 := p0_129
                      replace p1_129 : z_129 = 1 ↔ (tK B (v 3) (tX B (v 3) (tX B (v 3) qq))) = (44 : Int) := p1_129
                      refine lv_istore_n (lv' := [(1, .int (iI z_129)), (3, .int (iI 0)), (2, .int (iI z_12)), (0, .ref (ad 0))]) hx hb dX11_readKeys_247 rfl hl (by decide) rfl (fun ls hl => ?_)
                      refine lv_iload_n hx hb dX11_readKeys_248 rfl (lv_at hl 0 rfl) ?_
                      refine gi_zeq (tgt := 256) hx hb dX11_readKeys_249 (by decide) (by omega) (fun c_130 => ?_) (fun c_130 => ?_)
                      · have v_129 := mt p1_129.mpr (show ¬ z_129 = 1 by omega)
                        clear p1_129
                        refine lv_goto (tgt := 7) hx hb dX11_readKeys_256 (by decide) ?_
                        exact ih_7 z_129 ((tX B (v 3) (tX B (v 3) qq))) y6_7 y7_7 w8_128 w9_128 w10_128 w11_128 (y17_7 + 1) (u1 c14_7 y17_7 0) (u1 c16_7 y17_7 z_12) b0_128 _ _ _ (by omega) (by omega) hN2 (by omega) (by first | (intro h; exfalso; omega) | exact fun _ => (by rw [← hJ3.get (by omega), kys_go (B := B) (n := (v 3)) (p := qq) (c := y17_7) (by omega) (by omega) (by rw [hky]) (by rw [hky]; show tK B (v 3) (tX B (v 3) (tX B (v 3) qq)) = 44; omega), hky])) (by first | (intro h; exfalso; omega) | exact fun _ => (by rw [← hJ3.get (by omega), kys_stop (B := B) (n := (v 3)) (p := qq) (c := y17_7) (by omega) (by omega) (Or.inr (by rw [hky]; show tK B (v 3) (tX B (v 3) (tX B (v 3) qq)) ≠ 44; omega)), hky])) (by first | (intro h; exfalso; omega) | exact fun _ => (by rw [kyP_s (by omega), ← hC1.get (by omega)])) (by first | (intro h; exfalso; omega) | exact fun _ => (by have h8 := hC2.get (by omega); rw [kyN_go (x := y17_7) (by omega) (by omega)] at h8; omega)) (by first | (intro h; exfalso; omega) | exact fun _ => (by have h8 := hC2.get (by omega); rw [kyN_end (x := y17_7) (by omega) (by omega)] at h8; omega)) (kyM_put hC4.get (by omega) (by rw [← hC1.get (by omega)]; omega) (by rw [← hC1.get (by omega)]; first | (rw [if_pos (by omega)]; omega) | (rw [if_neg (by omega)]; omega))) hP hS (lv_sub hl [3, 0] rfl)
                      · have v_129 := p1_129.mp (show z_129 = 1 by omega)
                        clear p1_129
                        refine lv_aload_n hx hb dX11_readKeys_252 rfl (lv_at hl 3 rfl) ?_
                        refine g_cv (As := []) (rest := []) (n := 0) C hml (n_next l D k A ad hD (va_up (va_up (va_up (va_up (va_up (va_up (va_up v 6 y6_7) 7 y7_7) 8 w8_128) 9 w9_128) 10 w10_128) 11 w11_128) 17 (y17_7 + 1)) (va_up (va_up f 14 (u1 c14_7 y17_7 0)) 16 (u1 c16_7 y17_7 z_12)) (va_up g 0 b0_128) B (show ∀ k, (f 0) k % 256 = B k from hB) (show 0 ≤ w10_128 ∧ w10_128 ≤ (v 3) from by omega)) mM_X11_201 mI_X11_next mE_X11_next mN_X11 mC_X11_next (by decide +kernel) 0 (ci := 11) rfl rfl hP hS (fun _ h => h) ⟨Nat.le_of_ble_eq_true rfl, Nat.le_of_ble_eq_true rfl⟩ ⟨Nat.zero_le _, Nat.zero_le _⟩ hl.1 rfl rfl (Nat.le_of_ble_eq_true rfl) dX11_readKeys_253 (fun r_131 v_131 f_131 g_131 H locs hq_131 hP _ hS => ?_)
                        obtain ⟨w8_131, w9_131, w10_131, w11_131, b0_131, rfl, rfl, rfl, rfl, p0_131⟩ := hq_131
                        show W p l e (gRm 2 42) s m args below meth c _ _ 0 0 Q (F0 m 256 ls [])
                        have hP : gWd D (mdT k ad) (va_up (va_up (va_up (va_up (va_up (va_up (va_up v 6 y6_7) 7 y7_7) 8 w8_131) 9 w9_131) 10 w10_131) 11 w11_131) 17 (y17_7 + 1)) (va_up (va_up f 14 (u1 c14_7 y17_7 0)) 16 (u1 c16_7 y17_7 z_12)) (va_up g 0 b0_131) H := ⟨hP.1, (gF_up (V := mdV) (F := mdF) (gF_up (V := mdV) (F := mdF) (gR_up (V := mdV) (F := mdF) (gR_up (V := mdV) (F := mdF) (gR_up (V := mdV) (F := mdF) (gR_up (V := mdV) (F := mdF) (gR_up (V := mdV) (F := mdF) (gR_up (V := mdV) (F := mdF) (gR_up (V := mdV) (F := mdF) ⟨hok.1, hok.2⟩ 6 (hP.2.1 6)) 7 (hP.2.1 7)) 8 (hP.2.1 8)) 9 (hP.2.1 9)) 10 (hP.2.1 10)) 11 (hP.2.1 11)) 17 (hP.2.1 17)) 14 (hP.2.2 14)) 16 (hP.2.2 16))⟩
                        replace p0_131 : mAt B (v 3) w9_131 w10_131 w8_131 w11_131 (b0_131 0) (run bW B (v 3) w10_128) := p0_131
                        have rw8_131 : 0 ≤ w8_131 ∧ w8_131 ≤ 4 := hP.2.1 8
                        have rw9_131 : 0 ≤ w9_131 ∧ w9_131 ≤ 700 := hP.2.1 9
                        have rw10_131 : 0 ≤ w10_131 ∧ w10_131 ≤ 700 := hP.2.1 10
                        have rw11_131 : 0 ≤ w11_131 ∧ w11_131 ≤ 999999 := hP.2.1 11
                        have hN3 : mAt B (v 3) w9_131 w10_131 w8_131 w11_131 (b0_131 0) (tX B (v 3) (tX B (v 3) (tX B (v 3) qq))) := by have h := p0_131; rw [hN2.bh] at h; exact h
                        clear p0_131
                        have hu3 := tX_up (B := B) (n := (v 3)) (q := (tX B (v 3) (tX B (v 3) qq))) (by have h9 := (not_congr (tK_end (B := B) (n := (v 3)) (q := (tX B (v 3) (tX B (v 3) qq))))).mp (by omega); omega)
                        refine lv_goto (tgt := 7) hx hb dX11_readKeys_256 (by decide) ?_
                        exact ih_7 z_129 ((tX B (v 3) (tX B (v 3) (tX B (v 3) qq)))) y6_7 y7_7 w8_131 w9_131 w10_131 w11_131 (y17_7 + 1) (u1 c14_7 y17_7 0) (u1 c16_7 y17_7 z_12) b0_131 _ _ _ (by omega) (by omega) hN3 (by omega) (by first | (intro h; exfalso; omega) | exact fun _ => (by rw [← hJ3.get (by omega), kys_go (B := B) (n := (v 3)) (p := qq) (c := y17_7) (by omega) (by omega) (by rw [hky]) (by rw [hky]; show tK B (v 3) (tX B (v 3) (tX B (v 3) qq)) = 44; omega), hky])) (by first | (intro h; exfalso; omega) | exact fun _ => (by rw [← hJ3.get (by omega), kys_stop (B := B) (n := (v 3)) (p := qq) (c := y17_7) (by omega) (by omega) (Or.inr (by rw [hky]; show tK B (v 3) (tX B (v 3) (tX B (v 3) qq)) ≠ 44; omega)), hky])) (by first | (intro h; exfalso; omega) | exact fun _ => (by rw [kyP_s (by omega), ← hC1.get (by omega)])) (by first | (intro h; exfalso; omega) | exact fun _ => (by have h8 := hC2.get (by omega); rw [kyN_go (x := y17_7) (by omega) (by omega)] at h8; omega)) (by first | (intro h; exfalso; omega) | exact fun _ => (by have h8 := hC2.get (by omega); rw [kyN_end (x := y17_7) (by omega) (by omega)] at h8; omega)) (kyM_put hC4.get (by omega) (by rw [← hC1.get (by omega)]; omega) (by rw [← hC1.get (by omega)]; first | (rw [if_pos (by omega)]; omega) | (rw [if_neg (by omega)]; omega))) hP hS (lv_sub hl [3, 0] rfl)
                    · exfalso; omega
                · exact g_vret hQ C hr hlocks hP hS dX11_readKeys_91 ⟨y6_7, y7_7, y8_7, y9_7, y10_7, y11_7, y17_7, c14_7, c16_7, d0_7, rfl, rfl, rfl, rfl, (by first | exact oM_bad (by rw [← hJ3.get (by omega), kys_stop (c := y17_7) (by omega) (by omega) (Or.inl (by rw [ky1_a (by omega)]; show _ ≠ (0 : Int); omega))]; exact ky1_a (by omega)) (by omega) (by omega) hM | exact oM_bad (by rw [← hJ3.get (by omega), kys_stop (c := y17_7) (by omega) (by omega) (Or.inl (by rw [ky1_b (by omega) (by omega)]; show _ ≠ (0 : Int); omega))]; exact ky1_b (by omega) (by omega)) (by omega) (by omega) hM), (by intro h; exfalso; omega)⟩
              · refine lv_aload_n hx hb dX11_readKeys_75 rfl (lv_at hl 1 rfl) ?_
                refine lv_iconst (v := iI 3) hx hb dX11_readKeys_76 rfl ?_
                refine lv_aload_n hx hb dX11_readKeys_77 rfl (lv_at hl 1 rfl) ?_
                refine mdG_at C hP mF_X11_158 dX11_readKeys_78 ?_
                show W p l e (gRm 2 42) s m args below meth c _ _ 0 0 Q (F0 m 81 ls [.int (iI y9_7), .int (iI 3), .ref (ad 0)])
                have r_132 : 0 ≤ y9_7 ∧ y9_7 ≤ 700 := hP.2.1 9
                refine g_cv (As := [.int (iI 3), .int (iI y9_7)]) (rest := []) (n := 2) C hml (n_fail l D k A ad hD (va_up (va_up (va_up (va_up (va_up (va_up (va_up v 6 y6_7) 7 y7_7) 8 y8_7) 9 y9_7) 10 y10_7) 11 y11_7) 17 y17_7) (va_up (va_up f 14 c14_7) 16 c16_7) (va_up g 0 d0_7) 3 y9_7 (by decide) (by omega) (show 1 ≤ (3 : Int) ∧ (3 : Int) ≤ 5 from by omega) (show 0 ≤ y9_7 ∧ y9_7 ≤ 700 from by omega)) mM_X11_194 mI_X11_fail mE_X11_fail mN_X11 mC_X11_fail (by decide +kernel) 0 (ci := 11) rfl rfl hP hS (fun _ h => h) ⟨Nat.le_of_ble_eq_true rfl, Nat.le_of_ble_eq_true rfl⟩ ⟨Nat.zero_le _, Nat.zero_le _⟩ hl.1 rfl rfl (Nat.le_of_ble_eq_true rfl) dX11_readKeys_81 (fun r_133 v_133 f_133 g_133 H locs hq_133 hP _ hS => ?_)
                obtain ⟨w6_133, w7_133, rfl, rfl, rfl, rfl, p0_133, p1_133⟩ := hq_133
                show W p l e (gRm 2 42) s m args below meth c _ _ 0 0 Q (F0 m 84 ls [])
                have hP : gWd D (mdT k ad) (va_up (va_up (va_up (va_up (va_up (va_up (va_up v 6 w6_133) 7 w7_133) 8 y8_7) 9 y9_7) 10 y10_7) 11 y11_7) 17 y17_7) (va_up (va_up f 14 c14_7) 16 c16_7) (va_up g 0 d0_7) H := ⟨hP.1, (gF_up (V := mdV) (F := mdF) (gF_up (V := mdV) (F := mdF) (gR_up (V := mdV) (F := mdF) (gR_up (V := mdV) (F := mdF) (gR_up (V := mdV) (F := mdF) (gR_up (V := mdV) (F := mdF) (gR_up (V := mdV) (F := mdF) (gR_up (V := mdV) (F := mdF) (gR_up (V := mdV) (F := mdF) ⟨hok.1, hok.2⟩ 6 (hP.2.1 6)) 7 (hP.2.1 7)) 8 (hP.2.1 8)) 9 (hP.2.1 9)) 10 (hP.2.1 10)) 11 (hP.2.1 11)) 17 (hP.2.1 17)) 14 (hP.2.2 14)) 16 (hP.2.2 16))⟩
                replace p0_133 : y6_7 = 0 → w6_133 = (3 : Int) ∧ w7_133 = y9_7 := p0_133
                replace p1_133 : 0 < y6_7 → w6_133 = y6_7 ∧ w7_133 = y7_7 := p1_133
                have rw6_133 : 0 ≤ w6_133 ∧ w6_133 ≤ 5 := hP.2.1 6
                have rw7_133 : 0 ≤ w7_133 ∧ w7_133 ≤ 700 := hP.2.1 7
                first | replace p0_133 := p0_133 (by omega) | clear p0_133
                first | replace p1_133 := p1_133 (by omega) | clear p1_133
                refine lv_aload_n hx hb dX11_readKeys_84 rfl (lv_at hl 1 rfl) ?_
                refine mdG_bad C hP mF_X11_188 dX11_readKeys_85 ?_
                show W p l e (gRm 2 42) s m args below meth c _ _ 0 0 Q (F0 m 88 ls [.int (iI w6_133)])
                have r_134 : 0 ≤ w6_133 ∧ w6_133 ≤ 5 := hP.2.1 6
                refine gi_zle (tgt := 92) hx hb dX11_readKeys_88 (by decide) (by omega) (fun c_135 => ?_) (fun c_135 => ?_)
                · refine lv_aload_n hx hb dX11_readKeys_92 rfl (lv_at hl 1 rfl) ?_
                  refine g_cv (As := []) (rest := []) (n := 0) C hml (n_next l D k A ad hD (va_up (va_up (va_up (va_up (va_up (va_up (va_up v 6 w6_133) 7 w7_133) 8 y8_7) 9 y9_7) 10 y10_7) 11 y11_7) 17 y17_7) (va_up (va_up f 14 c14_7) 16 c16_7) (va_up g 0 d0_7) B (show ∀ k, (f 0) k % 256 = B k from hB) (show 0 ≤ y10_7 ∧ y10_7 ≤ (v 3) from by omega)) mM_X11_201 mI_X11_next mE_X11_next mN_X11 mC_X11_next (by decide +kernel) 0 (ci := 11) rfl rfl hP hS (fun _ h => h) ⟨Nat.le_of_ble_eq_true rfl, Nat.le_of_ble_eq_true rfl⟩ ⟨Nat.zero_le _, Nat.zero_le _⟩ hl.1 rfl rfl (Nat.le_of_ble_eq_true rfl) dX11_readKeys_93 (fun r_136 v_136 f_136 g_136 H locs hq_136 hP _ hS => ?_)
                  obtain ⟨w8_136, w9_136, w10_136, w11_136, b0_136, rfl, rfl, rfl, rfl, p0_136⟩ := hq_136
                  show W p l e (gRm 2 42) s m args below meth c _ _ 0 0 Q (F0 m 96 ls [])
                  have hP : gWd D (mdT k ad) (va_up (va_up (va_up (va_up (va_up (va_up (va_up v 6 w6_133) 7 w7_133) 8 w8_136) 9 w9_136) 10 w10_136) 11 w11_136) 17 y17_7) (va_up (va_up f 14 c14_7) 16 c16_7) (va_up g 0 b0_136) H := ⟨hP.1, (gF_up (V := mdV) (F := mdF) (gF_up (V := mdV) (F := mdF) (gR_up (V := mdV) (F := mdF) (gR_up (V := mdV) (F := mdF) (gR_up (V := mdV) (F := mdF) (gR_up (V := mdV) (F := mdF) (gR_up (V := mdV) (F := mdF) (gR_up (V := mdV) (F := mdF) (gR_up (V := mdV) (F := mdF) ⟨hok.1, hok.2⟩ 6 (hP.2.1 6)) 7 (hP.2.1 7)) 8 (hP.2.1 8)) 9 (hP.2.1 9)) 10 (hP.2.1 10)) 11 (hP.2.1 11)) 17 (hP.2.1 17)) 14 (hP.2.2 14)) 16 (hP.2.2 16))⟩
                  replace p0_136 : mAt B (v 3) w9_136 w10_136 w8_136 w11_136 (b0_136 0) (run bW B (v 3) y10_7) := p0_136
                  have rw8_136 : 0 ≤ w8_136 ∧ w8_136 ≤ 4 := hP.2.1 8
                  have rw9_136 : 0 ≤ w9_136 ∧ w9_136 ≤ 700 := hP.2.1 9
                  have rw10_136 : 0 ≤ w10_136 ∧ w10_136 ≤ 700 := hP.2.1 10
                  have rw11_136 : 0 ≤ w11_136 ∧ w11_136 ≤ 999999 := hP.2.1 11
                  have hN1 : mAt B (v 3) w9_136 w10_136 w8_136 w11_136 (b0_136 0) (tX B (v 3) qq) := by have h := p0_136; rw [hM.bh] at h; exact h
                  clear p0_136
                  have hu1 := tX_up (B := B) (n := (v 3)) (q := qq) (by have h9 := (not_congr (tK_end (B := B) (n := (v 3)) (q := qq))).mp (by omega); omega)
                  have hle1 := hN1.le
                  refine lv_aload_n hx hb dX11_readKeys_96 rfl (lv_at hl 1 rfl) ?_
                  refine lv_bipush (v := iI 115) hx hb dX11_readKeys_97 (by decide) ?_
                  refine lv_bipush (v := iI 117) hx hb dX11_readKeys_99 (by decide) ?_
                  refine lv_bipush (v := iI 109) hx hb dX11_readKeys_101 (by decide) ?_
                  refine lv_iconst (v := iI 0) hx hb dX11_readKeys_103 rfl ?_
                  refine lv_iconst (v := iI 0) hx hb dX11_readKeys_104 rfl ?_
                  refine lv_iconst (v := iI 0) hx hb dX11_readKeys_105 rfl ?_
                  refine lv_iconst (v := iI 0) hx hb dX11_readKeys_106 rfl ?_
                  refine g_cs (As := [.int (iI 115), .int (iI 117), .int (iI 109), .int (iI 0), .int (iI 0), .int (iI 0), .int (iI 0)]) (rest := [.ref (ad 0)]) (n := 7) C hml (n_spelled l D k A ad hD (va_up (va_up (va_up (va_up (va_up (va_up (va_up v 6 w6_133) 7 w7_133) 8 w8_136) 9 w9_136) 10 w10_136) 11 w11_136) 17 y17_7) (va_up (va_up f 14 c14_7) 16 c16_7) (va_up g 0 b0_136) 115 117 109 0 0 0 0 (by decide) (by decide) (by decide) (by decide) (by decide) (by decide) (by decide)) mM_X11_228 mS_X11_spelled mN_X11 mC_X11_spelled (by decide +kernel) hP hS (fun _ h => h) ⟨Nat.le_of_ble_eq_true rfl, Nat.le_of_ble_eq_true rfl⟩ ⟨Nat.zero_le _, Nat.zero_le _⟩ hl.1 rfl rfl (Nat.le_of_ble_eq_true rfl) dX11_readKeys_107 (fun r_137 v_137 f_137 g_137 H locs hq_137 hP _ hS => ?_)
                  obtain ⟨z_137, rfl, rfl, rfl, rfl, p0_137⟩ := hq_137
                  show W p l e (gRm 2 42) s m args below meth c _ _ 0 0 Q (F0 m 110 ls [.long (iL z_137), .ref (ad 0)])
                  replace p0_137 : z_137 = (spW (115 : Int) (117 : Int) (109 : Int) (0 : Int) (0 : Int) (0 : Int) (0 : Int)) := p0_137
                  have hsp := p0_137
                  clear p0_137
                  refine g_cv (As := [.long (iL z_137)]) (rest := []) (n := 1) C hml (n_isW l D k A ad hD (va_up (va_up (va_up (va_up (va_up (va_up (va_up v 6 w6_133) 7 w7_133) 8 w8_136) 9 w9_136) 10 w10_136) 11 w11_136) 17 y17_7) (va_up (va_up f 14 c14_7) 16 c16_7) (va_up g 0 b0_136) z_137 B (tX B (v 3) qq) 8 (show mAt B (v 3) w9_136 w10_136 w8_136 w11_136 (b0_136 0) (tX B (v 3) qq) from hN1) (show z_137 = hW 8 ∧ 8 < 18 from ⟨by rw [hsp]; decide +kernel, by decide⟩)) mM_X11_232 mI_X11_isWord mE_X11_isWord mN_X11 mC_X11_isWord (by decide +kernel) 0 (ci := 11) rfl rfl hP hS (fun _ h => h) ⟨Nat.le_of_ble_eq_true rfl, Nat.le_of_ble_eq_true rfl⟩ ⟨Nat.zero_le _, Nat.zero_le _⟩ hl.1 rfl rfl (Nat.le_of_ble_eq_true rfl) dX11_readKeys_110 (fun r_138 v_138 f_138 g_138 H locs hq_138 hP _ hS => ?_)
                  obtain ⟨z_138, rfl, rfl, rfl, rfl, p0_138, p1_138⟩ := hq_138
                  show W p l e (gRm 2 42) s m args below meth c _ _ 0 0 Q (F0 m 113 ls [.int (iI z_138)])
                  replace p0_138 : 0 ≤ z_138 ∧ z_138 ≤ 1 := p0_138
                  replace p1_138 : z_138 = 1 ↔ (tK B (v 3) (tX B (v 3) qq)) = 260 + (8 : Int) := p1_138
                  refine gi_zeq (tgt := 120) hx hb dX11_readKeys_113 (by decide) (by omega) (fun c_139 => ?_) (fun c_139 => ?_)
                  · have v_138 := mt p1_138.mpr (show ¬ z_138 = 1 by omega)
                    clear p1_138
                    refine lv_aload_n hx hb dX11_readKeys_120 rfl (lv_at hl 1 rfl) ?_
                    refine lv_bipush (v := iI 109) hx hb dX11_readKeys_121 (by decide) ?_
                    refine lv_bipush (v := iI 111) hx hb dX11_readKeys_123 (by decide) ?_
                    refine lv_bipush (v := iI 115) hx hb dX11_readKeys_125 (by decide) ?_
                    refine lv_bipush (v := iI 116) hx hb dX11_readKeys_127 (by decide) ?_
                    refine lv_iconst (v := iI 0) hx hb dX11_readKeys_129 rfl ?_
                    refine lv_iconst (v := iI 0) hx hb dX11_readKeys_130 rfl ?_
                    refine lv_iconst (v := iI 0) hx hb dX11_readKeys_131 rfl ?_
                    refine g_cs (As := [.int (iI 109), .int (iI 111), .int (iI 115), .int (iI 116), .int (iI 0), .int (iI 0), .int (iI 0)]) (rest := [.ref (ad 0)]) (n := 7) C hml (n_spelled l D k A ad hD (va_up (va_up (va_up (va_up (va_up (va_up (va_up v 6 w6_133) 7 w7_133) 8 w8_136) 9 w9_136) 10 w10_136) 11 w11_136) 17 y17_7) (va_up (va_up f 14 c14_7) 16 c16_7) (va_up g 0 b0_136) 109 111 115 116 0 0 0 (by decide) (by decide) (by decide) (by decide) (by decide) (by decide) (by decide)) mM_X11_228 mS_X11_spelled mN_X11 mC_X11_spelled (by decide +kernel) hP hS (fun _ h => h) ⟨Nat.le_of_ble_eq_true rfl, Nat.le_of_ble_eq_true rfl⟩ ⟨Nat.zero_le _, Nat.zero_le _⟩ hl.1 rfl rfl (Nat.le_of_ble_eq_true rfl) dX11_readKeys_132 (fun r_140 v_140 f_140 g_140 H locs hq_140 hP _ hS => ?_)
                    obtain ⟨z_140, rfl, rfl, rfl, rfl, p0_140⟩ := hq_140
                    show W p l e (gRm 2 42) s m args below meth c _ _ 0 0 Q (F0 m 135 ls [.long (iL z_140), .ref (ad 0)])
                    replace p0_140 : z_140 = (spW (109 : Int) (111 : Int) (115 : Int) (116 : Int) (0 : Int) (0 : Int) (0 : Int)) := p0_140
                    have hsp := p0_140
                    clear p0_140
                    refine g_cv (As := [.long (iL z_140)]) (rest := []) (n := 1) C hml (n_isW l D k A ad hD (va_up (va_up (va_up (va_up (va_up (va_up (va_up v 6 w6_133) 7 w7_133) 8 w8_136) 9 w9_136) 10 w10_136) 11 w11_136) 17 y17_7) (va_up (va_up f 14 c14_7) 16 c16_7) (va_up g 0 b0_136) z_140 B (tX B (v 3) qq) 9 (show mAt B (v 3) w9_136 w10_136 w8_136 w11_136 (b0_136 0) (tX B (v 3) qq) from hN1) (show z_140 = hW 9 ∧ 9 < 18 from ⟨by rw [hsp]; decide +kernel, by decide⟩)) mM_X11_232 mI_X11_isWord mE_X11_isWord mN_X11 mC_X11_isWord (by decide +kernel) 0 (ci := 11) rfl rfl hP hS (fun _ h => h) ⟨Nat.le_of_ble_eq_true rfl, Nat.le_of_ble_eq_true rfl⟩ ⟨Nat.zero_le _, Nat.zero_le _⟩ hl.1 rfl rfl (Nat.le_of_ble_eq_true rfl) dX11_readKeys_135 (fun r_141 v_141 f_141 g_141 H locs hq_141 hP _ hS => ?_)
                    obtain ⟨z_141, rfl, rfl, rfl, rfl, p0_141, p1_141⟩ := hq_141
                    show W p l e (gRm 2 42) s m args below meth c _ _ 0 0 Q (F0 m 138 ls [.int (iI z_141)])
                    replace p0_141 : 0 ≤ z_141 ∧ z_141 ≤ 1 := p0_141
                    replace p1_141 : z_141 = 1 ↔ (tK B (v 3) (tX B (v 3) qq)) = 260 + (9 : Int) := p1_141
                    refine gi_zeq (tgt := 145) hx hb dX11_readKeys_138 (by decide) (by omega) (fun c_142 => ?_) (fun c_142 => ?_)
                    · have v_141 := mt p1_141.mpr (show ¬ z_141 = 1 by omega)
                      clear p1_141
                      refine lv_aload_n hx hb dX11_readKeys_145 rfl (lv_at hl 1 rfl) ?_
                      refine lv_bipush (v := iI 116) hx hb dX11_readKeys_146 (by decide) ?_
                      refine lv_bipush (v := iI 111) hx hb dX11_readKeys_148 (by decide) ?_
                      refine lv_bipush (v := iI 112) hx hb dX11_readKeys_150 (by decide) ?_
                      refine lv_bipush (v := iI 115) hx hb dX11_readKeys_152 (by decide) ?_
                      refine lv_iconst (v := iI 0) hx hb dX11_readKeys_154 rfl ?_
                      refine lv_iconst (v := iI 0) hx hb dX11_readKeys_155 rfl ?_
                      refine lv_iconst (v := iI 0) hx hb dX11_readKeys_156 rfl ?_
                      refine g_cs (As := [.int (iI 116), .int (iI 111), .int (iI 112), .int (iI 115), .int (iI 0), .int (iI 0), .int (iI 0)]) (rest := [.ref (ad 0)]) (n := 7) C hml (n_spelled l D k A ad hD (va_up (va_up (va_up (va_up (va_up (va_up (va_up v 6 w6_133) 7 w7_133) 8 w8_136) 9 w9_136) 10 w10_136) 11 w11_136) 17 y17_7) (va_up (va_up f 14 c14_7) 16 c16_7) (va_up g 0 b0_136) 116 111 112 115 0 0 0 (by decide) (by decide) (by decide) (by decide) (by decide) (by decide) (by decide)) mM_X11_228 mS_X11_spelled mN_X11 mC_X11_spelled (by decide +kernel) hP hS (fun _ h => h) ⟨Nat.le_of_ble_eq_true rfl, Nat.le_of_ble_eq_true rfl⟩ ⟨Nat.zero_le _, Nat.zero_le _⟩ hl.1 rfl rfl (Nat.le_of_ble_eq_true rfl) dX11_readKeys_157 (fun r_143 v_143 f_143 g_143 H locs hq_143 hP _ hS => ?_)
                      obtain ⟨z_143, rfl, rfl, rfl, rfl, p0_143⟩ := hq_143
                      show W p l e (gRm 2 42) s m args below meth c _ _ 0 0 Q (F0 m 160 ls [.long (iL z_143), .ref (ad 0)])
                      replace p0_143 : z_143 = (spW (116 : Int) (111 : Int) (112 : Int) (115 : Int) (0 : Int) (0 : Int) (0 : Int)) := p0_143
                      have hsp := p0_143
                      clear p0_143
                      refine g_cv (As := [.long (iL z_143)]) (rest := []) (n := 1) C hml (n_isW l D k A ad hD (va_up (va_up (va_up (va_up (va_up (va_up (va_up v 6 w6_133) 7 w7_133) 8 w8_136) 9 w9_136) 10 w10_136) 11 w11_136) 17 y17_7) (va_up (va_up f 14 c14_7) 16 c16_7) (va_up g 0 b0_136) z_143 B (tX B (v 3) qq) 10 (show mAt B (v 3) w9_136 w10_136 w8_136 w11_136 (b0_136 0) (tX B (v 3) qq) from hN1) (show z_143 = hW 10 ∧ 10 < 18 from ⟨by rw [hsp]; decide +kernel, by decide⟩)) mM_X11_232 mI_X11_isWord mE_X11_isWord mN_X11 mC_X11_isWord (by decide +kernel) 0 (ci := 11) rfl rfl hP hS (fun _ h => h) ⟨Nat.le_of_ble_eq_true rfl, Nat.le_of_ble_eq_true rfl⟩ ⟨Nat.zero_le _, Nat.zero_le _⟩ hl.1 rfl rfl (Nat.le_of_ble_eq_true rfl) dX11_readKeys_160 (fun r_144 v_144 f_144 g_144 H locs hq_144 hP _ hS => ?_)
                      obtain ⟨z_144, rfl, rfl, rfl, rfl, p0_144, p1_144⟩ := hq_144
                      show W p l e (gRm 2 42) s m args below meth c _ _ 0 0 Q (F0 m 163 ls [.int (iI z_144)])
                      replace p0_144 : 0 ≤ z_144 ∧ z_144 ≤ 1 := p0_144
                      replace p1_144 : z_144 = 1 ↔ (tK B (v 3) (tX B (v 3) qq)) = 260 + (10 : Int) := p1_144
                      refine gi_zeq (tgt := 170) hx hb dX11_readKeys_163 (by decide) (by omega) (fun c_145 => ?_) (fun c_145 => ?_)
                      · have v_144 := mt p1_144.mpr (show ¬ z_144 = 1 by omega)
                        clear p1_144
                        refine lv_aload_n hx hb dX11_readKeys_170 rfl (lv_at hl 1 rfl) ?_
                        refine lv_bipush (v := iI 122) hx hb dX11_readKeys_171 (by decide) ?_
                        refine lv_bipush (v := iI 111) hx hb dX11_readKeys_173 (by decide) ?_
                        refine lv_bipush (v := iI 110) hx hb dX11_readKeys_175 (by decide) ?_
                        refine lv_bipush (v := iI 101) hx hb dX11_readKeys_177 (by decide) ?_
                        refine lv_bipush (v := iI 115) hx hb dX11_readKeys_179 (by decide) ?_
                        refine lv_iconst (v := iI 0) hx hb dX11_readKeys_181 rfl ?_
                        refine lv_iconst (v := iI 0) hx hb dX11_readKeys_182 rfl ?_
                        refine g_cs (As := [.int (iI 122), .int (iI 111), .int (iI 110), .int (iI 101), .int (iI 115), .int (iI 0), .int (iI 0)]) (rest := [.ref (ad 0)]) (n := 7) C hml (n_spelled l D k A ad hD (va_up (va_up (va_up (va_up (va_up (va_up (va_up v 6 w6_133) 7 w7_133) 8 w8_136) 9 w9_136) 10 w10_136) 11 w11_136) 17 y17_7) (va_up (va_up f 14 c14_7) 16 c16_7) (va_up g 0 b0_136) 122 111 110 101 115 0 0 (by decide) (by decide) (by decide) (by decide) (by decide) (by decide) (by decide)) mM_X11_228 mS_X11_spelled mN_X11 mC_X11_spelled (by decide +kernel) hP hS (fun _ h => h) ⟨Nat.le_of_ble_eq_true rfl, Nat.le_of_ble_eq_true rfl⟩ ⟨Nat.zero_le _, Nat.zero_le _⟩ hl.1 rfl rfl (Nat.le_of_ble_eq_true rfl) dX11_readKeys_183 (fun r_146 v_146 f_146 g_146 H locs hq_146 hP _ hS => ?_)
                        obtain ⟨z_146, rfl, rfl, rfl, rfl, p0_146⟩ := hq_146
                        show W p l e (gRm 2 42) s m args below meth c _ _ 0 0 Q (F0 m 186 ls [.long (iL z_146), .ref (ad 0)])
                        replace p0_146 : z_146 = (spW (122 : Int) (111 : Int) (110 : Int) (101 : Int) (115 : Int) (0 : Int) (0 : Int)) := p0_146
                        have hsp := p0_146
                        clear p0_146
                        refine g_cv (As := [.long (iL z_146)]) (rest := []) (n := 1) C hml (n_isW l D k A ad hD (va_up (va_up (va_up (va_up (va_up (va_up (va_up v 6 w6_133) 7 w7_133) 8 w8_136) 9 w9_136) 10 w10_136) 11 w11_136) 17 y17_7) (va_up (va_up f 14 c14_7) 16 c16_7) (va_up g 0 b0_136) z_146 B (tX B (v 3) qq) 11 (show mAt B (v 3) w9_136 w10_136 w8_136 w11_136 (b0_136 0) (tX B (v 3) qq) from hN1) (show z_146 = hW 11 ∧ 11 < 18 from ⟨by rw [hsp]; decide +kernel, by decide⟩)) mM_X11_232 mI_X11_isWord mE_X11_isWord mN_X11 mC_X11_isWord (by decide +kernel) 0 (ci := 11) rfl rfl hP hS (fun _ h => h) ⟨Nat.le_of_ble_eq_true rfl, Nat.le_of_ble_eq_true rfl⟩ ⟨Nat.zero_le _, Nat.zero_le _⟩ hl.1 rfl rfl (Nat.le_of_ble_eq_true rfl) dX11_readKeys_186 (fun r_147 v_147 f_147 g_147 H locs hq_147 hP _ hS => ?_)
                        obtain ⟨z_147, rfl, rfl, rfl, rfl, p0_147, p1_147⟩ := hq_147
                        show W p l e (gRm 2 42) s m args below meth c _ _ 0 0 Q (F0 m 189 ls [.int (iI z_147)])
                        replace p0_147 : 0 ≤ z_147 ∧ z_147 ≤ 1 := p0_147
                        replace p1_147 : z_147 = 1 ↔ (tK B (v 3) (tX B (v 3) qq)) = 260 + (11 : Int) := p1_147
                        refine gi_zeq (tgt := 196) hx hb dX11_readKeys_189 (by decide) (by omega) (fun c_148 => ?_) (fun c_148 => ?_)
                        · have v_147 := mt p1_147.mpr (show ¬ z_147 = 1 by omega)
                          clear p1_147
                          refine lv_iconst (v := iI (-1)) hx hb dX11_readKeys_196 rfl ?_
                          refine lv_istore_n (lv' := [(3, .int (iI (-1))), (2, .int (iI z_12)), (0, .ref (ad 0)), (1, .int (iI x1))]) hx hb dX11_readKeys_197 rfl hl (by decide) rfl (fun ls hl => ?_)
                          refine lv_iload_n hx hb dX11_readKeys_198 rfl (lv_at hl 0 rfl) ?_
                          refine gi_zge (tgt := 207) hx hb dX11_readKeys_199 (by decide) (by decide) (fun c_149 => ?_) (fun c_149 => ?_)
                          · exfalso; omega
                          · refine lv_aload_n hx hb dX11_readKeys_202 rfl (lv_at hl 2 rfl) ?_
                            refine g_cv (As := []) (rest := []) (n := 0) C hml (n_wrC l D k A ad hD (va_up (va_up (va_up (va_up (va_up (va_up (va_up v 6 w6_133) 7 w7_133) 8 w8_136) 9 w9_136) 10 w10_136) 11 w11_136) 17 y17_7) (va_up (va_up f 14 c14_7) 16 c16_7) (va_up g 0 b0_136) B (tX B (v 3) qq) (show mAt B (v 3) w9_136 w10_136 w8_136 w11_136 (b0_136 0) (tX B (v 3) qq) from hN1)) mM_X11_198 mI_X11_wrong mE_X11_wrong mN_X11 mC_X11_wrong (by decide +kernel) 0 (ci := 11) rfl rfl hP hS (fun _ h => h) ⟨Nat.le_of_ble_eq_true rfl, Nat.le_of_ble_eq_true rfl⟩ ⟨Nat.zero_le _, Nat.zero_le _⟩ hl.1 rfl rfl (Nat.le_of_ble_eq_true rfl) dX11_readKeys_203 (fun r_150 v_150 f_150 g_150 H locs hq_150 hP _ hS => ?_)
                            obtain ⟨w6_150, w7_150, rfl, rfl, rfl, rfl, p0_150, p1_150⟩ := hq_150
                            show W p l e (gRm 2 42) s m args below meth c _ _ 0 0 Q (F0 m 206 ls [])
                            have hP : gWd D (mdT k ad) (va_up (va_up (va_up (va_up (va_up (va_up (va_up v 6 w6_150) 7 w7_150) 8 w8_136) 9 w9_136) 10 w10_136) 11 w11_136) 17 y17_7) (va_up (va_up f 14 c14_7) 16 c16_7) (va_up g 0 b0_136) H := ⟨hP.1, (gF_up (V := mdV) (F := mdF) (gF_up (V := mdV) (F := mdF) (gR_up (V := mdV) (F := mdF) (gR_up (V := mdV) (F := mdF) (gR_up (V := mdV) (F := mdF) (gR_up (V := mdV) (F := mdF) (gR_up (V := mdV) (F := mdF) (gR_up (V := mdV) (F := mdF) (gR_up (V := mdV) (F := mdF) ⟨hok.1, hok.2⟩ 6 (hP.2.1 6)) 7 (hP.2.1 7)) 8 (hP.2.1 8)) 9 (hP.2.1 9)) 10 (hP.2.1 10)) 11 (hP.2.1 11)) 17 (hP.2.1 17)) 14 (hP.2.2 14)) 16 (hP.2.2 16))⟩
                            replace p0_150 : w6_133 = 0 → w6_150 = (fk B (v 3) (tX B (v 3) qq)) ∧ w7_150 = (tX B (v 3) qq) := p0_150
                            replace p1_150 : 0 < w6_133 → w6_150 = w6_133 ∧ w7_150 = w7_133 := p1_150
                            have rw6_150 : 0 ≤ w6_150 ∧ w6_150 ≤ 5 := hP.2.1 6
                            have rw7_150 : 0 ≤ w7_150 ∧ w7_150 ≤ 700 := hP.2.1 7
                            first | replace p0_150 := p0_150 (by omega) | clear p0_150
                            first | replace p1_150 := p1_150 (by omega) | clear p1_150
                            exact g_vret hQ C hr hlocks hP hS dX11_readKeys_206 ⟨w6_150, w7_150, w8_136, w9_136, w10_136, w11_136, y17_7, c14_7, c16_7, b0_136, rfl, rfl, rfl, rfl, (oM_bad (by rw [← hJ3.get (by omega), kys_stop (c := y17_7) (by omega) (by omega) (Or.inl (by rw [ky1_c (by omega) (by omega) (by omega)]; show _ ≠ (0 : Int); omega))]; exact ky1_c (by omega) (by omega) (by omega)) (by omega) (by omega) hN1), (by intro h; exfalso; omega)⟩
                        · have v_147 := p1_147.mp (show z_147 = 1 by omega)
                          clear p1_147
                          refine lv_iconst (v := iI 3) hx hb dX11_readKeys_192 rfl ?_
                          refine lv_goto (tgt := 197) hx hb dX11_readKeys_193 (by decide) ?_
                          refine lv_istore_n (lv' := [(3, .int (iI 3)), (2, .int (iI z_12)), (0, .ref (ad 0)), (1, .int (iI x1))]) hx hb dX11_readKeys_197 rfl hl (by decide) rfl (fun ls hl => ?_)
                          refine lv_iload_n hx hb dX11_readKeys_198 rfl (lv_at hl 0 rfl) ?_
                          refine gi_zge (tgt := 207) hx hb dX11_readKeys_199 (by decide) (by decide) (fun c_151 => ?_) (fun c_151 => ?_)
                          · refine lv_aload_n hx hb dX11_readKeys_207 rfl (lv_at hl 2 rfl) ?_
                            refine mdG_newUp C hP mF_X11_67 dX11_readKeys_208 ?_
                            refine lv_aload_n hx hb dX11_readKeys_211 rfl (lv_at hl 2 rfl) ?_
                            refine mdG_newKeys C hP mF_X11_214 dX11_readKeys_212 ?_
                            show W p l e (gRm 2 42) s m args below meth c _ _ 0 0 Q (F0 m 215 ls [.int (iI y17_7), .ref (ad 17)])
                            refine lv_iload_n hx hb dX11_readKeys_215 rfl (lv_at hl 1 rfl) ?_
                            refine mdS_newUp (f1 := (va_up (va_up f 14 c14_7) 16 (u1 c16_7 y17_7 z_12))) C hP hD hS (by omega) (by omega) (by omega) (by omega) rfl (Or.inr (gF_up (V := mdV) (F := mdF) (gF_up (V := mdV) (F := mdF) (gR_up (V := mdV) (F := mdF) (gR_up (V := mdV) (F := mdF) (gR_up (V := mdV) (F := mdF) (gR_up (V := mdV) (F := mdF) (gR_up (V := mdV) (F := mdF) (gR_up (V := mdV) (F := mdF) (gR_up (V := mdV) (F := mdF) ⟨hok.1, hok.2⟩ 6 (hP.2.1 6)) 7 (hP.2.1 7)) 8 (hP.2.1 8)) 9 (hP.2.1 9)) 10 (hP.2.1 10)) 11 (hP.2.1 11)) 17 (hP.2.1 17)) 14 (hP.2.2 14)) 16 (u1_rng (hP.2.2 16) (show 0 ≤ z_12 ∧ z_12 ≤ 1 from (by omega))))) dX11_readKeys_216 (fun H locs hP hS => ?_)
                            refine lv_aload_n hx hb dX11_readKeys_217 rfl (lv_at hl 2 rfl) ?_
                            refine mdG_newKey C hP mF_X11_60 dX11_readKeys_218 ?_
                            refine lv_aload_n hx hb dX11_readKeys_221 rfl (lv_at hl 2 rfl) ?_
                            refine mdG_newKeys C hP mF_X11_214 dX11_readKeys_222 ?_
                            show W p l e (gRm 2 42) s m args below meth c _ _ 0 0 Q (F0 m 225 ls [.int (iI y17_7), .ref (ad 15)])
                            refine lv_iload_n hx hb dX11_readKeys_225 rfl (lv_at hl 0 rfl) ?_
                            refine mdS_newKey (f1 := (va_up (va_up f 14 (u1 c14_7 y17_7 3)) 16 (u1 c16_7 y17_7 z_12))) C hP hD hS (by omega) (by omega) (by decide) rfl (Or.inr (gF_up (V := mdV) (F := mdF) (gF_up (V := mdV) (F := mdF) (gR_up (V := mdV) (F := mdF) (gR_up (V := mdV) (F := mdF) (gR_up (V := mdV) (F := mdF) (gR_up (V := mdV) (F := mdF) (gR_up (V := mdV) (F := mdF) (gR_up (V := mdV) (F := mdF) (gR_up (V := mdV) (F := mdF) ⟨hok.1, hok.2⟩ 6 (hP.2.1 6)) 7 (hP.2.1 7)) 8 (hP.2.1 8)) 9 (hP.2.1 9)) 10 (hP.2.1 10)) 11 (hP.2.1 11)) 17 (hP.2.1 17)) 14 (u1_rng (hP.2.2 14) (show 0 ≤ 3 ∧ 3 ≤ 3 from (by decide)))) 16 (hP.2.2 16))) dX11_readKeys_226 (fun H locs hP hS => ?_)
                            refine lv_aload_n hx hb dX11_readKeys_227 rfl (lv_at hl 2 rfl) ?_
                            refine lv_dup hx hb dX11_readKeys_228 rfl ?_
                            refine mdG_newKeys C hP mF_X11_214 dX11_readKeys_229 ?_
                            show W p l e (gRm 2 42) s m args below meth c _ _ 0 0 Q (F0 m 232 ls [.int (iI y17_7), .ref (ad 0)])
                            refine lv_iconst (v := iI 1) hx hb dX11_readKeys_232 rfl ?_
                            refine gi_add (z := (y17_7 + 1)) hx hb dX11_readKeys_233 rfl ?_
                            refine mdP_newKeys (v1 := (va_up (va_up (va_up (va_up (va_up (va_up (va_up v 6 w6_133) 7 w7_133) 8 w8_136) 9 w9_136) 10 w10_136) 11 w11_136) 17 (y17_7 + 1))) C hP hD hS mF_X11_214 (by omega) rfl (Or.inr (gF_up (V := mdV) (F := mdF) (gF_up (V := mdV) (F := mdF) (gR_up (V := mdV) (F := mdF) (gR_up (V := mdV) (F := mdF) (gR_up (V := mdV) (F := mdF) (gR_up (V := mdV) (F := mdF) (gR_up (V := mdV) (F := mdF) (gR_up (V := mdV) (F := mdF) (gR_up (V := mdV) (F := mdF) ⟨hok.1, hok.2⟩ 6 (hP.2.1 6)) 7 (hP.2.1 7)) 8 (hP.2.1 8)) 9 (hP.2.1 9)) 10 (hP.2.1 10)) 11 (hP.2.1 11)) 17 (show 0 ≤ (y17_7 + 1) ∧ (y17_7 + 1) ≤ 4 from by omega)) 14 (hP.2.2 14)) 16 (hP.2.2 16))) dX11_readKeys_234 (fun H locs hP hS => ?_)
                            refine lv_aload_n hx hb dX11_readKeys_237 rfl (lv_at hl 2 rfl) ?_
                            refine g_cv (As := []) (rest := []) (n := 0) C hml (n_next l D k A ad hD (va_up (va_up (va_up (va_up (va_up (va_up (va_up v 6 w6_133) 7 w7_133) 8 w8_136) 9 w9_136) 10 w10_136) 11 w11_136) 17 (y17_7 + 1)) (va_up (va_up f 14 (u1 c14_7 y17_7 3)) 16 (u1 c16_7 y17_7 z_12)) (va_up g 0 b0_136) B (show ∀ k, (f 0) k % 256 = B k from hB) (show 0 ≤ w10_136 ∧ w10_136 ≤ (v 3) from by omega)) mM_X11_201 mI_X11_next mE_X11_next mN_X11 mC_X11_next (by decide +kernel) 0 (ci := 11) rfl rfl hP hS (fun _ h => h) ⟨Nat.le_of_ble_eq_true rfl, Nat.le_of_ble_eq_true rfl⟩ ⟨Nat.zero_le _, Nat.zero_le _⟩ hl.1 rfl rfl (Nat.le_of_ble_eq_true rfl) dX11_readKeys_238 (fun r_152 v_152 f_152 g_152 H locs hq_152 hP _ hS => ?_)
                            obtain ⟨w8_152, w9_152, w10_152, w11_152, b0_152, rfl, rfl, rfl, rfl, p0_152⟩ := hq_152
                            show W p l e (gRm 2 42) s m args below meth c _ _ 0 0 Q (F0 m 241 ls [])
                            have hP : gWd D (mdT k ad) (va_up (va_up (va_up (va_up (va_up (va_up (va_up v 6 w6_133) 7 w7_133) 8 w8_152) 9 w9_152) 10 w10_152) 11 w11_152) 17 (y17_7 + 1)) (va_up (va_up f 14 (u1 c14_7 y17_7 3)) 16 (u1 c16_7 y17_7 z_12)) (va_up g 0 b0_152) H := ⟨hP.1, (gF_up (V := mdV) (F := mdF) (gF_up (V := mdV) (F := mdF) (gR_up (V := mdV) (F := mdF) (gR_up (V := mdV) (F := mdF) (gR_up (V := mdV) (F := mdF) (gR_up (V := mdV) (F := mdF) (gR_up (V := mdV) (F := mdF) (gR_up (V := mdV) (F := mdF) (gR_up (V := mdV) (F := mdF) ⟨hok.1, hok.2⟩ 6 (hP.2.1 6)) 7 (hP.2.1 7)) 8 (hP.2.1 8)) 9 (hP.2.1 9)) 10 (hP.2.1 10)) 11 (hP.2.1 11)) 17 (hP.2.1 17)) 14 (hP.2.2 14)) 16 (hP.2.2 16))⟩
                            replace p0_152 : mAt B (v 3) w9_152 w10_152 w8_152 w11_152 (b0_152 0) (run bW B (v 3) w10_136) := p0_152
                            have rw8_152 : 0 ≤ w8_152 ∧ w8_152 ≤ 4 := hP.2.1 8
                            have rw9_152 : 0 ≤ w9_152 ∧ w9_152 ≤ 700 := hP.2.1 9
                            have rw10_152 : 0 ≤ w10_152 ∧ w10_152 ≤ 700 := hP.2.1 10
                            have rw11_152 : 0 ≤ w11_152 ∧ w11_152 ≤ 999999 := hP.2.1 11
                            have hN2 : mAt B (v 3) w9_152 w10_152 w8_152 w11_152 (b0_152 0) (tX B (v 3) (tX B (v 3) qq)) := by have h := p0_152; rw [hN1.bh] at h; exact h
                            clear p0_152
                            have hu2 := tX_up (B := B) (n := (v 3)) (q := (tX B (v 3) qq)) (by have h9 := (not_congr (tK_end (B := B) (n := (v 3)) (q := (tX B (v 3) qq)))).mp (by omega); omega)
                            have hle2 := hN2.le
                            have hky : ky1 B (v 3) y17_7 qq = (0, tX B (v 3) (tX B (v 3) qq)) := ky1_d (by omega) (by omega) (by omega)
                            refine lv_aload_n hx hb dX11_readKeys_241 rfl (lv_at hl 2 rfl) ?_
                            refine lv_bipush (v := iI 44) hx hb dX11_readKeys_242 (by decide) ?_
                            refine g_cv (As := [.int (iI 44)]) (rest := []) (n := 1) C hml (n_isS l D k A ad hD (va_up (va_up (va_up (va_up (va_up (va_up (va_up v 6 w6_133) 7 w7_133) 8 w8_152) 9 w9_152) 10 w10_152) 11 w11_152) 17 (y17_7 + 1)) (va_up (va_up f 14 (u1 c14_7 y17_7 3)) 16 (u1 c16_7 y17_7 z_12)) (va_up g 0 b0_152) 44 B (tX B (v 3) (tX B (v 3) qq)) (by decide) (show mAt B (v 3) w9_152 w10_152 w8_152 w11_152 (b0_152 0) (tX B (v 3) (tX B (v 3) qq)) from hN2) (show 40 ≤ (44 : Int) ∧ (44 : Int) < 256 from by omega)) mM_X11_204 mI_X11_isSign mE_X11_isSign mN_X11 mC_X11_isSign (by decide +kernel) 0 (ci := 11) rfl rfl hP hS (fun _ h => h) ⟨Nat.le_of_ble_eq_true rfl, Nat.le_of_ble_eq_true rfl⟩ ⟨Nat.zero_le _, Nat.zero_le _⟩ hl.1 rfl rfl (Nat.le_of_ble_eq_true rfl) dX11_readKeys_244 (fun r_153 v_153 f_153 g_153 H locs hq_153 hP _ hS => ?_)
                            obtain ⟨z_153, rfl, rfl, rfl, rfl, p0_153, p1_153⟩ := hq_153
                            show W p l e (gRm 2 42) s m args below meth c _ _ 0 0 Q (F0 m 247 ls [.int (iI z_153)])
                            replace p0_153 : 0 ≤ z_153 ∧ z_153 ≤ 1 := p0_153
                            replace p1_153 : z_153 = 1 ↔ (tK B (v 3) (tX B (v 3) (tX B (v 3) qq))) = (44 : Int) := p1_153
                            refine lv_istore_n (lv' := [(1, .int (iI z_153)), (3, .int (iI 3)), (2, .int (iI z_12)), (0, .ref (ad 0))]) hx hb dX11_readKeys_247 rfl hl (by decide) rfl (fun ls hl => ?_)
                            refine lv_iload_n hx hb dX11_readKeys_248 rfl (lv_at hl 0 rfl) ?_
                            refine gi_zeq (tgt := 256) hx hb dX11_readKeys_249 (by decide) (by omega) (fun c_154 => ?_) (fun c_154 => ?_)
                            · have v_153 := mt p1_153.mpr (show ¬ z_153 = 1 by omega)
                              clear p1_153
                              refine lv_goto (tgt := 7) hx hb dX11_readKeys_256 (by decide) ?_
                              exact ih_7 z_153 ((tX B (v 3) (tX B (v 3) qq))) w6_133 w7_133 w8_152 w9_152 w10_152 w11_152 (y17_7 + 1) (u1 c14_7 y17_7 3) (u1 c16_7 y17_7 z_12) b0_152 _ _ _ (by omega) (by omega) hN2 (by omega) (by first | (intro h; exfalso; omega) | exact fun _ => (by rw [← hJ3.get (by omega), kys_go (B := B) (n := (v 3)) (p := qq) (c := y17_7) (by omega) (by omega) (by rw [hky]) (by rw [hky]; show tK B (v 3) (tX B (v 3) (tX B (v 3) qq)) = 44; omega), hky])) (by first | (intro h; exfalso; omega) | exact fun _ => (by rw [← hJ3.get (by omega), kys_stop (B := B) (n := (v 3)) (p := qq) (c := y17_7) (by omega) (by omega) (Or.inr (by rw [hky]; show tK B (v 3) (tX B (v 3) (tX B (v 3) qq)) ≠ 44; omega)), hky])) (by first | (intro h; exfalso; omega) | exact fun _ => (by rw [kyP_s (by omega), ← hC1.get (by omega)])) (by first | (intro h; exfalso; omega) | exact fun _ => (by have h8 := hC2.get (by omega); rw [kyN_go (x := y17_7) (by omega) (by omega)] at h8; omega)) (by first | (intro h; exfalso; omega) | exact fun _ => (by have h8 := hC2.get (by omega); rw [kyN_end (x := y17_7) (by omega) (by omega)] at h8; omega)) (kyM_put hC4.get (by omega) (by rw [← hC1.get (by omega)]; omega) (by rw [← hC1.get (by omega)]; first | (rw [if_pos (by omega)]; omega) | (rw [if_neg (by omega)]; omega))) hP hS (lv_sub hl [3, 0] rfl)
                            · have v_153 := p1_153.mp (show z_153 = 1 by omega)
                              clear p1_153
                              refine lv_aload_n hx hb dX11_readKeys_252 rfl (lv_at hl 3 rfl) ?_
                              refine g_cv (As := []) (rest := []) (n := 0) C hml (n_next l D k A ad hD (va_up (va_up (va_up (va_up (va_up (va_up (va_up v 6 w6_133) 7 w7_133) 8 w8_152) 9 w9_152) 10 w10_152) 11 w11_152) 17 (y17_7 + 1)) (va_up (va_up f 14 (u1 c14_7 y17_7 3)) 16 (u1 c16_7 y17_7 z_12)) (va_up g 0 b0_152) B (show ∀ k, (f 0) k % 256 = B k from hB) (show 0 ≤ w10_152 ∧ w10_152 ≤ (v 3) from by omega)) mM_X11_201 mI_X11_next mE_X11_next mN_X11 mC_X11_next (by decide +kernel) 0 (ci := 11) rfl rfl hP hS (fun _ h => h) ⟨Nat.le_of_ble_eq_true rfl, Nat.le_of_ble_eq_true rfl⟩ ⟨Nat.zero_le _, Nat.zero_le _⟩ hl.1 rfl rfl (Nat.le_of_ble_eq_true rfl) dX11_readKeys_253 (fun r_155 v_155 f_155 g_155 H locs hq_155 hP _ hS => ?_)
                              obtain ⟨w8_155, w9_155, w10_155, w11_155, b0_155, rfl, rfl, rfl, rfl, p0_155⟩ := hq_155
                              show W p l e (gRm 2 42) s m args below meth c _ _ 0 0 Q (F0 m 256 ls [])
                              have hP : gWd D (mdT k ad) (va_up (va_up (va_up (va_up (va_up (va_up (va_up v 6 w6_133) 7 w7_133) 8 w8_155) 9 w9_155) 10 w10_155) 11 w11_155) 17 (y17_7 + 1)) (va_up (va_up f 14 (u1 c14_7 y17_7 3)) 16 (u1 c16_7 y17_7 z_12)) (va_up g 0 b0_155) H := ⟨hP.1, (gF_up (V := mdV) (F := mdF) (gF_up (V := mdV) (F := mdF) (gR_up (V := mdV) (F := mdF) (gR_up (V := mdV) (F := mdF) (gR_up (V := mdV) (F := mdF) (gR_up (V := mdV) (F := mdF) (gR_up (V := mdV) (F := mdF) (gR_up (V := mdV) (F := mdF) (gR_up (V := mdV) (F := mdF) ⟨hok.1, hok.2⟩ 6 (hP.2.1 6)) 7 (hP.2.1 7)) 8 (hP.2.1 8)) 9 (hP.2.1 9)) 10 (hP.2.1 10)) 11 (hP.2.1 11)) 17 (hP.2.1 17)) 14 (hP.2.2 14)) 16 (hP.2.2 16))⟩
                              replace p0_155 : mAt B (v 3) w9_155 w10_155 w8_155 w11_155 (b0_155 0) (run bW B (v 3) w10_152) := p0_155
                              have rw8_155 : 0 ≤ w8_155 ∧ w8_155 ≤ 4 := hP.2.1 8
                              have rw9_155 : 0 ≤ w9_155 ∧ w9_155 ≤ 700 := hP.2.1 9
                              have rw10_155 : 0 ≤ w10_155 ∧ w10_155 ≤ 700 := hP.2.1 10
                              have rw11_155 : 0 ≤ w11_155 ∧ w11_155 ≤ 999999 := hP.2.1 11
                              have hN3 : mAt B (v 3) w9_155 w10_155 w8_155 w11_155 (b0_155 0) (tX B (v 3) (tX B (v 3) (tX B (v 3) qq))) := by have h := p0_155; rw [hN2.bh] at h; exact h
                              clear p0_155
                              have hu3 := tX_up (B := B) (n := (v 3)) (q := (tX B (v 3) (tX B (v 3) qq))) (by have h9 := (not_congr (tK_end (B := B) (n := (v 3)) (q := (tX B (v 3) (tX B (v 3) qq))))).mp (by omega); omega)
                              refine lv_goto (tgt := 7) hx hb dX11_readKeys_256 (by decide) ?_
                              exact ih_7 z_153 ((tX B (v 3) (tX B (v 3) (tX B (v 3) qq)))) w6_133 w7_133 w8_155 w9_155 w10_155 w11_155 (y17_7 + 1) (u1 c14_7 y17_7 3) (u1 c16_7 y17_7 z_12) b0_155 _ _ _ (by omega) (by omega) hN3 (by omega) (by first | (intro h; exfalso; omega) | exact fun _ => (by rw [← hJ3.get (by omega), kys_go (B := B) (n := (v 3)) (p := qq) (c := y17_7) (by omega) (by omega) (by rw [hky]) (by rw [hky]; show tK B (v 3) (tX B (v 3) (tX B (v 3) qq)) = 44; omega), hky])) (by first | (intro h; exfalso; omega) | exact fun _ => (by rw [← hJ3.get (by omega), kys_stop (B := B) (n := (v 3)) (p := qq) (c := y17_7) (by omega) (by omega) (Or.inr (by rw [hky]; show tK B (v 3) (tX B (v 3) (tX B (v 3) qq)) ≠ 44; omega)), hky])) (by first | (intro h; exfalso; omega) | exact fun _ => (by rw [kyP_s (by omega), ← hC1.get (by omega)])) (by first | (intro h; exfalso; omega) | exact fun _ => (by have h8 := hC2.get (by omega); rw [kyN_go (x := y17_7) (by omega) (by omega)] at h8; omega)) (by first | (intro h; exfalso; omega) | exact fun _ => (by have h8 := hC2.get (by omega); rw [kyN_end (x := y17_7) (by omega) (by omega)] at h8; omega)) (kyM_put hC4.get (by omega) (by rw [← hC1.get (by omega)]; omega) (by rw [← hC1.get (by omega)]; first | (rw [if_pos (by omega)]; omega) | (rw [if_neg (by omega)]; omega))) hP hS (lv_sub hl [3, 0] rfl)
                          · exfalso; omega
                      · have v_144 := p1_144.mp (show z_144 = 1 by omega)
                        clear p1_144
                        refine lv_iconst (v := iI 2) hx hb dX11_readKeys_166 rfl ?_
                        refine lv_goto (tgt := 197) hx hb dX11_readKeys_167 (by decide) ?_
                        refine lv_istore_n (lv' := [(3, .int (iI 2)), (2, .int (iI z_12)), (0, .ref (ad 0)), (1, .int (iI x1))]) hx hb dX11_readKeys_197 rfl hl (by decide) rfl (fun ls hl => ?_)
                        refine lv_iload_n hx hb dX11_readKeys_198 rfl (lv_at hl 0 rfl) ?_
                        refine gi_zge (tgt := 207) hx hb dX11_readKeys_199 (by decide) (by decide) (fun c_156 => ?_) (fun c_156 => ?_)
                        · refine lv_aload_n hx hb dX11_readKeys_207 rfl (lv_at hl 2 rfl) ?_
                          refine mdG_newUp C hP mF_X11_67 dX11_readKeys_208 ?_
                          refine lv_aload_n hx hb dX11_readKeys_211 rfl (lv_at hl 2 rfl) ?_
                          refine mdG_newKeys C hP mF_X11_214 dX11_readKeys_212 ?_
                          show W p l e (gRm 2 42) s m args below meth c _ _ 0 0 Q (F0 m 215 ls [.int (iI y17_7), .ref (ad 17)])
                          refine lv_iload_n hx hb dX11_readKeys_215 rfl (lv_at hl 1 rfl) ?_
                          refine mdS_newUp (f1 := (va_up (va_up f 14 c14_7) 16 (u1 c16_7 y17_7 z_12))) C hP hD hS (by omega) (by omega) (by omega) (by omega) rfl (Or.inr (gF_up (V := mdV) (F := mdF) (gF_up (V := mdV) (F := mdF) (gR_up (V := mdV) (F := mdF) (gR_up (V := mdV) (F := mdF) (gR_up (V := mdV) (F := mdF) (gR_up (V := mdV) (F := mdF) (gR_up (V := mdV) (F := mdF) (gR_up (V := mdV) (F := mdF) (gR_up (V := mdV) (F := mdF) ⟨hok.1, hok.2⟩ 6 (hP.2.1 6)) 7 (hP.2.1 7)) 8 (hP.2.1 8)) 9 (hP.2.1 9)) 10 (hP.2.1 10)) 11 (hP.2.1 11)) 17 (hP.2.1 17)) 14 (hP.2.2 14)) 16 (u1_rng (hP.2.2 16) (show 0 ≤ z_12 ∧ z_12 ≤ 1 from (by omega))))) dX11_readKeys_216 (fun H locs hP hS => ?_)
                          refine lv_aload_n hx hb dX11_readKeys_217 rfl (lv_at hl 2 rfl) ?_
                          refine mdG_newKey C hP mF_X11_60 dX11_readKeys_218 ?_
                          refine lv_aload_n hx hb dX11_readKeys_221 rfl (lv_at hl 2 rfl) ?_
                          refine mdG_newKeys C hP mF_X11_214 dX11_readKeys_222 ?_
                          show W p l e (gRm 2 42) s m args below meth c _ _ 0 0 Q (F0 m 225 ls [.int (iI y17_7), .ref (ad 15)])
                          refine lv_iload_n hx hb dX11_readKeys_225 rfl (lv_at hl 0 rfl) ?_
                          refine mdS_newKey (f1 := (va_up (va_up f 14 (u1 c14_7 y17_7 2)) 16 (u1 c16_7 y17_7 z_12))) C hP hD hS (by omega) (by omega) (by decide) rfl (Or.inr (gF_up (V := mdV) (F := mdF) (gF_up (V := mdV) (F := mdF) (gR_up (V := mdV) (F := mdF) (gR_up (V := mdV) (F := mdF) (gR_up (V := mdV) (F := mdF) (gR_up (V := mdV) (F := mdF) (gR_up (V := mdV) (F := mdF) (gR_up (V := mdV) (F := mdF) (gR_up (V := mdV) (F := mdF) ⟨hok.1, hok.2⟩ 6 (hP.2.1 6)) 7 (hP.2.1 7)) 8 (hP.2.1 8)) 9 (hP.2.1 9)) 10 (hP.2.1 10)) 11 (hP.2.1 11)) 17 (hP.2.1 17)) 14 (u1_rng (hP.2.2 14) (show 0 ≤ 2 ∧ 2 ≤ 3 from (by decide)))) 16 (hP.2.2 16))) dX11_readKeys_226 (fun H locs hP hS => ?_)
                          refine lv_aload_n hx hb dX11_readKeys_227 rfl (lv_at hl 2 rfl) ?_
                          refine lv_dup hx hb dX11_readKeys_228 rfl ?_
                          refine mdG_newKeys C hP mF_X11_214 dX11_readKeys_229 ?_
                          show W p l e (gRm 2 42) s m args below meth c _ _ 0 0 Q (F0 m 232 ls [.int (iI y17_7), .ref (ad 0)])
                          refine lv_iconst (v := iI 1) hx hb dX11_readKeys_232 rfl ?_
                          refine gi_add (z := (y17_7 + 1)) hx hb dX11_readKeys_233 rfl ?_
                          refine mdP_newKeys (v1 := (va_up (va_up (va_up (va_up (va_up (va_up (va_up v 6 w6_133) 7 w7_133) 8 w8_136) 9 w9_136) 10 w10_136) 11 w11_136) 17 (y17_7 + 1))) C hP hD hS mF_X11_214 (by omega) rfl (Or.inr (gF_up (V := mdV) (F := mdF) (gF_up (V := mdV) (F := mdF) (gR_up (V := mdV) (F := mdF) (gR_up (V := mdV) (F := mdF) (gR_up (V := mdV) (F := mdF) (gR_up (V := mdV) (F := mdF) (gR_up (V := mdV) (F := mdF) (gR_up (V := mdV) (F := mdF) (gR_up (V := mdV) (F := mdF) ⟨hok.1, hok.2⟩ 6 (hP.2.1 6)) 7 (hP.2.1 7)) 8 (hP.2.1 8)) 9 (hP.2.1 9)) 10 (hP.2.1 10)) 11 (hP.2.1 11)) 17 (show 0 ≤ (y17_7 + 1) ∧ (y17_7 + 1) ≤ 4 from by omega)) 14 (hP.2.2 14)) 16 (hP.2.2 16))) dX11_readKeys_234 (fun H locs hP hS => ?_)
                          refine lv_aload_n hx hb dX11_readKeys_237 rfl (lv_at hl 2 rfl) ?_
                          refine g_cv (As := []) (rest := []) (n := 0) C hml (n_next l D k A ad hD (va_up (va_up (va_up (va_up (va_up (va_up (va_up v 6 w6_133) 7 w7_133) 8 w8_136) 9 w9_136) 10 w10_136) 11 w11_136) 17 (y17_7 + 1)) (va_up (va_up f 14 (u1 c14_7 y17_7 2)) 16 (u1 c16_7 y17_7 z_12)) (va_up g 0 b0_136) B (show ∀ k, (f 0) k % 256 = B k from hB) (show 0 ≤ w10_136 ∧ w10_136 ≤ (v 3) from by omega)) mM_X11_201 mI_X11_next mE_X11_next mN_X11 mC_X11_next (by decide +kernel) 0 (ci := 11) rfl rfl hP hS (fun _ h => h) ⟨Nat.le_of_ble_eq_true rfl, Nat.le_of_ble_eq_true rfl⟩ ⟨Nat.zero_le _, Nat.zero_le _⟩ hl.1 rfl rfl (Nat.le_of_ble_eq_true rfl) dX11_readKeys_238 (fun r_157 v_157 f_157 g_157 H locs hq_157 hP _ hS => ?_)
                          obtain ⟨w8_157, w9_157, w10_157, w11_157, b0_157, rfl, rfl, rfl, rfl, p0_157⟩ := hq_157
                          show W p l e (gRm 2 42) s m args below meth c _ _ 0 0 Q (F0 m 241 ls [])
                          have hP : gWd D (mdT k ad) (va_up (va_up (va_up (va_up (va_up (va_up (va_up v 6 w6_133) 7 w7_133) 8 w8_157) 9 w9_157) 10 w10_157) 11 w11_157) 17 (y17_7 + 1)) (va_up (va_up f 14 (u1 c14_7 y17_7 2)) 16 (u1 c16_7 y17_7 z_12)) (va_up g 0 b0_157) H := ⟨hP.1, (gF_up (V := mdV) (F := mdF) (gF_up (V := mdV) (F := mdF) (gR_up (V := mdV) (F := mdF) (gR_up (V := mdV) (F := mdF) (gR_up (V := mdV) (F := mdF) (gR_up (V := mdV) (F := mdF) (gR_up (V := mdV) (F := mdF) (gR_up (V := mdV) (F := mdF) (gR_up (V := mdV) (F := mdF) ⟨hok.1, hok.2⟩ 6 (hP.2.1 6)) 7 (hP.2.1 7)) 8 (hP.2.1 8)) 9 (hP.2.1 9)) 10 (hP.2.1 10)) 11 (hP.2.1 11)) 17 (hP.2.1 17)) 14 (hP.2.2 14)) 16 (hP.2.2 16))⟩
                          replace p0_157 : mAt B (v 3) w9_157 w10_157 w8_157 w11_157 (b0_157 0) (run bW B (v 3) w10_136) := p0_157
                          have rw8_157 : 0 ≤ w8_157 ∧ w8_157 ≤ 4 := hP.2.1 8
                          have rw9_157 : 0 ≤ w9_157 ∧ w9_157 ≤ 700 := hP.2.1 9
                          have rw10_157 : 0 ≤ w10_157 ∧ w10_157 ≤ 700 := hP.2.1 10
                          have rw11_157 : 0 ≤ w11_157 ∧ w11_157 ≤ 999999 := hP.2.1 11
                          have hN2 : mAt B (v 3) w9_157 w10_157 w8_157 w11_157 (b0_157 0) (tX B (v 3) (tX B (v 3) qq)) := by have h := p0_157; rw [hN1.bh] at h; exact h
                          clear p0_157
                          have hu2 := tX_up (B := B) (n := (v 3)) (q := (tX B (v 3) qq)) (by have h9 := (not_congr (tK_end (B := B) (n := (v 3)) (q := (tX B (v 3) qq)))).mp (by omega); omega)
                          have hle2 := hN2.le
                          have hky : ky1 B (v 3) y17_7 qq = (0, tX B (v 3) (tX B (v 3) qq)) := ky1_d (by omega) (by omega) (by omega)
                          refine lv_aload_n hx hb dX11_readKeys_241 rfl (lv_at hl 2 rfl) ?_
                          refine lv_bipush (v := iI 44) hx hb dX11_readKeys_242 (by decide) ?_
                          refine g_cv (As := [.int (iI 44)]) (rest := []) (n := 1) C hml (n_isS l D k A ad hD (va_up (va_up (va_up (va_up (va_up (va_up (va_up v 6 w6_133) 7 w7_133) 8 w8_157) 9 w9_157) 10 w10_157) 11 w11_157) 17 (y17_7 + 1)) (va_up (va_up f 14 (u1 c14_7 y17_7 2)) 16 (u1 c16_7 y17_7 z_12)) (va_up g 0 b0_157) 44 B (tX B (v 3) (tX B (v 3) qq)) (by decide) (show mAt B (v 3) w9_157 w10_157 w8_157 w11_157 (b0_157 0) (tX B (v 3) (tX B (v 3) qq)) from hN2) (show 40 ≤ (44 : Int) ∧ (44 : Int) < 256 from by omega)) mM_X11_204 mI_X11_isSign mE_X11_isSign mN_X11 mC_X11_isSign (by decide +kernel) 0 (ci := 11) rfl rfl hP hS (fun _ h => h) ⟨Nat.le_of_ble_eq_true rfl, Nat.le_of_ble_eq_true rfl⟩ ⟨Nat.zero_le _, Nat.zero_le _⟩ hl.1 rfl rfl (Nat.le_of_ble_eq_true rfl) dX11_readKeys_244 (fun r_158 v_158 f_158 g_158 H locs hq_158 hP _ hS => ?_)
                          obtain ⟨z_158, rfl, rfl, rfl, rfl, p0_158, p1_158⟩ := hq_158
                          show W p l e (gRm 2 42) s m args below meth c _ _ 0 0 Q (F0 m 247 ls [.int (iI z_158)])
                          replace p0_158 : 0 ≤ z_158 ∧ z_158 ≤ 1 := p0_158
                          replace p1_158 : z_158 = 1 ↔ (tK B (v 3) (tX B (v 3) (tX B (v 3) qq))) = (44 : Int) := p1_158
                          refine lv_istore_n (lv' := [(1, .int (iI z_158)), (3, .int (iI 2)), (2, .int (iI z_12)), (0, .ref (ad 0))]) hx hb dX11_readKeys_247 rfl hl (by decide) rfl (fun ls hl => ?_)
                          refine lv_iload_n hx hb dX11_readKeys_248 rfl (lv_at hl 0 rfl) ?_
                          refine gi_zeq (tgt := 256) hx hb dX11_readKeys_249 (by decide) (by omega) (fun c_159 => ?_) (fun c_159 => ?_)
                          · have v_158 := mt p1_158.mpr (show ¬ z_158 = 1 by omega)
                            clear p1_158
                            refine lv_goto (tgt := 7) hx hb dX11_readKeys_256 (by decide) ?_
                            exact ih_7 z_158 ((tX B (v 3) (tX B (v 3) qq))) w6_133 w7_133 w8_157 w9_157 w10_157 w11_157 (y17_7 + 1) (u1 c14_7 y17_7 2) (u1 c16_7 y17_7 z_12) b0_157 _ _ _ (by omega) (by omega) hN2 (by omega) (by first | (intro h; exfalso; omega) | exact fun _ => (by rw [← hJ3.get (by omega), kys_go (B := B) (n := (v 3)) (p := qq) (c := y17_7) (by omega) (by omega) (by rw [hky]) (by rw [hky]; show tK B (v 3) (tX B (v 3) (tX B (v 3) qq)) = 44; omega), hky])) (by first | (intro h; exfalso; omega) | exact fun _ => (by rw [← hJ3.get (by omega), kys_stop (B := B) (n := (v 3)) (p := qq) (c := y17_7) (by omega) (by omega) (Or.inr (by rw [hky]; show tK B (v 3) (tX B (v 3) (tX B (v 3) qq)) ≠ 44; omega)), hky])) (by first | (intro h; exfalso; omega) | exact fun _ => (by rw [kyP_s (by omega), ← hC1.get (by omega)])) (by first | (intro h; exfalso; omega) | exact fun _ => (by have h8 := hC2.get (by omega); rw [kyN_go (x := y17_7) (by omega) (by omega)] at h8; omega)) (by first | (intro h; exfalso; omega) | exact fun _ => (by have h8 := hC2.get (by omega); rw [kyN_end (x := y17_7) (by omega) (by omega)] at h8; omega)) (kyM_put hC4.get (by omega) (by rw [← hC1.get (by omega)]; omega) (by rw [← hC1.get (by omega)]; first | (rw [if_pos (by omega)]; omega) | (rw [if_neg (by omega)]; omega))) hP hS (lv_sub hl [3, 0] rfl)
                          · have v_158 := p1_158.mp (show z_158 = 1 by omega)
                            clear p1_158
                            refine lv_aload_n hx hb dX11_readKeys_252 rfl (lv_at hl 3 rfl) ?_
                            refine g_cv (As := []) (rest := []) (n := 0) C hml (n_next l D k A ad hD (va_up (va_up (va_up (va_up (va_up (va_up (va_up v 6 w6_133) 7 w7_133) 8 w8_157) 9 w9_157) 10 w10_157) 11 w11_157) 17 (y17_7 + 1)) (va_up (va_up f 14 (u1 c14_7 y17_7 2)) 16 (u1 c16_7 y17_7 z_12)) (va_up g 0 b0_157) B (show ∀ k, (f 0) k % 256 = B k from hB) (show 0 ≤ w10_157 ∧ w10_157 ≤ (v 3) from by omega)) mM_X11_201 mI_X11_next mE_X11_next mN_X11 mC_X11_next (by decide +kernel) 0 (ci := 11) rfl rfl hP hS (fun _ h => h) ⟨Nat.le_of_ble_eq_true rfl, Nat.le_of_ble_eq_true rfl⟩ ⟨Nat.zero_le _, Nat.zero_le _⟩ hl.1 rfl rfl (Nat.le_of_ble_eq_true rfl) dX11_readKeys_253 (fun r_160 v_160 f_160 g_160 H locs hq_160 hP _ hS => ?_)
                            obtain ⟨w8_160, w9_160, w10_160, w11_160, b0_160, rfl, rfl, rfl, rfl, p0_160⟩ := hq_160
                            show W p l e (gRm 2 42) s m args below meth c _ _ 0 0 Q (F0 m 256 ls [])
                            have hP : gWd D (mdT k ad) (va_up (va_up (va_up (va_up (va_up (va_up (va_up v 6 w6_133) 7 w7_133) 8 w8_160) 9 w9_160) 10 w10_160) 11 w11_160) 17 (y17_7 + 1)) (va_up (va_up f 14 (u1 c14_7 y17_7 2)) 16 (u1 c16_7 y17_7 z_12)) (va_up g 0 b0_160) H := ⟨hP.1, (gF_up (V := mdV) (F := mdF) (gF_up (V := mdV) (F := mdF) (gR_up (V := mdV) (F := mdF) (gR_up (V := mdV) (F := mdF) (gR_up (V := mdV) (F := mdF) (gR_up (V := mdV) (F := mdF) (gR_up (V := mdV) (F := mdF) (gR_up (V := mdV) (F := mdF) (gR_up (V := mdV) (F := mdF) ⟨hok.1, hok.2⟩ 6 (hP.2.1 6)) 7 (hP.2.1 7)) 8 (hP.2.1 8)) 9 (hP.2.1 9)) 10 (hP.2.1 10)) 11 (hP.2.1 11)) 17 (hP.2.1 17)) 14 (hP.2.2 14)) 16 (hP.2.2 16))⟩
                            replace p0_160 : mAt B (v 3) w9_160 w10_160 w8_160 w11_160 (b0_160 0) (run bW B (v 3) w10_157) := p0_160
                            have rw8_160 : 0 ≤ w8_160 ∧ w8_160 ≤ 4 := hP.2.1 8
                            have rw9_160 : 0 ≤ w9_160 ∧ w9_160 ≤ 700 := hP.2.1 9
                            have rw10_160 : 0 ≤ w10_160 ∧ w10_160 ≤ 700 := hP.2.1 10
                            have rw11_160 : 0 ≤ w11_160 ∧ w11_160 ≤ 999999 := hP.2.1 11
                            have hN3 : mAt B (v 3) w9_160 w10_160 w8_160 w11_160 (b0_160 0) (tX B (v 3) (tX B (v 3) (tX B (v 3) qq))) := by have h := p0_160; rw [hN2.bh] at h; exact h
                            clear p0_160
                            have hu3 := tX_up (B := B) (n := (v 3)) (q := (tX B (v 3) (tX B (v 3) qq))) (by have h9 := (not_congr (tK_end (B := B) (n := (v 3)) (q := (tX B (v 3) (tX B (v 3) qq))))).mp (by omega); omega)
                            refine lv_goto (tgt := 7) hx hb dX11_readKeys_256 (by decide) ?_
                            exact ih_7 z_158 ((tX B (v 3) (tX B (v 3) (tX B (v 3) qq)))) w6_133 w7_133 w8_160 w9_160 w10_160 w11_160 (y17_7 + 1) (u1 c14_7 y17_7 2) (u1 c16_7 y17_7 z_12) b0_160 _ _ _ (by omega) (by omega) hN3 (by omega) (by first | (intro h; exfalso; omega) | exact fun _ => (by rw [← hJ3.get (by omega), kys_go (B := B) (n := (v 3)) (p := qq) (c := y17_7) (by omega) (by omega) (by rw [hky]) (by rw [hky]; show tK B (v 3) (tX B (v 3) (tX B (v 3) qq)) = 44; omega), hky])) (by first | (intro h; exfalso; omega) | exact fun _ => (by rw [← hJ3.get (by omega), kys_stop (B := B) (n := (v 3)) (p := qq) (c := y17_7) (by omega) (by omega) (Or.inr (by rw [hky]; show tK B (v 3) (tX B (v 3) (tX B (v 3) qq)) ≠ 44; omega)), hky])) (by first | (intro h; exfalso; omega) | exact fun _ => (by rw [kyP_s (by omega), ← hC1.get (by omega)])) (by first | (intro h; exfalso; omega) | exact fun _ => (by have h8 := hC2.get (by omega); rw [kyN_go (x := y17_7) (by omega) (by omega)] at h8; omega)) (by first | (intro h; exfalso; omega) | exact fun _ => (by have h8 := hC2.get (by omega); rw [kyN_end (x := y17_7) (by omega) (by omega)] at h8; omega)) (kyM_put hC4.get (by omega) (by rw [← hC1.get (by omega)]; omega) (by rw [← hC1.get (by omega)]; first | (rw [if_pos (by omega)]; omega) | (rw [if_neg (by omega)]; omega))) hP hS (lv_sub hl [3, 0] rfl)
                        · exfalso; omega
                    · have v_141 := p1_141.mp (show z_141 = 1 by omega)
                      clear p1_141
                      refine lv_iconst (v := iI 1) hx hb dX11_readKeys_141 rfl ?_
                      refine lv_goto (tgt := 197) hx hb dX11_readKeys_142 (by decide) ?_
                      refine lv_istore_n (lv' := [(3, .int (iI 1)), (2, .int (iI z_12)), (0, .ref (ad 0)), (1, .int (iI x1))]) hx hb dX11_readKeys_197 rfl hl (by decide) rfl (fun ls hl => ?_)
                      refine lv_iload_n hx hb dX11_readKeys_198 rfl (lv_at hl 0 rfl) ?_
                      refine gi_zge (tgt := 207) hx hb dX11_readKeys_199 (by decide) (by decide) (fun c_161 => ?_) (fun c_161 => ?_)
                      · refine lv_aload_n hx hb dX11_readKeys_207 rfl (lv_at hl 2 rfl) ?_
                        refine mdG_newUp C hP mF_X11_67 dX11_readKeys_208 ?_
                        refine lv_aload_n hx hb dX11_readKeys_211 rfl (lv_at hl 2 rfl) ?_
                        refine mdG_newKeys C hP mF_X11_214 dX11_readKeys_212 ?_
                        show W p l e (gRm 2 42) s m args below meth c _ _ 0 0 Q (F0 m 215 ls [.int (iI y17_7), .ref (ad 17)])
                        refine lv_iload_n hx hb dX11_readKeys_215 rfl (lv_at hl 1 rfl) ?_
                        refine mdS_newUp (f1 := (va_up (va_up f 14 c14_7) 16 (u1 c16_7 y17_7 z_12))) C hP hD hS (by omega) (by omega) (by omega) (by omega) rfl (Or.inr (gF_up (V := mdV) (F := mdF) (gF_up (V := mdV) (F := mdF) (gR_up (V := mdV) (F := mdF) (gR_up (V := mdV) (F := mdF) (gR_up (V := mdV) (F := mdF) (gR_up (V := mdV) (F := mdF) (gR_up (V := mdV) (F := mdF) (gR_up (V := mdV) (F := mdF) (gR_up (V := mdV) (F := mdF) ⟨hok.1, hok.2⟩ 6 (hP.2.1 6)) 7 (hP.2.1 7)) 8 (hP.2.1 8)) 9 (hP.2.1 9)) 10 (hP.2.1 10)) 11 (hP.2.1 11)) 17 (hP.2.1 17)) 14 (hP.2.2 14)) 16 (u1_rng (hP.2.2 16) (show 0 ≤ z_12 ∧ z_12 ≤ 1 from (by omega))))) dX11_readKeys_216 (fun H locs hP hS => ?_)
                        refine lv_aload_n hx hb dX11_readKeys_217 rfl (lv_at hl 2 rfl) ?_
                        refine mdG_newKey C hP mF_X11_60 dX11_readKeys_218 ?_
                        refine lv_aload_n hx hb dX11_readKeys_221 rfl (lv_at hl 2 rfl) ?_
                        refine mdG_newKeys C hP mF_X11_214 dX11_readKeys_222 ?_
                        show W p l e (gRm 2 42) s m args below meth c _ _ 0 0 Q (F0 m 225 ls [.int (iI y17_7), .ref (ad 15)])
                        refine lv_iload_n hx hb dX11_readKeys_225 rfl (lv_at hl 0 rfl) ?_
                        refine mdS_newKey (f1 := (va_up (va_up f 14 (u1 c14_7 y17_7 1)) 16 (u1 c16_7 y17_7 z_12))) C hP hD hS (by omega) (by omega) (by decide) rfl (Or.inr (gF_up (V := mdV) (F := mdF) (gF_up (V := mdV) (F := mdF) (gR_up (V := mdV) (F := mdF) (gR_up (V := mdV) (F := mdF) (gR_up (V := mdV) (F := mdF) (gR_up (V := mdV) (F := mdF) (gR_up (V := mdV) (F := mdF) (gR_up (V := mdV) (F := mdF) (gR_up (V := mdV) (F := mdF) ⟨hok.1, hok.2⟩ 6 (hP.2.1 6)) 7 (hP.2.1 7)) 8 (hP.2.1 8)) 9 (hP.2.1 9)) 10 (hP.2.1 10)) 11 (hP.2.1 11)) 17 (hP.2.1 17)) 14 (u1_rng (hP.2.2 14) (show 0 ≤ 1 ∧ 1 ≤ 3 from (by decide)))) 16 (hP.2.2 16))) dX11_readKeys_226 (fun H locs hP hS => ?_)
                        refine lv_aload_n hx hb dX11_readKeys_227 rfl (lv_at hl 2 rfl) ?_
                        refine lv_dup hx hb dX11_readKeys_228 rfl ?_
                        refine mdG_newKeys C hP mF_X11_214 dX11_readKeys_229 ?_
                        show W p l e (gRm 2 42) s m args below meth c _ _ 0 0 Q (F0 m 232 ls [.int (iI y17_7), .ref (ad 0)])
                        refine lv_iconst (v := iI 1) hx hb dX11_readKeys_232 rfl ?_
                        refine gi_add (z := (y17_7 + 1)) hx hb dX11_readKeys_233 rfl ?_
                        refine mdP_newKeys (v1 := (va_up (va_up (va_up (va_up (va_up (va_up (va_up v 6 w6_133) 7 w7_133) 8 w8_136) 9 w9_136) 10 w10_136) 11 w11_136) 17 (y17_7 + 1))) C hP hD hS mF_X11_214 (by omega) rfl (Or.inr (gF_up (V := mdV) (F := mdF) (gF_up (V := mdV) (F := mdF) (gR_up (V := mdV) (F := mdF) (gR_up (V := mdV) (F := mdF) (gR_up (V := mdV) (F := mdF) (gR_up (V := mdV) (F := mdF) (gR_up (V := mdV) (F := mdF) (gR_up (V := mdV) (F := mdF) (gR_up (V := mdV) (F := mdF) ⟨hok.1, hok.2⟩ 6 (hP.2.1 6)) 7 (hP.2.1 7)) 8 (hP.2.1 8)) 9 (hP.2.1 9)) 10 (hP.2.1 10)) 11 (hP.2.1 11)) 17 (show 0 ≤ (y17_7 + 1) ∧ (y17_7 + 1) ≤ 4 from by omega)) 14 (hP.2.2 14)) 16 (hP.2.2 16))) dX11_readKeys_234 (fun H locs hP hS => ?_)
                        refine lv_aload_n hx hb dX11_readKeys_237 rfl (lv_at hl 2 rfl) ?_
                        refine g_cv (As := []) (rest := []) (n := 0) C hml (n_next l D k A ad hD (va_up (va_up (va_up (va_up (va_up (va_up (va_up v 6 w6_133) 7 w7_133) 8 w8_136) 9 w9_136) 10 w10_136) 11 w11_136) 17 (y17_7 + 1)) (va_up (va_up f 14 (u1 c14_7 y17_7 1)) 16 (u1 c16_7 y17_7 z_12)) (va_up g 0 b0_136) B (show ∀ k, (f 0) k % 256 = B k from hB) (show 0 ≤ w10_136 ∧ w10_136 ≤ (v 3) from by omega)) mM_X11_201 mI_X11_next mE_X11_next mN_X11 mC_X11_next (by decide +kernel) 0 (ci := 11) rfl rfl hP hS (fun _ h => h) ⟨Nat.le_of_ble_eq_true rfl, Nat.le_of_ble_eq_true rfl⟩ ⟨Nat.zero_le _, Nat.zero_le _⟩ hl.1 rfl rfl (Nat.le_of_ble_eq_true rfl) dX11_readKeys_238 (fun r_162 v_162 f_162 g_162 H locs hq_162 hP _ hS => ?_)
                        obtain ⟨w8_162, w9_162, w10_162, w11_162, b0_162, rfl, rfl, rfl, rfl, p0_162⟩ := hq_162
                        show W p l e (gRm 2 42) s m args below meth c _ _ 0 0 Q (F0 m 241 ls [])
                        have hP : gWd D (mdT k ad) (va_up (va_up (va_up (va_up (va_up (va_up (va_up v 6 w6_133) 7 w7_133) 8 w8_162) 9 w9_162) 10 w10_162) 11 w11_162) 17 (y17_7 + 1)) (va_up (va_up f 14 (u1 c14_7 y17_7 1)) 16 (u1 c16_7 y17_7 z_12)) (va_up g 0 b0_162) H := ⟨hP.1, (gF_up (V := mdV) (F := mdF) (gF_up (V := mdV) (F := mdF) (gR_up (V := mdV) (F := mdF) (gR_up (V := mdV) (F := mdF) (gR_up (V := mdV) (F := mdF) (gR_up (V := mdV) (F := mdF) (gR_up (V := mdV) (F := mdF) (gR_up (V := mdV) (F := mdF) (gR_up (V := mdV) (F := mdF) ⟨hok.1, hok.2⟩ 6 (hP.2.1 6)) 7 (hP.2.1 7)) 8 (hP.2.1 8)) 9 (hP.2.1 9)) 10 (hP.2.1 10)) 11 (hP.2.1 11)) 17 (hP.2.1 17)) 14 (hP.2.2 14)) 16 (hP.2.2 16))⟩
                        replace p0_162 : mAt B (v 3) w9_162 w10_162 w8_162 w11_162 (b0_162 0) (run bW B (v 3) w10_136) := p0_162
                        have rw8_162 : 0 ≤ w8_162 ∧ w8_162 ≤ 4 := hP.2.1 8
                        have rw9_162 : 0 ≤ w9_162 ∧ w9_162 ≤ 700 := hP.2.1 9
                        have rw10_162 : 0 ≤ w10_162 ∧ w10_162 ≤ 700 := hP.2.1 10
                        have rw11_162 : 0 ≤ w11_162 ∧ w11_162 ≤ 999999 := hP.2.1 11
                        have hN2 : mAt B (v 3) w9_162 w10_162 w8_162 w11_162 (b0_162 0) (tX B (v 3) (tX B (v 3) qq)) := by have h := p0_162; rw [hN1.bh] at h; exact h
                        clear p0_162
                        have hu2 := tX_up (B := B) (n := (v 3)) (q := (tX B (v 3) qq)) (by have h9 := (not_congr (tK_end (B := B) (n := (v 3)) (q := (tX B (v 3) qq)))).mp (by omega); omega)
                        have hle2 := hN2.le
                        have hky : ky1 B (v 3) y17_7 qq = (0, tX B (v 3) (tX B (v 3) qq)) := ky1_d (by omega) (by omega) (by omega)
                        refine lv_aload_n hx hb dX11_readKeys_241 rfl (lv_at hl 2 rfl) ?_
                        refine lv_bipush (v := iI 44) hx hb dX11_readKeys_242 (by decide) ?_
                        refine g_cv (As := [.int (iI 44)]) (rest := []) (n := 1) C hml (n_isS l D k A ad hD (va_up (va_up (va_up (va_up (va_up (va_up (va_up v 6 w6_133) 7 w7_133) 8 w8_162) 9 w9_162) 10 w10_162) 11 w11_162) 17 (y17_7 + 1)) (va_up (va_up f 14 (u1 c14_7 y17_7 1)) 16 (u1 c16_7 y17_7 z_12)) (va_up g 0 b0_162) 44 B (tX B (v 3) (tX B (v 3) qq)) (by decide) (show mAt B (v 3) w9_162 w10_162 w8_162 w11_162 (b0_162 0) (tX B (v 3) (tX B (v 3) qq)) from hN2) (show 40 ≤ (44 : Int) ∧ (44 : Int) < 256 from by omega)) mM_X11_204 mI_X11_isSign mE_X11_isSign mN_X11 mC_X11_isSign (by decide +kernel) 0 (ci := 11) rfl rfl hP hS (fun _ h => h) ⟨Nat.le_of_ble_eq_true rfl, Nat.le_of_ble_eq_true rfl⟩ ⟨Nat.zero_le _, Nat.zero_le _⟩ hl.1 rfl rfl (Nat.le_of_ble_eq_true rfl) dX11_readKeys_244 (fun r_163 v_163 f_163 g_163 H locs hq_163 hP _ hS => ?_)
                        obtain ⟨z_163, rfl, rfl, rfl, rfl, p0_163, p1_163⟩ := hq_163
                        show W p l e (gRm 2 42) s m args below meth c _ _ 0 0 Q (F0 m 247 ls [.int (iI z_163)])
                        replace p0_163 : 0 ≤ z_163 ∧ z_163 ≤ 1 := p0_163
                        replace p1_163 : z_163 = 1 ↔ (tK B (v 3) (tX B (v 3) (tX B (v 3) qq))) = (44 : Int) := p1_163
                        refine lv_istore_n (lv' := [(1, .int (iI z_163)), (3, .int (iI 1)), (2, .int (iI z_12)), (0, .ref (ad 0))]) hx hb dX11_readKeys_247 rfl hl (by decide) rfl (fun ls hl => ?_)
                        refine lv_iload_n hx hb dX11_readKeys_248 rfl (lv_at hl 0 rfl) ?_
                        refine gi_zeq (tgt := 256) hx hb dX11_readKeys_249 (by decide) (by omega) (fun c_164 => ?_) (fun c_164 => ?_)
                        · have v_163 := mt p1_163.mpr (show ¬ z_163 = 1 by omega)
                          clear p1_163
                          refine lv_goto (tgt := 7) hx hb dX11_readKeys_256 (by decide) ?_
                          exact ih_7 z_163 ((tX B (v 3) (tX B (v 3) qq))) w6_133 w7_133 w8_162 w9_162 w10_162 w11_162 (y17_7 + 1) (u1 c14_7 y17_7 1) (u1 c16_7 y17_7 z_12) b0_162 _ _ _ (by omega) (by omega) hN2 (by omega) (by first | (intro h; exfalso; omega) | exact fun _ => (by rw [← hJ3.get (by omega), kys_go (B := B) (n := (v 3)) (p := qq) (c := y17_7) (by omega) (by omega) (by rw [hky]) (by rw [hky]; show tK B (v 3) (tX B (v 3) (tX B (v 3) qq)) = 44; omega), hky])) (by first | (intro h; exfalso; omega) | exact fun _ => (by rw [← hJ3.get (by omega), kys_stop (B := B) (n := (v 3)) (p := qq) (c := y17_7) (by omega) (by omega) (Or.inr (by rw [hky]; show tK B (v 3) (tX B (v 3) (tX B (v 3) qq)) ≠ 44; omega)), hky])) (by first | (intro h; exfalso; omega) | exact fun _ => (by rw [kyP_s (by omega), ← hC1.get (by omega)])) (by first | (intro h; exfalso; omega) | exact fun _ => (by have h8 := hC2.get (by omega); rw [kyN_go (x := y17_7) (by omega) (by omega)] at h8; omega)) (by first | (intro h; exfalso; omega) | exact fun _ => (by have h8 := hC2.get (by omega); rw [kyN_end (x := y17_7) (by omega) (by omega)] at h8; omega)) (kyM_put hC4.get (by omega) (by rw [← hC1.get (by omega)]; omega) (by rw [← hC1.get (by omega)]; first | (rw [if_pos (by omega)]; omega) | (rw [if_neg (by omega)]; omega))) hP hS (lv_sub hl [3, 0] rfl)
                        · have v_163 := p1_163.mp (show z_163 = 1 by omega)
                          clear p1_163
                          refine lv_aload_n hx hb dX11_readKeys_252 rfl (lv_at hl 3 rfl) ?_
                          refine g_cv (As := []) (rest := []) (n := 0) C hml (n_next l D k A ad hD (va_up (va_up (va_up (va_up (va_up (va_up (va_up v 6 w6_133) 7 w7_133) 8 w8_162) 9 w9_162) 10 w10_162) 11 w11_162) 17 (y17_7 + 1)) (va_up (va_up f 14 (u1 c14_7 y17_7 1)) 16 (u1 c16_7 y17_7 z_12)) (va_up g 0 b0_162) B (show ∀ k, (f 0) k % 256 = B k from hB) (show 0 ≤ w10_162 ∧ w10_162 ≤ (v 3) from by omega)) mM_X11_201 mI_X11_next mE_X11_next mN_X11 mC_X11_next (by decide +kernel) 0 (ci := 11) rfl rfl hP hS (fun _ h => h) ⟨Nat.le_of_ble_eq_true rfl, Nat.le_of_ble_eq_true rfl⟩ ⟨Nat.zero_le _, Nat.zero_le _⟩ hl.1 rfl rfl (Nat.le_of_ble_eq_true rfl) dX11_readKeys_253 (fun r_165 v_165 f_165 g_165 H locs hq_165 hP _ hS => ?_)
                          obtain ⟨w8_165, w9_165, w10_165, w11_165, b0_165, rfl, rfl, rfl, rfl, p0_165⟩ := hq_165
                          show W p l e (gRm 2 42) s m args below meth c _ _ 0 0 Q (F0 m 256 ls [])
                          have hP : gWd D (mdT k ad) (va_up (va_up (va_up (va_up (va_up (va_up (va_up v 6 w6_133) 7 w7_133) 8 w8_165) 9 w9_165) 10 w10_165) 11 w11_165) 17 (y17_7 + 1)) (va_up (va_up f 14 (u1 c14_7 y17_7 1)) 16 (u1 c16_7 y17_7 z_12)) (va_up g 0 b0_165) H := ⟨hP.1, (gF_up (V := mdV) (F := mdF) (gF_up (V := mdV) (F := mdF) (gR_up (V := mdV) (F := mdF) (gR_up (V := mdV) (F := mdF) (gR_up (V := mdV) (F := mdF) (gR_up (V := mdV) (F := mdF) (gR_up (V := mdV) (F := mdF) (gR_up (V := mdV) (F := mdF) (gR_up (V := mdV) (F := mdF) ⟨hok.1, hok.2⟩ 6 (hP.2.1 6)) 7 (hP.2.1 7)) 8 (hP.2.1 8)) 9 (hP.2.1 9)) 10 (hP.2.1 10)) 11 (hP.2.1 11)) 17 (hP.2.1 17)) 14 (hP.2.2 14)) 16 (hP.2.2 16))⟩
                          replace p0_165 : mAt B (v 3) w9_165 w10_165 w8_165 w11_165 (b0_165 0) (run bW B (v 3) w10_162) := p0_165
                          have rw8_165 : 0 ≤ w8_165 ∧ w8_165 ≤ 4 := hP.2.1 8
                          have rw9_165 : 0 ≤ w9_165 ∧ w9_165 ≤ 700 := hP.2.1 9
                          have rw10_165 : 0 ≤ w10_165 ∧ w10_165 ≤ 700 := hP.2.1 10
                          have rw11_165 : 0 ≤ w11_165 ∧ w11_165 ≤ 999999 := hP.2.1 11
                          have hN3 : mAt B (v 3) w9_165 w10_165 w8_165 w11_165 (b0_165 0) (tX B (v 3) (tX B (v 3) (tX B (v 3) qq))) := by have h := p0_165; rw [hN2.bh] at h; exact h
                          clear p0_165
                          have hu3 := tX_up (B := B) (n := (v 3)) (q := (tX B (v 3) (tX B (v 3) qq))) (by have h9 := (not_congr (tK_end (B := B) (n := (v 3)) (q := (tX B (v 3) (tX B (v 3) qq))))).mp (by omega); omega)
                          refine lv_goto (tgt := 7) hx hb dX11_readKeys_256 (by decide) ?_
                          exact ih_7 z_163 ((tX B (v 3) (tX B (v 3) (tX B (v 3) qq)))) w6_133 w7_133 w8_165 w9_165 w10_165 w11_165 (y17_7 + 1) (u1 c14_7 y17_7 1) (u1 c16_7 y17_7 z_12) b0_165 _ _ _ (by omega) (by omega) hN3 (by omega) (by first | (intro h; exfalso; omega) | exact fun _ => (by rw [← hJ3.get (by omega), kys_go (B := B) (n := (v 3)) (p := qq) (c := y17_7) (by omega) (by omega) (by rw [hky]) (by rw [hky]; show tK B (v 3) (tX B (v 3) (tX B (v 3) qq)) = 44; omega), hky])) (by first | (intro h; exfalso; omega) | exact fun _ => (by rw [← hJ3.get (by omega), kys_stop (B := B) (n := (v 3)) (p := qq) (c := y17_7) (by omega) (by omega) (Or.inr (by rw [hky]; show tK B (v 3) (tX B (v 3) (tX B (v 3) qq)) ≠ 44; omega)), hky])) (by first | (intro h; exfalso; omega) | exact fun _ => (by rw [kyP_s (by omega), ← hC1.get (by omega)])) (by first | (intro h; exfalso; omega) | exact fun _ => (by have h8 := hC2.get (by omega); rw [kyN_go (x := y17_7) (by omega) (by omega)] at h8; omega)) (by first | (intro h; exfalso; omega) | exact fun _ => (by have h8 := hC2.get (by omega); rw [kyN_end (x := y17_7) (by omega) (by omega)] at h8; omega)) (kyM_put hC4.get (by omega) (by rw [← hC1.get (by omega)]; omega) (by rw [← hC1.get (by omega)]; first | (rw [if_pos (by omega)]; omega) | (rw [if_neg (by omega)]; omega))) hP hS (lv_sub hl [3, 0] rfl)
                      · exfalso; omega
                  · have v_138 := p1_138.mp (show z_138 = 1 by omega)
                    clear p1_138
                    refine lv_iconst (v := iI 0) hx hb dX11_readKeys_116 rfl ?_
                    refine lv_goto (tgt := 197) hx hb dX11_readKeys_117 (by decide) ?_
                    refine lv_istore_n (lv' := [(3, .int (iI 0)), (2, .int (iI z_12)), (0, .ref (ad 0)), (1, .int (iI x1))]) hx hb dX11_readKeys_197 rfl hl (by decide) rfl (fun ls hl => ?_)
                    refine lv_iload_n hx hb dX11_readKeys_198 rfl (lv_at hl 0 rfl) ?_
                    refine gi_zge (tgt := 207) hx hb dX11_readKeys_199 (by decide) (by decide) (fun c_166 => ?_) (fun c_166 => ?_)
                    · refine lv_aload_n hx hb dX11_readKeys_207 rfl (lv_at hl 2 rfl) ?_
                      refine mdG_newUp C hP mF_X11_67 dX11_readKeys_208 ?_
                      refine lv_aload_n hx hb dX11_readKeys_211 rfl (lv_at hl 2 rfl) ?_
                      refine mdG_newKeys C hP mF_X11_214 dX11_readKeys_212 ?_
                      show W p l e (gRm 2 42) s m args below meth c _ _ 0 0 Q (F0 m 215 ls [.int (iI y17_7), .ref (ad 17)])
                      refine lv_iload_n hx hb dX11_readKeys_215 rfl (lv_at hl 1 rfl) ?_
                      refine mdS_newUp (f1 := (va_up (va_up f 14 c14_7) 16 (u1 c16_7 y17_7 z_12))) C hP hD hS (by omega) (by omega) (by omega) (by omega) rfl (Or.inr (gF_up (V := mdV) (F := mdF) (gF_up (V := mdV) (F := mdF) (gR_up (V := mdV) (F := mdF) (gR_up (V := mdV) (F := mdF) (gR_up (V := mdV) (F := mdF) (gR_up (V := mdV) (F := mdF) (gR_up (V := mdV) (F := mdF) (gR_up (V := mdV) (F := mdF) (gR_up (V := mdV) (F := mdF) ⟨hok.1, hok.2⟩ 6 (hP.2.1 6)) 7 (hP.2.1 7)) 8 (hP.2.1 8)) 9 (hP.2.1 9)) 10 (hP.2.1 10)) 11 (hP.2.1 11)) 17 (hP.2.1 17)) 14 (hP.2.2 14)) 16 (u1_rng (hP.2.2 16) (show 0 ≤ z_12 ∧ z_12 ≤ 1 from (by omega))))) dX11_readKeys_216 (fun H locs hP hS => ?_)
                      refine lv_aload_n hx hb dX11_readKeys_217 rfl (lv_at hl 2 rfl) ?_
                      refine mdG_newKey C hP mF_X11_60 dX11_readKeys_218 ?_
                      refine lv_aload_n hx hb dX11_readKeys_221 rfl (lv_at hl 2 rfl) ?_
                      refine mdG_newKeys C hP mF_X11_214 dX11_readKeys_222 ?_
                      show W p l e (gRm 2 42) s m args below meth c _ _ 0 0 Q (F0 m 225 ls [.int (iI y17_7), .ref (ad 15)])
                      refine lv_iload_n hx hb dX11_readKeys_225 rfl (lv_at hl 0 rfl) ?_
                      refine mdS_newKey (f1 := (va_up (va_up f 14 (u1 c14_7 y17_7 0)) 16 (u1 c16_7 y17_7 z_12))) C hP hD hS (by omega) (by omega) (by decide) rfl (Or.inr (gF_up (V := mdV) (F := mdF) (gF_up (V := mdV) (F := mdF) (gR_up (V := mdV) (F := mdF) (gR_up (V := mdV) (F := mdF) (gR_up (V := mdV) (F := mdF) (gR_up (V := mdV) (F := mdF) (gR_up (V := mdV) (F := mdF) (gR_up (V := mdV) (F := mdF) (gR_up (V := mdV) (F := mdF) ⟨hok.1, hok.2⟩ 6 (hP.2.1 6)) 7 (hP.2.1 7)) 8 (hP.2.1 8)) 9 (hP.2.1 9)) 10 (hP.2.1 10)) 11 (hP.2.1 11)) 17 (hP.2.1 17)) 14 (u1_rng (hP.2.2 14) (show 0 ≤ 0 ∧ 0 ≤ 3 from (by decide)))) 16 (hP.2.2 16))) dX11_readKeys_226 (fun H locs hP hS => ?_)
                      refine lv_aload_n hx hb dX11_readKeys_227 rfl (lv_at hl 2 rfl) ?_
                      refine lv_dup hx hb dX11_readKeys_228 rfl ?_
                      refine mdG_newKeys C hP mF_X11_214 dX11_readKeys_229 ?_
                      show W p l e (gRm 2 42) s m args below meth c _ _ 0 0 Q (F0 m 232 ls [.int (iI y17_7), .ref (ad 0)])
                      refine lv_iconst (v := iI 1) hx hb dX11_readKeys_232 rfl ?_
                      refine gi_add (z := (y17_7 + 1)) hx hb dX11_readKeys_233 rfl ?_
                      refine mdP_newKeys (v1 := (va_up (va_up (va_up (va_up (va_up (va_up (va_up v 6 w6_133) 7 w7_133) 8 w8_136) 9 w9_136) 10 w10_136) 11 w11_136) 17 (y17_7 + 1))) C hP hD hS mF_X11_214 (by omega) rfl (Or.inr (gF_up (V := mdV) (F := mdF) (gF_up (V := mdV) (F := mdF) (gR_up (V := mdV) (F := mdF) (gR_up (V := mdV) (F := mdF) (gR_up (V := mdV) (F := mdF) (gR_up (V := mdV) (F := mdF) (gR_up (V := mdV) (F := mdF) (gR_up (V := mdV) (F := mdF) (gR_up (V := mdV) (F := mdF) ⟨hok.1, hok.2⟩ 6 (hP.2.1 6)) 7 (hP.2.1 7)) 8 (hP.2.1 8)) 9 (hP.2.1 9)) 10 (hP.2.1 10)) 11 (hP.2.1 11)) 17 (show 0 ≤ (y17_7 + 1) ∧ (y17_7 + 1) ≤ 4 from by omega)) 14 (hP.2.2 14)) 16 (hP.2.2 16))) dX11_readKeys_234 (fun H locs hP hS => ?_)
                      refine lv_aload_n hx hb dX11_readKeys_237 rfl (lv_at hl 2 rfl) ?_
                      refine g_cv (As := []) (rest := []) (n := 0) C hml (n_next l D k A ad hD (va_up (va_up (va_up (va_up (va_up (va_up (va_up v 6 w6_133) 7 w7_133) 8 w8_136) 9 w9_136) 10 w10_136) 11 w11_136) 17 (y17_7 + 1)) (va_up (va_up f 14 (u1 c14_7 y17_7 0)) 16 (u1 c16_7 y17_7 z_12)) (va_up g 0 b0_136) B (show ∀ k, (f 0) k % 256 = B k from hB) (show 0 ≤ w10_136 ∧ w10_136 ≤ (v 3) from by omega)) mM_X11_201 mI_X11_next mE_X11_next mN_X11 mC_X11_next (by decide +kernel) 0 (ci := 11) rfl rfl hP hS (fun _ h => h) ⟨Nat.le_of_ble_eq_true rfl, Nat.le_of_ble_eq_true rfl⟩ ⟨Nat.zero_le _, Nat.zero_le _⟩ hl.1 rfl rfl (Nat.le_of_ble_eq_true rfl) dX11_readKeys_238 (fun r_167 v_167 f_167 g_167 H locs hq_167 hP _ hS => ?_)
                      obtain ⟨w8_167, w9_167, w10_167, w11_167, b0_167, rfl, rfl, rfl, rfl, p0_167⟩ := hq_167
                      show W p l e (gRm 2 42) s m args below meth c _ _ 0 0 Q (F0 m 241 ls [])
                      have hP : gWd D (mdT k ad) (va_up (va_up (va_up (va_up (va_up (va_up (va_up v 6 w6_133) 7 w7_133) 8 w8_167) 9 w9_167) 10 w10_167) 11 w11_167) 17 (y17_7 + 1)) (va_up (va_up f 14 (u1 c14_7 y17_7 0)) 16 (u1 c16_7 y17_7 z_12)) (va_up g 0 b0_167) H := ⟨hP.1, (gF_up (V := mdV) (F := mdF) (gF_up (V := mdV) (F := mdF) (gR_up (V := mdV) (F := mdF) (gR_up (V := mdV) (F := mdF) (gR_up (V := mdV) (F := mdF) (gR_up (V := mdV) (F := mdF) (gR_up (V := mdV) (F := mdF) (gR_up (V := mdV) (F := mdF) (gR_up (V := mdV) (F := mdF) ⟨hok.1, hok.2⟩ 6 (hP.2.1 6)) 7 (hP.2.1 7)) 8 (hP.2.1 8)) 9 (hP.2.1 9)) 10 (hP.2.1 10)) 11 (hP.2.1 11)) 17 (hP.2.1 17)) 14 (hP.2.2 14)) 16 (hP.2.2 16))⟩
                      replace p0_167 : mAt B (v 3) w9_167 w10_167 w8_167 w11_167 (b0_167 0) (run bW B (v 3) w10_136) := p0_167
                      have rw8_167 : 0 ≤ w8_167 ∧ w8_167 ≤ 4 := hP.2.1 8
                      have rw9_167 : 0 ≤ w9_167 ∧ w9_167 ≤ 700 := hP.2.1 9
                      have rw10_167 : 0 ≤ w10_167 ∧ w10_167 ≤ 700 := hP.2.1 10
                      have rw11_167 : 0 ≤ w11_167 ∧ w11_167 ≤ 999999 := hP.2.1 11
                      have hN2 : mAt B (v 3) w9_167 w10_167 w8_167 w11_167 (b0_167 0) (tX B (v 3) (tX B (v 3) qq)) := by have h := p0_167; rw [hN1.bh] at h; exact h
                      clear p0_167
                      have hu2 := tX_up (B := B) (n := (v 3)) (q := (tX B (v 3) qq)) (by have h9 := (not_congr (tK_end (B := B) (n := (v 3)) (q := (tX B (v 3) qq)))).mp (by omega); omega)
                      have hle2 := hN2.le
                      have hky : ky1 B (v 3) y17_7 qq = (0, tX B (v 3) (tX B (v 3) qq)) := ky1_d (by omega) (by omega) (by omega)
                      refine lv_aload_n hx hb dX11_readKeys_241 rfl (lv_at hl 2 rfl) ?_
                      refine lv_bipush (v := iI 44) hx hb dX11_readKeys_242 (by decide) ?_
                      refine g_cv (As := [.int (iI 44)]) (rest := []) (n := 1) C hml (n_isS l D k A ad hD (va_up (va_up (va_up (va_up (va_up (va_up (va_up v 6 w6_133) 7 w7_133) 8 w8_167) 9 w9_167) 10 w10_167) 11 w11_167) 17 (y17_7 + 1)) (va_up (va_up f 14 (u1 c14_7 y17_7 0)) 16 (u1 c16_7 y17_7 z_12)) (va_up g 0 b0_167) 44 B (tX B (v 3) (tX B (v 3) qq)) (by decide) (show mAt B (v 3) w9_167 w10_167 w8_167 w11_167 (b0_167 0) (tX B (v 3) (tX B (v 3) qq)) from hN2) (show 40 ≤ (44 : Int) ∧ (44 : Int) < 256 from by omega)) mM_X11_204 mI_X11_isSign mE_X11_isSign mN_X11 mC_X11_isSign (by decide +kernel) 0 (ci := 11) rfl rfl hP hS (fun _ h => h) ⟨Nat.le_of_ble_eq_true rfl, Nat.le_of_ble_eq_true rfl⟩ ⟨Nat.zero_le _, Nat.zero_le _⟩ hl.1 rfl rfl (Nat.le_of_ble_eq_true rfl) dX11_readKeys_244 (fun r_168 v_168 f_168 g_168 H locs hq_168 hP _ hS => ?_)
                      obtain ⟨z_168, rfl, rfl, rfl, rfl, p0_168, p1_168⟩ := hq_168
                      show W p l e (gRm 2 42) s m args below meth c _ _ 0 0 Q (F0 m 247 ls [.int (iI z_168)])
                      replace p0_168 : 0 ≤ z_168 ∧ z_168 ≤ 1 := p0_168
                      replace p1_168 : z_168 = 1 ↔ (tK B (v 3) (tX B (v 3) (tX B (v 3) qq))) = (44 : Int) := p1_168
                      refine lv_istore_n (lv' := [(1, .int (iI z_168)), (3, .int (iI 0)), (2, .int (iI z_12)), (0, .ref (ad 0))]) hx hb dX11_readKeys_247 rfl hl (by decide) rfl (fun ls hl => ?_)
                      refine lv_iload_n hx hb dX11_readKeys_248 rfl (lv_at hl 0 rfl) ?_
                      refine gi_zeq (tgt := 256) hx hb dX11_readKeys_249 (by decide) (by omega) (fun c_169 => ?_) (fun c_169 => ?_)
                      · have v_168 := mt p1_168.mpr (show ¬ z_168 = 1 by omega)
                        clear p1_168
                        refine lv_goto (tgt := 7) hx hb dX11_readKeys_256 (by decide) ?_
                        exact ih_7 z_168 ((tX B (v 3) (tX B (v 3) qq))) w6_133 w7_133 w8_167 w9_167 w10_167 w11_167 (y17_7 + 1) (u1 c14_7 y17_7 0) (u1 c16_7 y17_7 z_12) b0_167 _ _ _ (by omega) (by omega) hN2 (by omega) (by first | (intro h; exfalso; omega) | exact fun _ => (by rw [← hJ3.get (by omega), kys_go (B := B) (n := (v 3)) (p := qq) (c := y17_7) (by omega) (by omega) (by rw [hky]) (by rw [hky]; show tK B (v 3) (tX B (v 3) (tX B (v 3) qq)) = 44; omega), hky])) (by first | (intro h; exfalso; omega) | exact fun _ => (by rw [← hJ3.get (by omega), kys_stop (B := B) (n := (v 3)) (p := qq) (c := y17_7) (by omega) (by omega) (Or.inr (by rw [hky]; show tK B (v 3) (tX B (v 3) (tX B (v 3) qq)) ≠ 44; omega)), hky])) (by first | (intro h; exfalso; omega) | exact fun _ => (by rw [kyP_s (by omega), ← hC1.get (by omega)])) (by first | (intro h; exfalso; omega) | exact fun _ => (by have h8 := hC2.get (by omega); rw [kyN_go (x := y17_7) (by omega) (by omega)] at h8; omega)) (by first | (intro h; exfalso; omega) | exact fun _ => (by have h8 := hC2.get (by omega); rw [kyN_end (x := y17_7) (by omega) (by omega)] at h8; omega)) (kyM_put hC4.get (by omega) (by rw [← hC1.get (by omega)]; omega) (by rw [← hC1.get (by omega)]; first | (rw [if_pos (by omega)]; omega) | (rw [if_neg (by omega)]; omega))) hP hS (lv_sub hl [3, 0] rfl)
                      · have v_168 := p1_168.mp (show z_168 = 1 by omega)
                        clear p1_168
                        refine lv_aload_n hx hb dX11_readKeys_252 rfl (lv_at hl 3 rfl) ?_
                        refine g_cv (As := []) (rest := []) (n := 0) C hml (n_next l D k A ad hD (va_up (va_up (va_up (va_up (va_up (va_up (va_up v 6 w6_133) 7 w7_133) 8 w8_167) 9 w9_167) 10 w10_167) 11 w11_167) 17 (y17_7 + 1)) (va_up (va_up f 14 (u1 c14_7 y17_7 0)) 16 (u1 c16_7 y17_7 z_12)) (va_up g 0 b0_167) B (show ∀ k, (f 0) k % 256 = B k from hB) (show 0 ≤ w10_167 ∧ w10_167 ≤ (v 3) from by omega)) mM_X11_201 mI_X11_next mE_X11_next mN_X11 mC_X11_next (by decide +kernel) 0 (ci := 11) rfl rfl hP hS (fun _ h => h) ⟨Nat.le_of_ble_eq_true rfl, Nat.le_of_ble_eq_true rfl⟩ ⟨Nat.zero_le _, Nat.zero_le _⟩ hl.1 rfl rfl (Nat.le_of_ble_eq_true rfl) dX11_readKeys_253 (fun r_170 v_170 f_170 g_170 H locs hq_170 hP _ hS => ?_)
                        obtain ⟨w8_170, w9_170, w10_170, w11_170, b0_170, rfl, rfl, rfl, rfl, p0_170⟩ := hq_170
                        show W p l e (gRm 2 42) s m args below meth c _ _ 0 0 Q (F0 m 256 ls [])
                        have hP : gWd D (mdT k ad) (va_up (va_up (va_up (va_up (va_up (va_up (va_up v 6 w6_133) 7 w7_133) 8 w8_170) 9 w9_170) 10 w10_170) 11 w11_170) 17 (y17_7 + 1)) (va_up (va_up f 14 (u1 c14_7 y17_7 0)) 16 (u1 c16_7 y17_7 z_12)) (va_up g 0 b0_170) H := ⟨hP.1, (gF_up (V := mdV) (F := mdF) (gF_up (V := mdV) (F := mdF) (gR_up (V := mdV) (F := mdF) (gR_up (V := mdV) (F := mdF) (gR_up (V := mdV) (F := mdF) (gR_up (V := mdV) (F := mdF) (gR_up (V := mdV) (F := mdF) (gR_up (V := mdV) (F := mdF) (gR_up (V := mdV) (F := mdF) ⟨hok.1, hok.2⟩ 6 (hP.2.1 6)) 7 (hP.2.1 7)) 8 (hP.2.1 8)) 9 (hP.2.1 9)) 10 (hP.2.1 10)) 11 (hP.2.1 11)) 17 (hP.2.1 17)) 14 (hP.2.2 14)) 16 (hP.2.2 16))⟩
                        replace p0_170 : mAt B (v 3) w9_170 w10_170 w8_170 w11_170 (b0_170 0) (run bW B (v 3) w10_167) := p0_170
                        have rw8_170 : 0 ≤ w8_170 ∧ w8_170 ≤ 4 := hP.2.1 8
                        have rw9_170 : 0 ≤ w9_170 ∧ w9_170 ≤ 700 := hP.2.1 9
                        have rw10_170 : 0 ≤ w10_170 ∧ w10_170 ≤ 700 := hP.2.1 10
                        have rw11_170 : 0 ≤ w11_170 ∧ w11_170 ≤ 999999 := hP.2.1 11
                        have hN3 : mAt B (v 3) w9_170 w10_170 w8_170 w11_170 (b0_170 0) (tX B (v 3) (tX B (v 3) (tX B (v 3) qq))) := by have h := p0_170; rw [hN2.bh] at h; exact h
                        clear p0_170
                        have hu3 := tX_up (B := B) (n := (v 3)) (q := (tX B (v 3) (tX B (v 3) qq))) (by have h9 := (not_congr (tK_end (B := B) (n := (v 3)) (q := (tX B (v 3) (tX B (v 3) qq))))).mp (by omega); omega)
                        refine lv_goto (tgt := 7) hx hb dX11_readKeys_256 (by decide) ?_
                        exact ih_7 z_168 ((tX B (v 3) (tX B (v 3) (tX B (v 3) qq)))) w6_133 w7_133 w8_170 w9_170 w10_170 w11_170 (y17_7 + 1) (u1 c14_7 y17_7 0) (u1 c16_7 y17_7 z_12) b0_170 _ _ _ (by omega) (by omega) hN3 (by omega) (by first | (intro h; exfalso; omega) | exact fun _ => (by rw [← hJ3.get (by omega), kys_go (B := B) (n := (v 3)) (p := qq) (c := y17_7) (by omega) (by omega) (by rw [hky]) (by rw [hky]; show tK B (v 3) (tX B (v 3) (tX B (v 3) qq)) = 44; omega), hky])) (by first | (intro h; exfalso; omega) | exact fun _ => (by rw [← hJ3.get (by omega), kys_stop (B := B) (n := (v 3)) (p := qq) (c := y17_7) (by omega) (by omega) (Or.inr (by rw [hky]; show tK B (v 3) (tX B (v 3) (tX B (v 3) qq)) ≠ 44; omega)), hky])) (by first | (intro h; exfalso; omega) | exact fun _ => (by rw [kyP_s (by omega), ← hC1.get (by omega)])) (by first | (intro h; exfalso; omega) | exact fun _ => (by have h8 := hC2.get (by omega); rw [kyN_go (x := y17_7) (by omega) (by omega)] at h8; omega)) (by first | (intro h; exfalso; omega) | exact fun _ => (by have h8 := hC2.get (by omega); rw [kyN_end (x := y17_7) (by omega) (by omega)] at h8; omega)) (kyM_put hC4.get (by omega) (by rw [← hC1.get (by omega)]; omega) (by rw [← hC1.get (by omega)]; first | (rw [if_pos (by omega)]; omega) | (rw [if_neg (by omega)]; omega))) hP hS (lv_sub hl [3, 0] rfl)
                    · exfalso; omega
                · exact g_vret hQ C hr hlocks hP hS dX11_readKeys_91 ⟨w6_133, w7_133, y8_7, y9_7, y10_7, y11_7, y17_7, c14_7, c16_7, d0_7, rfl, rfl, rfl, rfl, (by first | exact oM_bad (by rw [← hJ3.get (by omega), kys_stop (c := y17_7) (by omega) (by omega) (Or.inl (by rw [ky1_a (by omega)]; show _ ≠ (0 : Int); omega))]; exact ky1_a (by omega)) (by omega) (by omega) hM | exact oM_bad (by rw [← hJ3.get (by omega), kys_stop (c := y17_7) (by omega) (by omega) (Or.inl (by rw [ky1_b (by omega) (by omega)]; show _ ≠ (0 : Int); omega))]; exact ky1_b (by omega) (by omega)) (by omega) (by omega) hM), (by intro h; exfalso; omega)⟩
            · have v_92 := mt p1_92.mpr (show ¬ z_92 = 1 by omega)
              clear p1_92
              refine lv_aload_n hx hb dX11_readKeys_60 rfl (lv_at hl 1 rfl) ?_
              refine g_cv (As := []) (rest := []) (n := 0) C hml (n_wrC l D k A ad hD (va_up (va_up (va_up (va_up (va_up (va_up (va_up v 6 y6_7) 7 y7_7) 8 y8_7) 9 y9_7) 10 y10_7) 11 y11_7) 17 y17_7) (va_up (va_up f 14 c14_7) 16 c16_7) (va_up g 0 d0_7) B qq (show mAt B (v 3) y9_7 y10_7 y8_7 y11_7 (d0_7 0) qq from hM)) mM_X11_198 mI_X11_wrong mE_X11_wrong mN_X11 mC_X11_wrong (by decide +kernel) 0 (ci := 11) rfl rfl hP hS (fun _ h => h) ⟨Nat.le_of_ble_eq_true rfl, Nat.le_of_ble_eq_true rfl⟩ ⟨Nat.zero_le _, Nat.zero_le _⟩ hl.1 rfl rfl (Nat.le_of_ble_eq_true rfl) dX11_readKeys_61 (fun r_171 v_171 f_171 g_171 H locs hq_171 hP _ hS => ?_)
              obtain ⟨w6_171, w7_171, rfl, rfl, rfl, rfl, p0_171, p1_171⟩ := hq_171
              show W p l e (gRm 2 42) s m args below meth c _ _ 0 0 Q (F0 m 64 ls [])
              have hP : gWd D (mdT k ad) (va_up (va_up (va_up (va_up (va_up (va_up (va_up v 6 w6_171) 7 w7_171) 8 y8_7) 9 y9_7) 10 y10_7) 11 y11_7) 17 y17_7) (va_up (va_up f 14 c14_7) 16 c16_7) (va_up g 0 d0_7) H := ⟨hP.1, (gF_up (V := mdV) (F := mdF) (gF_up (V := mdV) (F := mdF) (gR_up (V := mdV) (F := mdF) (gR_up (V := mdV) (F := mdF) (gR_up (V := mdV) (F := mdF) (gR_up (V := mdV) (F := mdF) (gR_up (V := mdV) (F := mdF) (gR_up (V := mdV) (F := mdF) (gR_up (V := mdV) (F := mdF) ⟨hok.1, hok.2⟩ 6 (hP.2.1 6)) 7 (hP.2.1 7)) 8 (hP.2.1 8)) 9 (hP.2.1 9)) 10 (hP.2.1 10)) 11 (hP.2.1 11)) 17 (hP.2.1 17)) 14 (hP.2.2 14)) 16 (hP.2.2 16))⟩
              replace p0_171 : y6_7 = 0 → w6_171 = (fk B (v 3) qq) ∧ w7_171 = qq := p0_171
              replace p1_171 : 0 < y6_7 → w6_171 = y6_7 ∧ w7_171 = y7_7 := p1_171
              have rw6_171 : 0 ≤ w6_171 ∧ w6_171 ≤ 5 := hP.2.1 6
              have rw7_171 : 0 ≤ w7_171 ∧ w7_171 ≤ 700 := hP.2.1 7
              first | replace p0_171 := p0_171 (by omega) | clear p0_171
              first | replace p1_171 := p1_171 (by omega) | clear p1_171
              refine lv_goto (tgt := 84) hx hb dX11_readKeys_64 (by decide) ?_
              refine lv_aload_n hx hb dX11_readKeys_84 rfl (lv_at hl 1 rfl) ?_
              refine mdG_bad C hP mF_X11_188 dX11_readKeys_85 ?_
              show W p l e (gRm 2 42) s m args below meth c _ _ 0 0 Q (F0 m 88 ls [.int (iI w6_171)])
              have r_172 : 0 ≤ w6_171 ∧ w6_171 ≤ 5 := hP.2.1 6
              refine gi_zle (tgt := 92) hx hb dX11_readKeys_88 (by decide) (by omega) (fun c_173 => ?_) (fun c_173 => ?_)
              · refine lv_aload_n hx hb dX11_readKeys_92 rfl (lv_at hl 1 rfl) ?_
                refine g_cv (As := []) (rest := []) (n := 0) C hml (n_next l D k A ad hD (va_up (va_up (va_up (va_up (va_up (va_up (va_up v 6 w6_171) 7 w7_171) 8 y8_7) 9 y9_7) 10 y10_7) 11 y11_7) 17 y17_7) (va_up (va_up f 14 c14_7) 16 c16_7) (va_up g 0 d0_7) B (show ∀ k, (f 0) k % 256 = B k from hB) (show 0 ≤ y10_7 ∧ y10_7 ≤ (v 3) from by omega)) mM_X11_201 mI_X11_next mE_X11_next mN_X11 mC_X11_next (by decide +kernel) 0 (ci := 11) rfl rfl hP hS (fun _ h => h) ⟨Nat.le_of_ble_eq_true rfl, Nat.le_of_ble_eq_true rfl⟩ ⟨Nat.zero_le _, Nat.zero_le _⟩ hl.1 rfl rfl (Nat.le_of_ble_eq_true rfl) dX11_readKeys_93 (fun r_174 v_174 f_174 g_174 H locs hq_174 hP _ hS => ?_)
                obtain ⟨w8_174, w9_174, w10_174, w11_174, b0_174, rfl, rfl, rfl, rfl, p0_174⟩ := hq_174
                show W p l e (gRm 2 42) s m args below meth c _ _ 0 0 Q (F0 m 96 ls [])
                have hP : gWd D (mdT k ad) (va_up (va_up (va_up (va_up (va_up (va_up (va_up v 6 w6_171) 7 w7_171) 8 w8_174) 9 w9_174) 10 w10_174) 11 w11_174) 17 y17_7) (va_up (va_up f 14 c14_7) 16 c16_7) (va_up g 0 b0_174) H := ⟨hP.1, (gF_up (V := mdV) (F := mdF) (gF_up (V := mdV) (F := mdF) (gR_up (V := mdV) (F := mdF) (gR_up (V := mdV) (F := mdF) (gR_up (V := mdV) (F := mdF) (gR_up (V := mdV) (F := mdF) (gR_up (V := mdV) (F := mdF) (gR_up (V := mdV) (F := mdF) (gR_up (V := mdV) (F := mdF) ⟨hok.1, hok.2⟩ 6 (hP.2.1 6)) 7 (hP.2.1 7)) 8 (hP.2.1 8)) 9 (hP.2.1 9)) 10 (hP.2.1 10)) 11 (hP.2.1 11)) 17 (hP.2.1 17)) 14 (hP.2.2 14)) 16 (hP.2.2 16))⟩
                replace p0_174 : mAt B (v 3) w9_174 w10_174 w8_174 w11_174 (b0_174 0) (run bW B (v 3) y10_7) := p0_174
                have rw8_174 : 0 ≤ w8_174 ∧ w8_174 ≤ 4 := hP.2.1 8
                have rw9_174 : 0 ≤ w9_174 ∧ w9_174 ≤ 700 := hP.2.1 9
                have rw10_174 : 0 ≤ w10_174 ∧ w10_174 ≤ 700 := hP.2.1 10
                have rw11_174 : 0 ≤ w11_174 ∧ w11_174 ≤ 999999 := hP.2.1 11
                have hN1 : mAt B (v 3) w9_174 w10_174 w8_174 w11_174 (b0_174 0) (tX B (v 3) qq) := by have h := p0_174; rw [hM.bh] at h; exact h
                clear p0_174
                have hu1 := tX_up (B := B) (n := (v 3)) (q := qq) (by have h9 := (not_congr (tK_end (B := B) (n := (v 3)) (q := qq))).mp (by omega); omega)
                have hle1 := hN1.le
                refine lv_aload_n hx hb dX11_readKeys_96 rfl (lv_at hl 1 rfl) ?_
                refine lv_bipush (v := iI 115) hx hb dX11_readKeys_97 (by decide) ?_
                refine lv_bipush (v := iI 117) hx hb dX11_readKeys_99 (by decide) ?_
                refine lv_bipush (v := iI 109) hx hb dX11_readKeys_101 (by decide) ?_
                refine lv_iconst (v := iI 0) hx hb dX11_readKeys_103 rfl ?_
                refine lv_iconst (v := iI 0) hx hb dX11_readKeys_104 rfl ?_
                refine lv_iconst (v := iI 0) hx hb dX11_readKeys_105 rfl ?_
                refine lv_iconst (v := iI 0) hx hb dX11_readKeys_106 rfl ?_
                refine g_cs (As := [.int (iI 115), .int (iI 117), .int (iI 109), .int (iI 0), .int (iI 0), .int (iI 0), .int (iI 0)]) (rest := [.ref (ad 0)]) (n := 7) C hml (n_spelled l D k A ad hD (va_up (va_up (va_up (va_up (va_up (va_up (va_up v 6 w6_171) 7 w7_171) 8 w8_174) 9 w9_174) 10 w10_174) 11 w11_174) 17 y17_7) (va_up (va_up f 14 c14_7) 16 c16_7) (va_up g 0 b0_174) 115 117 109 0 0 0 0 (by decide) (by decide) (by decide) (by decide) (by decide) (by decide) (by decide)) mM_X11_228 mS_X11_spelled mN_X11 mC_X11_spelled (by decide +kernel) hP hS (fun _ h => h) ⟨Nat.le_of_ble_eq_true rfl, Nat.le_of_ble_eq_true rfl⟩ ⟨Nat.zero_le _, Nat.zero_le _⟩ hl.1 rfl rfl (Nat.le_of_ble_eq_true rfl) dX11_readKeys_107 (fun r_175 v_175 f_175 g_175 H locs hq_175 hP _ hS => ?_)
                obtain ⟨z_175, rfl, rfl, rfl, rfl, p0_175⟩ := hq_175
                show W p l e (gRm 2 42) s m args below meth c _ _ 0 0 Q (F0 m 110 ls [.long (iL z_175), .ref (ad 0)])
                replace p0_175 : z_175 = (spW (115 : Int) (117 : Int) (109 : Int) (0 : Int) (0 : Int) (0 : Int) (0 : Int)) := p0_175
                have hsp := p0_175
                clear p0_175
                refine g_cv (As := [.long (iL z_175)]) (rest := []) (n := 1) C hml (n_isW l D k A ad hD (va_up (va_up (va_up (va_up (va_up (va_up (va_up v 6 w6_171) 7 w7_171) 8 w8_174) 9 w9_174) 10 w10_174) 11 w11_174) 17 y17_7) (va_up (va_up f 14 c14_7) 16 c16_7) (va_up g 0 b0_174) z_175 B (tX B (v 3) qq) 8 (show mAt B (v 3) w9_174 w10_174 w8_174 w11_174 (b0_174 0) (tX B (v 3) qq) from hN1) (show z_175 = hW 8 ∧ 8 < 18 from ⟨by rw [hsp]; decide +kernel, by decide⟩)) mM_X11_232 mI_X11_isWord mE_X11_isWord mN_X11 mC_X11_isWord (by decide +kernel) 0 (ci := 11) rfl rfl hP hS (fun _ h => h) ⟨Nat.le_of_ble_eq_true rfl, Nat.le_of_ble_eq_true rfl⟩ ⟨Nat.zero_le _, Nat.zero_le _⟩ hl.1 rfl rfl (Nat.le_of_ble_eq_true rfl) dX11_readKeys_110 (fun r_176 v_176 f_176 g_176 H locs hq_176 hP _ hS => ?_)
                obtain ⟨z_176, rfl, rfl, rfl, rfl, p0_176, p1_176⟩ := hq_176
                show W p l e (gRm 2 42) s m args below meth c _ _ 0 0 Q (F0 m 113 ls [.int (iI z_176)])
                replace p0_176 : 0 ≤ z_176 ∧ z_176 ≤ 1 := p0_176
                replace p1_176 : z_176 = 1 ↔ (tK B (v 3) (tX B (v 3) qq)) = 260 + (8 : Int) := p1_176
                refine gi_zeq (tgt := 120) hx hb dX11_readKeys_113 (by decide) (by omega) (fun c_177 => ?_) (fun c_177 => ?_)
                · have v_176 := mt p1_176.mpr (show ¬ z_176 = 1 by omega)
                  clear p1_176
                  refine lv_aload_n hx hb dX11_readKeys_120 rfl (lv_at hl 1 rfl) ?_
                  refine lv_bipush (v := iI 109) hx hb dX11_readKeys_121 (by decide) ?_
                  refine lv_bipush (v := iI 111) hx hb dX11_readKeys_123 (by decide) ?_
                  refine lv_bipush (v := iI 115) hx hb dX11_readKeys_125 (by decide) ?_
                  refine lv_bipush (v := iI 116) hx hb dX11_readKeys_127 (by decide) ?_
                  refine lv_iconst (v := iI 0) hx hb dX11_readKeys_129 rfl ?_
                  refine lv_iconst (v := iI 0) hx hb dX11_readKeys_130 rfl ?_
                  refine lv_iconst (v := iI 0) hx hb dX11_readKeys_131 rfl ?_
                  refine g_cs (As := [.int (iI 109), .int (iI 111), .int (iI 115), .int (iI 116), .int (iI 0), .int (iI 0), .int (iI 0)]) (rest := [.ref (ad 0)]) (n := 7) C hml (n_spelled l D k A ad hD (va_up (va_up (va_up (va_up (va_up (va_up (va_up v 6 w6_171) 7 w7_171) 8 w8_174) 9 w9_174) 10 w10_174) 11 w11_174) 17 y17_7) (va_up (va_up f 14 c14_7) 16 c16_7) (va_up g 0 b0_174) 109 111 115 116 0 0 0 (by decide) (by decide) (by decide) (by decide) (by decide) (by decide) (by decide)) mM_X11_228 mS_X11_spelled mN_X11 mC_X11_spelled (by decide +kernel) hP hS (fun _ h => h) ⟨Nat.le_of_ble_eq_true rfl, Nat.le_of_ble_eq_true rfl⟩ ⟨Nat.zero_le _, Nat.zero_le _⟩ hl.1 rfl rfl (Nat.le_of_ble_eq_true rfl) dX11_readKeys_132 (fun r_178 v_178 f_178 g_178 H locs hq_178 hP _ hS => ?_)
                  obtain ⟨z_178, rfl, rfl, rfl, rfl, p0_178⟩ := hq_178
                  show W p l e (gRm 2 42) s m args below meth c _ _ 0 0 Q (F0 m 135 ls [.long (iL z_178), .ref (ad 0)])
                  replace p0_178 : z_178 = (spW (109 : Int) (111 : Int) (115 : Int) (116 : Int) (0 : Int) (0 : Int) (0 : Int)) := p0_178
                  have hsp := p0_178
                  clear p0_178
                  refine g_cv (As := [.long (iL z_178)]) (rest := []) (n := 1) C hml (n_isW l D k A ad hD (va_up (va_up (va_up (va_up (va_up (va_up (va_up v 6 w6_171) 7 w7_171) 8 w8_174) 9 w9_174) 10 w10_174) 11 w11_174) 17 y17_7) (va_up (va_up f 14 c14_7) 16 c16_7) (va_up g 0 b0_174) z_178 B (tX B (v 3) qq) 9 (show mAt B (v 3) w9_174 w10_174 w8_174 w11_174 (b0_174 0) (tX B (v 3) qq) from hN1) (show z_178 = hW 9 ∧ 9 < 18 from ⟨by rw [hsp]; decide +kernel, by decide⟩)) mM_X11_232 mI_X11_isWord mE_X11_isWord mN_X11 mC_X11_isWord (by decide +kernel) 0 (ci := 11) rfl rfl hP hS (fun _ h => h) ⟨Nat.le_of_ble_eq_true rfl, Nat.le_of_ble_eq_true rfl⟩ ⟨Nat.zero_le _, Nat.zero_le _⟩ hl.1 rfl rfl (Nat.le_of_ble_eq_true rfl) dX11_readKeys_135 (fun r_179 v_179 f_179 g_179 H locs hq_179 hP _ hS => ?_)
                  obtain ⟨z_179, rfl, rfl, rfl, rfl, p0_179, p1_179⟩ := hq_179
                  show W p l e (gRm 2 42) s m args below meth c _ _ 0 0 Q (F0 m 138 ls [.int (iI z_179)])
                  replace p0_179 : 0 ≤ z_179 ∧ z_179 ≤ 1 := p0_179
                  replace p1_179 : z_179 = 1 ↔ (tK B (v 3) (tX B (v 3) qq)) = 260 + (9 : Int) := p1_179
                  refine gi_zeq (tgt := 145) hx hb dX11_readKeys_138 (by decide) (by omega) (fun c_180 => ?_) (fun c_180 => ?_)
                  · have v_179 := mt p1_179.mpr (show ¬ z_179 = 1 by omega)
                    clear p1_179
                    refine lv_aload_n hx hb dX11_readKeys_145 rfl (lv_at hl 1 rfl) ?_
                    refine lv_bipush (v := iI 116) hx hb dX11_readKeys_146 (by decide) ?_
                    refine lv_bipush (v := iI 111) hx hb dX11_readKeys_148 (by decide) ?_
                    refine lv_bipush (v := iI 112) hx hb dX11_readKeys_150 (by decide) ?_
                    refine lv_bipush (v := iI 115) hx hb dX11_readKeys_152 (by decide) ?_
                    refine lv_iconst (v := iI 0) hx hb dX11_readKeys_154 rfl ?_
                    refine lv_iconst (v := iI 0) hx hb dX11_readKeys_155 rfl ?_
                    refine lv_iconst (v := iI 0) hx hb dX11_readKeys_156 rfl ?_
                    refine g_cs (As := [.int (iI 116), .int (iI 111), .int (iI 112), .int (iI 115), .int (iI 0), .int (iI 0), .int (iI 0)]) (rest := [.ref (ad 0)]) (n := 7) C hml (n_spelled l D k A ad hD (va_up (va_up (va_up (va_up (va_up (va_up (va_up v 6 w6_171) 7 w7_171) 8 w8_174) 9 w9_174) 10 w10_174) 11 w11_174) 17 y17_7) (va_up (va_up f 14 c14_7) 16 c16_7) (va_up g 0 b0_174) 116 111 112 115 0 0 0 (by decide) (by decide) (by decide) (by decide) (by decide) (by decide) (by decide)) mM_X11_228 mS_X11_spelled mN_X11 mC_X11_spelled (by decide +kernel) hP hS (fun _ h => h) ⟨Nat.le_of_ble_eq_true rfl, Nat.le_of_ble_eq_true rfl⟩ ⟨Nat.zero_le _, Nat.zero_le _⟩ hl.1 rfl rfl (Nat.le_of_ble_eq_true rfl) dX11_readKeys_157 (fun r_181 v_181 f_181 g_181 H locs hq_181 hP _ hS => ?_)
                    obtain ⟨z_181, rfl, rfl, rfl, rfl, p0_181⟩ := hq_181
                    show W p l e (gRm 2 42) s m args below meth c _ _ 0 0 Q (F0 m 160 ls [.long (iL z_181), .ref (ad 0)])
                    replace p0_181 : z_181 = (spW (116 : Int) (111 : Int) (112 : Int) (115 : Int) (0 : Int) (0 : Int) (0 : Int)) := p0_181
                    have hsp := p0_181
                    clear p0_181
                    refine g_cv (As := [.long (iL z_181)]) (rest := []) (n := 1) C hml (n_isW l D k A ad hD (va_up (va_up (va_up (va_up (va_up (va_up (va_up v 6 w6_171) 7 w7_171) 8 w8_174) 9 w9_174) 10 w10_174) 11 w11_174) 17 y17_7) (va_up (va_up f 14 c14_7) 16 c16_7) (va_up g 0 b0_174) z_181 B (tX B (v 3) qq) 10 (show mAt B (v 3) w9_174 w10_174 w8_174 w11_174 (b0_174 0) (tX B (v 3) qq) from hN1) (show z_181 = hW 10 ∧ 10 < 18 from ⟨by rw [hsp]; decide +kernel, by decide⟩)) mM_X11_232 mI_X11_isWord mE_X11_isWord mN_X11 mC_X11_isWord (by decide +kernel) 0 (ci := 11) rfl rfl hP hS (fun _ h => h) ⟨Nat.le_of_ble_eq_true rfl, Nat.le_of_ble_eq_true rfl⟩ ⟨Nat.zero_le _, Nat.zero_le _⟩ hl.1 rfl rfl (Nat.le_of_ble_eq_true rfl) dX11_readKeys_160 (fun r_182 v_182 f_182 g_182 H locs hq_182 hP _ hS => ?_)
                    obtain ⟨z_182, rfl, rfl, rfl, rfl, p0_182, p1_182⟩ := hq_182
                    show W p l e (gRm 2 42) s m args below meth c _ _ 0 0 Q (F0 m 163 ls [.int (iI z_182)])
                    replace p0_182 : 0 ≤ z_182 ∧ z_182 ≤ 1 := p0_182
                    replace p1_182 : z_182 = 1 ↔ (tK B (v 3) (tX B (v 3) qq)) = 260 + (10 : Int) := p1_182
                    refine gi_zeq (tgt := 170) hx hb dX11_readKeys_163 (by decide) (by omega) (fun c_183 => ?_) (fun c_183 => ?_)
                    · have v_182 := mt p1_182.mpr (show ¬ z_182 = 1 by omega)
                      clear p1_182
                      refine lv_aload_n hx hb dX11_readKeys_170 rfl (lv_at hl 1 rfl) ?_
                      refine lv_bipush (v := iI 122) hx hb dX11_readKeys_171 (by decide) ?_
                      refine lv_bipush (v := iI 111) hx hb dX11_readKeys_173 (by decide) ?_
                      refine lv_bipush (v := iI 110) hx hb dX11_readKeys_175 (by decide) ?_
                      refine lv_bipush (v := iI 101) hx hb dX11_readKeys_177 (by decide) ?_
                      refine lv_bipush (v := iI 115) hx hb dX11_readKeys_179 (by decide) ?_
                      refine lv_iconst (v := iI 0) hx hb dX11_readKeys_181 rfl ?_
                      refine lv_iconst (v := iI 0) hx hb dX11_readKeys_182 rfl ?_
                      refine g_cs (As := [.int (iI 122), .int (iI 111), .int (iI 110), .int (iI 101), .int (iI 115), .int (iI 0), .int (iI 0)]) (rest := [.ref (ad 0)]) (n := 7) C hml (n_spelled l D k A ad hD (va_up (va_up (va_up (va_up (va_up (va_up (va_up v 6 w6_171) 7 w7_171) 8 w8_174) 9 w9_174) 10 w10_174) 11 w11_174) 17 y17_7) (va_up (va_up f 14 c14_7) 16 c16_7) (va_up g 0 b0_174) 122 111 110 101 115 0 0 (by decide) (by decide) (by decide) (by decide) (by decide) (by decide) (by decide)) mM_X11_228 mS_X11_spelled mN_X11 mC_X11_spelled (by decide +kernel) hP hS (fun _ h => h) ⟨Nat.le_of_ble_eq_true rfl, Nat.le_of_ble_eq_true rfl⟩ ⟨Nat.zero_le _, Nat.zero_le _⟩ hl.1 rfl rfl (Nat.le_of_ble_eq_true rfl) dX11_readKeys_183 (fun r_184 v_184 f_184 g_184 H locs hq_184 hP _ hS => ?_)
                      obtain ⟨z_184, rfl, rfl, rfl, rfl, p0_184⟩ := hq_184
                      show W p l e (gRm 2 42) s m args below meth c _ _ 0 0 Q (F0 m 186 ls [.long (iL z_184), .ref (ad 0)])
                      replace p0_184 : z_184 = (spW (122 : Int) (111 : Int) (110 : Int) (101 : Int) (115 : Int) (0 : Int) (0 : Int)) := p0_184
                      have hsp := p0_184
                      clear p0_184
                      refine g_cv (As := [.long (iL z_184)]) (rest := []) (n := 1) C hml (n_isW l D k A ad hD (va_up (va_up (va_up (va_up (va_up (va_up (va_up v 6 w6_171) 7 w7_171) 8 w8_174) 9 w9_174) 10 w10_174) 11 w11_174) 17 y17_7) (va_up (va_up f 14 c14_7) 16 c16_7) (va_up g 0 b0_174) z_184 B (tX B (v 3) qq) 11 (show mAt B (v 3) w9_174 w10_174 w8_174 w11_174 (b0_174 0) (tX B (v 3) qq) from hN1) (show z_184 = hW 11 ∧ 11 < 18 from ⟨by rw [hsp]; decide +kernel, by decide⟩)) mM_X11_232 mI_X11_isWord mE_X11_isWord mN_X11 mC_X11_isWord (by decide +kernel) 0 (ci := 11) rfl rfl hP hS (fun _ h => h) ⟨Nat.le_of_ble_eq_true rfl, Nat.le_of_ble_eq_true rfl⟩ ⟨Nat.zero_le _, Nat.zero_le _⟩ hl.1 rfl rfl (Nat.le_of_ble_eq_true rfl) dX11_readKeys_186 (fun r_185 v_185 f_185 g_185 H locs hq_185 hP _ hS => ?_)
                      obtain ⟨z_185, rfl, rfl, rfl, rfl, p0_185, p1_185⟩ := hq_185
                      show W p l e (gRm 2 42) s m args below meth c _ _ 0 0 Q (F0 m 189 ls [.int (iI z_185)])
                      replace p0_185 : 0 ≤ z_185 ∧ z_185 ≤ 1 := p0_185
                      replace p1_185 : z_185 = 1 ↔ (tK B (v 3) (tX B (v 3) qq)) = 260 + (11 : Int) := p1_185
                      refine gi_zeq (tgt := 196) hx hb dX11_readKeys_189 (by decide) (by omega) (fun c_186 => ?_) (fun c_186 => ?_)
                      · have v_185 := mt p1_185.mpr (show ¬ z_185 = 1 by omega)
                        clear p1_185
                        refine lv_iconst (v := iI (-1)) hx hb dX11_readKeys_196 rfl ?_
                        refine lv_istore_n (lv' := [(3, .int (iI (-1))), (2, .int (iI z_12)), (0, .ref (ad 0)), (1, .int (iI x1))]) hx hb dX11_readKeys_197 rfl hl (by decide) rfl (fun ls hl => ?_)
                        refine lv_iload_n hx hb dX11_readKeys_198 rfl (lv_at hl 0 rfl) ?_
                        refine gi_zge (tgt := 207) hx hb dX11_readKeys_199 (by decide) (by decide) (fun c_187 => ?_) (fun c_187 => ?_)
                        · exfalso; omega
                        · refine lv_aload_n hx hb dX11_readKeys_202 rfl (lv_at hl 2 rfl) ?_
                          refine g_cv (As := []) (rest := []) (n := 0) C hml (n_wrC l D k A ad hD (va_up (va_up (va_up (va_up (va_up (va_up (va_up v 6 w6_171) 7 w7_171) 8 w8_174) 9 w9_174) 10 w10_174) 11 w11_174) 17 y17_7) (va_up (va_up f 14 c14_7) 16 c16_7) (va_up g 0 b0_174) B (tX B (v 3) qq) (show mAt B (v 3) w9_174 w10_174 w8_174 w11_174 (b0_174 0) (tX B (v 3) qq) from hN1)) mM_X11_198 mI_X11_wrong mE_X11_wrong mN_X11 mC_X11_wrong (by decide +kernel) 0 (ci := 11) rfl rfl hP hS (fun _ h => h) ⟨Nat.le_of_ble_eq_true rfl, Nat.le_of_ble_eq_true rfl⟩ ⟨Nat.zero_le _, Nat.zero_le _⟩ hl.1 rfl rfl (Nat.le_of_ble_eq_true rfl) dX11_readKeys_203 (fun r_188 v_188 f_188 g_188 H locs hq_188 hP _ hS => ?_)
                          obtain ⟨w6_188, w7_188, rfl, rfl, rfl, rfl, p0_188, p1_188⟩ := hq_188
                          show W p l e (gRm 2 42) s m args below meth c _ _ 0 0 Q (F0 m 206 ls [])
                          have hP : gWd D (mdT k ad) (va_up (va_up (va_up (va_up (va_up (va_up (va_up v 6 w6_188) 7 w7_188) 8 w8_174) 9 w9_174) 10 w10_174) 11 w11_174) 17 y17_7) (va_up (va_up f 14 c14_7) 16 c16_7) (va_up g 0 b0_174) H := ⟨hP.1, (gF_up (V := mdV) (F := mdF) (gF_up (V := mdV) (F := mdF) (gR_up (V := mdV) (F := mdF) (gR_up (V := mdV) (F := mdF) (gR_up (V := mdV) (F := mdF) (gR_up (V := mdV) (F := mdF) (gR_up (V := mdV) (F := mdF) (gR_up (V := mdV) (F := mdF) (gR_up (V := mdV) (F := mdF) ⟨hok.1, hok.2⟩ 6 (hP.2.1 6)) 7 (hP.2.1 7)) 8 (hP.2.1 8)) 9 (hP.2.1 9)) 10 (hP.2.1 10)) 11 (hP.2.1 11)) 17 (hP.2.1 17)) 14 (hP.2.2 14)) 16 (hP.2.2 16))⟩
                          replace p0_188 : w6_171 = 0 → w6_188 = (fk B (v 3) (tX B (v 3) qq)) ∧ w7_188 = (tX B (v 3) qq) := p0_188
                          replace p1_188 : 0 < w6_171 → w6_188 = w6_171 ∧ w7_188 = w7_171 := p1_188
                          have rw6_188 : 0 ≤ w6_188 ∧ w6_188 ≤ 5 := hP.2.1 6
                          have rw7_188 : 0 ≤ w7_188 ∧ w7_188 ≤ 700 := hP.2.1 7
                          first | replace p0_188 := p0_188 (by omega) | clear p0_188
                          first | replace p1_188 := p1_188 (by omega) | clear p1_188
                          exact g_vret hQ C hr hlocks hP hS dX11_readKeys_206 ⟨w6_188, w7_188, w8_174, w9_174, w10_174, w11_174, y17_7, c14_7, c16_7, b0_174, rfl, rfl, rfl, rfl, (oM_bad (by rw [← hJ3.get (by omega), kys_stop (c := y17_7) (by omega) (by omega) (Or.inl (by rw [ky1_c (by omega) (by omega) (by omega)]; show _ ≠ (0 : Int); omega))]; exact ky1_c (by omega) (by omega) (by omega)) (by omega) (by omega) hN1), (by intro h; exfalso; omega)⟩
                      · have v_185 := p1_185.mp (show z_185 = 1 by omega)
                        clear p1_185
                        refine lv_iconst (v := iI 3) hx hb dX11_readKeys_192 rfl ?_
                        refine lv_goto (tgt := 197) hx hb dX11_readKeys_193 (by decide) ?_
                        refine lv_istore_n (lv' := [(3, .int (iI 3)), (2, .int (iI z_12)), (0, .ref (ad 0)), (1, .int (iI x1))]) hx hb dX11_readKeys_197 rfl hl (by decide) rfl (fun ls hl => ?_)
                        refine lv_iload_n hx hb dX11_readKeys_198 rfl (lv_at hl 0 rfl) ?_
                        refine gi_zge (tgt := 207) hx hb dX11_readKeys_199 (by decide) (by decide) (fun c_189 => ?_) (fun c_189 => ?_)
                        · refine lv_aload_n hx hb dX11_readKeys_207 rfl (lv_at hl 2 rfl) ?_
                          refine mdG_newUp C hP mF_X11_67 dX11_readKeys_208 ?_
                          refine lv_aload_n hx hb dX11_readKeys_211 rfl (lv_at hl 2 rfl) ?_
                          refine mdG_newKeys C hP mF_X11_214 dX11_readKeys_212 ?_
                          show W p l e (gRm 2 42) s m args below meth c _ _ 0 0 Q (F0 m 215 ls [.int (iI y17_7), .ref (ad 17)])
                          have r_190 : 0 ≤ y17_7 ∧ y17_7 ≤ 4 := hP.2.1 17
                          refine lv_iload_n hx hb dX11_readKeys_215 rfl (lv_at hl 1 rfl) ?_
                          refine mdS_newUp (f1 := (va_up (va_up f 14 c14_7) 16 (u1 c16_7 y17_7 z_12))) C hP hD hS (by omega) (by omega) (by omega) (by omega) rfl (Or.inr (gF_up (V := mdV) (F := mdF) (gF_up (V := mdV) (F := mdF) (gR_up (V := mdV) (F := mdF) (gR_up (V := mdV) (F := mdF) (gR_up (V := mdV) (F := mdF) (gR_up (V := mdV) (F := mdF) (gR_up (V := mdV) (F := mdF) (gR_up (V := mdV) (F := mdF) (gR_up (V := mdV) (F := mdF) ⟨hok.1, hok.2⟩ 6 (hP.2.1 6)) 7 (hP.2.1 7)) 8 (hP.2.1 8)) 9 (hP.2.1 9)) 10 (hP.2.1 10)) 11 (hP.2.1 11)) 17 (hP.2.1 17)) 14 (hP.2.2 14)) 16 (u1_rng (hP.2.2 16) (show 0 ≤ z_12 ∧ z_12 ≤ 1 from (by omega))))) dX11_readKeys_216 (fun H locs hP hS => ?_)
                          refine lv_aload_n hx hb dX11_readKeys_217 rfl (lv_at hl 2 rfl) ?_
                          refine mdG_newKey C hP mF_X11_60 dX11_readKeys_218 ?_
                          refine lv_aload_n hx hb dX11_readKeys_221 rfl (lv_at hl 2 rfl) ?_
                          refine mdG_newKeys C hP mF_X11_214 dX11_readKeys_222 ?_
                          show W p l e (gRm 2 42) s m args below meth c _ _ 0 0 Q (F0 m 225 ls [.int (iI y17_7), .ref (ad 15)])
                          refine lv_iload_n hx hb dX11_readKeys_225 rfl (lv_at hl 0 rfl) ?_
                          refine mdS_newKey (f1 := (va_up (va_up f 14 (u1 c14_7 y17_7 3)) 16 (u1 c16_7 y17_7 z_12))) C hP hD hS (by omega) (by omega) (by decide) rfl (Or.inr (gF_up (V := mdV) (F := mdF) (gF_up (V := mdV) (F := mdF) (gR_up (V := mdV) (F := mdF) (gR_up (V := mdV) (F := mdF) (gR_up (V := mdV) (F := mdF) (gR_up (V := mdV) (F := mdF) (gR_up (V := mdV) (F := mdF) (gR_up (V := mdV) (F := mdF) (gR_up (V := mdV) (F := mdF) ⟨hok.1, hok.2⟩ 6 (hP.2.1 6)) 7 (hP.2.1 7)) 8 (hP.2.1 8)) 9 (hP.2.1 9)) 10 (hP.2.1 10)) 11 (hP.2.1 11)) 17 (hP.2.1 17)) 14 (u1_rng (hP.2.2 14) (show 0 ≤ 3 ∧ 3 ≤ 3 from (by decide)))) 16 (hP.2.2 16))) dX11_readKeys_226 (fun H locs hP hS => ?_)
                          refine lv_aload_n hx hb dX11_readKeys_227 rfl (lv_at hl 2 rfl) ?_
                          refine lv_dup hx hb dX11_readKeys_228 rfl ?_
                          refine mdG_newKeys C hP mF_X11_214 dX11_readKeys_229 ?_
                          show W p l e (gRm 2 42) s m args below meth c _ _ 0 0 Q (F0 m 232 ls [.int (iI y17_7), .ref (ad 0)])
                          refine lv_iconst (v := iI 1) hx hb dX11_readKeys_232 rfl ?_
                          refine gi_add (z := (y17_7 + 1)) hx hb dX11_readKeys_233 rfl ?_
                          refine mdP_newKeys (v1 := (va_up (va_up (va_up (va_up (va_up (va_up (va_up v 6 w6_171) 7 w7_171) 8 w8_174) 9 w9_174) 10 w10_174) 11 w11_174) 17 (y17_7 + 1))) C hP hD hS mF_X11_214 (by omega) rfl (Or.inr (gF_up (V := mdV) (F := mdF) (gF_up (V := mdV) (F := mdF) (gR_up (V := mdV) (F := mdF) (gR_up (V := mdV) (F := mdF) (gR_up (V := mdV) (F := mdF) (gR_up (V := mdV) (F := mdF) (gR_up (V := mdV) (F := mdF) (gR_up (V := mdV) (F := mdF) (gR_up (V := mdV) (F := mdF) ⟨hok.1, hok.2⟩ 6 (hP.2.1 6)) 7 (hP.2.1 7)) 8 (hP.2.1 8)) 9 (hP.2.1 9)) 10 (hP.2.1 10)) 11 (hP.2.1 11)) 17 (show 0 ≤ (y17_7 + 1) ∧ (y17_7 + 1) ≤ 4 from by omega)) 14 (hP.2.2 14)) 16 (hP.2.2 16))) dX11_readKeys_234 (fun H locs hP hS => ?_)
                          refine lv_aload_n hx hb dX11_readKeys_237 rfl (lv_at hl 2 rfl) ?_
                          refine g_cv (As := []) (rest := []) (n := 0) C hml (n_next l D k A ad hD (va_up (va_up (va_up (va_up (va_up (va_up (va_up v 6 w6_171) 7 w7_171) 8 w8_174) 9 w9_174) 10 w10_174) 11 w11_174) 17 (y17_7 + 1)) (va_up (va_up f 14 (u1 c14_7 y17_7 3)) 16 (u1 c16_7 y17_7 z_12)) (va_up g 0 b0_174) B (show ∀ k, (f 0) k % 256 = B k from hB) (show 0 ≤ w10_174 ∧ w10_174 ≤ (v 3) from by omega)) mM_X11_201 mI_X11_next mE_X11_next mN_X11 mC_X11_next (by decide +kernel) 0 (ci := 11) rfl rfl hP hS (fun _ h => h) ⟨Nat.le_of_ble_eq_true rfl, Nat.le_of_ble_eq_true rfl⟩ ⟨Nat.zero_le _, Nat.zero_le _⟩ hl.1 rfl rfl (Nat.le_of_ble_eq_true rfl) dX11_readKeys_238 (fun r_191 v_191 f_191 g_191 H locs hq_191 hP _ hS => ?_)
                          obtain ⟨w8_191, w9_191, w10_191, w11_191, b0_191, rfl, rfl, rfl, rfl, p0_191⟩ := hq_191
                          show W p l e (gRm 2 42) s m args below meth c _ _ 0 0 Q (F0 m 241 ls [])
                          have hP : gWd D (mdT k ad) (va_up (va_up (va_up (va_up (va_up (va_up (va_up v 6 w6_171) 7 w7_171) 8 w8_191) 9 w9_191) 10 w10_191) 11 w11_191) 17 (y17_7 + 1)) (va_up (va_up f 14 (u1 c14_7 y17_7 3)) 16 (u1 c16_7 y17_7 z_12)) (va_up g 0 b0_191) H := ⟨hP.1, (gF_up (V := mdV) (F := mdF) (gF_up (V := mdV) (F := mdF) (gR_up (V := mdV) (F := mdF) (gR_up (V := mdV) (F := mdF) (gR_up (V := mdV) (F := mdF) (gR_up (V := mdV) (F := mdF) (gR_up (V := mdV) (F := mdF) (gR_up (V := mdV) (F := mdF) (gR_up (V := mdV) (F := mdF) ⟨hok.1, hok.2⟩ 6 (hP.2.1 6)) 7 (hP.2.1 7)) 8 (hP.2.1 8)) 9 (hP.2.1 9)) 10 (hP.2.1 10)) 11 (hP.2.1 11)) 17 (hP.2.1 17)) 14 (hP.2.2 14)) 16 (hP.2.2 16))⟩
                          replace p0_191 : mAt B (v 3) w9_191 w10_191 w8_191 w11_191 (b0_191 0) (run bW B (v 3) w10_174) := p0_191
                          have rw8_191 : 0 ≤ w8_191 ∧ w8_191 ≤ 4 := hP.2.1 8
                          have rw9_191 : 0 ≤ w9_191 ∧ w9_191 ≤ 700 := hP.2.1 9
                          have rw10_191 : 0 ≤ w10_191 ∧ w10_191 ≤ 700 := hP.2.1 10
                          have rw11_191 : 0 ≤ w11_191 ∧ w11_191 ≤ 999999 := hP.2.1 11
                          have hN2 : mAt B (v 3) w9_191 w10_191 w8_191 w11_191 (b0_191 0) (tX B (v 3) (tX B (v 3) qq)) := by have h := p0_191; rw [hN1.bh] at h; exact h
                          clear p0_191
                          have hu2 := tX_up (B := B) (n := (v 3)) (q := (tX B (v 3) qq)) (by have h9 := (not_congr (tK_end (B := B) (n := (v 3)) (q := (tX B (v 3) qq)))).mp (by omega); omega)
                          have hle2 := hN2.le
                          have hky : ky1 B (v 3) y17_7 qq = (0, tX B (v 3) (tX B (v 3) qq)) := ky1_d (by omega) (by omega) (by omega)
                          refine lv_aload_n hx hb dX11_readKeys_241 rfl (lv_at hl 2 rfl) ?_
                          refine lv_bipush (v := iI 44) hx hb dX11_readKeys_242 (by decide) ?_
                          refine g_cv (As := [.int (iI 44)]) (rest := []) (n := 1) C hml (n_isS l D k A ad hD (va_up (va_up (va_up (va_up (va_up (va_up (va_up v 6 w6_171) 7 w7_171) 8 w8_191) 9 w9_191) 10 w10_191) 11 w11_191) 17 (y17_7 + 1)) (va_up (va_up f 14 (u1 c14_7 y17_7 3)) 16 (u1 c16_7 y17_7 z_12)) (va_up g 0 b0_191) 44 B (tX B (v 3) (tX B (v 3) qq)) (by decide) (show mAt B (v 3) w9_191 w10_191 w8_191 w11_191 (b0_191 0) (tX B (v 3) (tX B (v 3) qq)) from hN2) (show 40 ≤ (44 : Int) ∧ (44 : Int) < 256 from by omega)) mM_X11_204 mI_X11_isSign mE_X11_isSign mN_X11 mC_X11_isSign (by decide +kernel) 0 (ci := 11) rfl rfl hP hS (fun _ h => h) ⟨Nat.le_of_ble_eq_true rfl, Nat.le_of_ble_eq_true rfl⟩ ⟨Nat.zero_le _, Nat.zero_le _⟩ hl.1 rfl rfl (Nat.le_of_ble_eq_true rfl) dX11_readKeys_244 (fun r_192 v_192 f_192 g_192 H locs hq_192 hP _ hS => ?_)
                          obtain ⟨z_192, rfl, rfl, rfl, rfl, p0_192, p1_192⟩ := hq_192
                          show W p l e (gRm 2 42) s m args below meth c _ _ 0 0 Q (F0 m 247 ls [.int (iI z_192)])
                          replace p0_192 : 0 ≤ z_192 ∧ z_192 ≤ 1 := p0_192
                          replace p1_192 : z_192 = 1 ↔ (tK B (v 3) (tX B (v 3) (tX B (v 3) qq))) = (44 : Int) := p1_192
                          refine lv_istore_n (lv' := [(1, .int (iI z_192)), (3, .int (iI 3)), (2, .int (iI z_12)), (0, .ref (ad 0))]) hx hb dX11_readKeys_247 rfl hl (by decide) rfl (fun ls hl => ?_)
                          refine lv_iload_n hx hb dX11_readKeys_248 rfl (lv_at hl 0 rfl) ?_
                          refine gi_zeq (tgt := 256) hx hb dX11_readKeys_249 (by decide) (by omega) (fun c_193 => ?_) (fun c_193 => ?_)
                          · have v_192 := mt p1_192.mpr (show ¬ z_192 = 1 by omega)
                            clear p1_192
                            refine lv_goto (tgt := 7) hx hb dX11_readKeys_256 (by decide) ?_
                            exact ih_7 z_192 ((tX B (v 3) (tX B (v 3) qq))) w6_171 w7_171 w8_191 w9_191 w10_191 w11_191 (y17_7 + 1) (u1 c14_7 y17_7 3) (u1 c16_7 y17_7 z_12) b0_191 _ _ _ (by omega) (by omega) hN2 (by omega) (by first | (intro h; exfalso; omega) | exact fun _ => (by rw [← hJ3.get (by omega), kys_go (B := B) (n := (v 3)) (p := qq) (c := y17_7) (by omega) (by omega) (by rw [hky]) (by rw [hky]; show tK B (v 3) (tX B (v 3) (tX B (v 3) qq)) = 44; omega), hky])) (by first | (intro h; exfalso; omega) | exact fun _ => (by rw [← hJ3.get (by omega), kys_stop (B := B) (n := (v 3)) (p := qq) (c := y17_7) (by omega) (by omega) (Or.inr (by rw [hky]; show tK B (v 3) (tX B (v 3) (tX B (v 3) qq)) ≠ 44; omega)), hky])) (by first | (intro h; exfalso; omega) | exact fun _ => (by rw [kyP_s (by omega), ← hC1.get (by omega)])) (by first | (intro h; exfalso; omega) | exact fun _ => (by have h8 := hC2.get (by omega); rw [kyN_go (x := y17_7) (by omega) (by omega)] at h8; omega)) (by first | (intro h; exfalso; omega) | exact fun _ => (by have h8 := hC2.get (by omega); rw [kyN_end (x := y17_7) (by omega) (by omega)] at h8; omega)) (kyM_put hC4.get (by omega) (by rw [← hC1.get (by omega)]; omega) (by rw [← hC1.get (by omega)]; first | (rw [if_pos (by omega)]; omega) | (rw [if_neg (by omega)]; omega))) hP hS (lv_sub hl [3, 0] rfl)
                          · have v_192 := p1_192.mp (show z_192 = 1 by omega)
                            clear p1_192
                            refine lv_aload_n hx hb dX11_readKeys_252 rfl (lv_at hl 3 rfl) ?_
                            refine g_cv (As := []) (rest := []) (n := 0) C hml (n_next l D k A ad hD (va_up (va_up (va_up (va_up (va_up (va_up (va_up v 6 w6_171) 7 w7_171) 8 w8_191) 9 w9_191) 10 w10_191) 11 w11_191) 17 (y17_7 + 1)) (va_up (va_up f 14 (u1 c14_7 y17_7 3)) 16 (u1 c16_7 y17_7 z_12)) (va_up g 0 b0_191) B (show ∀ k, (f 0) k % 256 = B k from hB) (show 0 ≤ w10_191 ∧ w10_191 ≤ (v 3) from by omega)) mM_X11_201 mI_X11_next mE_X11_next mN_X11 mC_X11_next (by decide +kernel) 0 (ci := 11) rfl rfl hP hS (fun _ h => h) ⟨Nat.le_of_ble_eq_true rfl, Nat.le_of_ble_eq_true rfl⟩ ⟨Nat.zero_le _, Nat.zero_le _⟩ hl.1 rfl rfl (Nat.le_of_ble_eq_true rfl) dX11_readKeys_253 (fun r_194 v_194 f_194 g_194 H locs hq_194 hP _ hS => ?_)
                            obtain ⟨w8_194, w9_194, w10_194, w11_194, b0_194, rfl, rfl, rfl, rfl, p0_194⟩ := hq_194
                            show W p l e (gRm 2 42) s m args below meth c _ _ 0 0 Q (F0 m 256 ls [])
                            have hP : gWd D (mdT k ad) (va_up (va_up (va_up (va_up (va_up (va_up (va_up v 6 w6_171) 7 w7_171) 8 w8_194) 9 w9_194) 10 w10_194) 11 w11_194) 17 (y17_7 + 1)) (va_up (va_up f 14 (u1 c14_7 y17_7 3)) 16 (u1 c16_7 y17_7 z_12)) (va_up g 0 b0_194) H := ⟨hP.1, (gF_up (V := mdV) (F := mdF) (gF_up (V := mdV) (F := mdF) (gR_up (V := mdV) (F := mdF) (gR_up (V := mdV) (F := mdF) (gR_up (V := mdV) (F := mdF) (gR_up (V := mdV) (F := mdF) (gR_up (V := mdV) (F := mdF) (gR_up (V := mdV) (F := mdF) (gR_up (V := mdV) (F := mdF) ⟨hok.1, hok.2⟩ 6 (hP.2.1 6)) 7 (hP.2.1 7)) 8 (hP.2.1 8)) 9 (hP.2.1 9)) 10 (hP.2.1 10)) 11 (hP.2.1 11)) 17 (hP.2.1 17)) 14 (hP.2.2 14)) 16 (hP.2.2 16))⟩
                            replace p0_194 : mAt B (v 3) w9_194 w10_194 w8_194 w11_194 (b0_194 0) (run bW B (v 3) w10_191) := p0_194
                            have rw8_194 : 0 ≤ w8_194 ∧ w8_194 ≤ 4 := hP.2.1 8
                            have rw9_194 : 0 ≤ w9_194 ∧ w9_194 ≤ 700 := hP.2.1 9
                            have rw10_194 : 0 ≤ w10_194 ∧ w10_194 ≤ 700 := hP.2.1 10
                            have rw11_194 : 0 ≤ w11_194 ∧ w11_194 ≤ 999999 := hP.2.1 11
                            have hN3 : mAt B (v 3) w9_194 w10_194 w8_194 w11_194 (b0_194 0) (tX B (v 3) (tX B (v 3) (tX B (v 3) qq))) := by have h := p0_194; rw [hN2.bh] at h; exact h
                            clear p0_194
                            have hu3 := tX_up (B := B) (n := (v 3)) (q := (tX B (v 3) (tX B (v 3) qq))) (by have h9 := (not_congr (tK_end (B := B) (n := (v 3)) (q := (tX B (v 3) (tX B (v 3) qq))))).mp (by omega); omega)
                            refine lv_goto (tgt := 7) hx hb dX11_readKeys_256 (by decide) ?_
                            exact ih_7 z_192 ((tX B (v 3) (tX B (v 3) (tX B (v 3) qq)))) w6_171 w7_171 w8_194 w9_194 w10_194 w11_194 (y17_7 + 1) (u1 c14_7 y17_7 3) (u1 c16_7 y17_7 z_12) b0_194 _ _ _ (by omega) (by omega) hN3 (by omega) (by first | (intro h; exfalso; omega) | exact fun _ => (by rw [← hJ3.get (by omega), kys_go (B := B) (n := (v 3)) (p := qq) (c := y17_7) (by omega) (by omega) (by rw [hky]) (by rw [hky]; show tK B (v 3) (tX B (v 3) (tX B (v 3) qq)) = 44; omega), hky])) (by first | (intro h; exfalso; omega) | exact fun _ => (by rw [← hJ3.get (by omega), kys_stop (B := B) (n := (v 3)) (p := qq) (c := y17_7) (by omega) (by omega) (Or.inr (by rw [hky]; show tK B (v 3) (tX B (v 3) (tX B (v 3) qq)) ≠ 44; omega)), hky])) (by first | (intro h; exfalso; omega) | exact fun _ => (by rw [kyP_s (by omega), ← hC1.get (by omega)])) (by first | (intro h; exfalso; omega) | exact fun _ => (by have h8 := hC2.get (by omega); rw [kyN_go (x := y17_7) (by omega) (by omega)] at h8; omega)) (by first | (intro h; exfalso; omega) | exact fun _ => (by have h8 := hC2.get (by omega); rw [kyN_end (x := y17_7) (by omega) (by omega)] at h8; omega)) (kyM_put hC4.get (by omega) (by rw [← hC1.get (by omega)]; omega) (by rw [← hC1.get (by omega)]; first | (rw [if_pos (by omega)]; omega) | (rw [if_neg (by omega)]; omega))) hP hS (lv_sub hl [3, 0] rfl)
                        · exfalso; omega
                    · have v_182 := p1_182.mp (show z_182 = 1 by omega)
                      clear p1_182
                      refine lv_iconst (v := iI 2) hx hb dX11_readKeys_166 rfl ?_
                      refine lv_goto (tgt := 197) hx hb dX11_readKeys_167 (by decide) ?_
                      refine lv_istore_n (lv' := [(3, .int (iI 2)), (2, .int (iI z_12)), (0, .ref (ad 0)), (1, .int (iI x1))]) hx hb dX11_readKeys_197 rfl hl (by decide) rfl (fun ls hl => ?_)
                      refine lv_iload_n hx hb dX11_readKeys_198 rfl (lv_at hl 0 rfl) ?_
                      refine gi_zge (tgt := 207) hx hb dX11_readKeys_199 (by decide) (by decide) (fun c_195 => ?_) (fun c_195 => ?_)
                      · refine lv_aload_n hx hb dX11_readKeys_207 rfl (lv_at hl 2 rfl) ?_
                        refine mdG_newUp C hP mF_X11_67 dX11_readKeys_208 ?_
                        refine lv_aload_n hx hb dX11_readKeys_211 rfl (lv_at hl 2 rfl) ?_
                        refine mdG_newKeys C hP mF_X11_214 dX11_readKeys_212 ?_
                        show W p l e (gRm 2 42) s m args below meth c _ _ 0 0 Q (F0 m 215 ls [.int (iI y17_7), .ref (ad 17)])
                        have r_196 : 0 ≤ y17_7 ∧ y17_7 ≤ 4 := hP.2.1 17
                        refine lv_iload_n hx hb dX11_readKeys_215 rfl (lv_at hl 1 rfl) ?_
                        refine mdS_newUp (f1 := (va_up (va_up f 14 c14_7) 16 (u1 c16_7 y17_7 z_12))) C hP hD hS (by omega) (by omega) (by omega) (by omega) rfl (Or.inr (gF_up (V := mdV) (F := mdF) (gF_up (V := mdV) (F := mdF) (gR_up (V := mdV) (F := mdF) (gR_up (V := mdV) (F := mdF) (gR_up (V := mdV) (F := mdF) (gR_up (V := mdV) (F := mdF) (gR_up (V := mdV) (F := mdF) (gR_up (V := mdV) (F := mdF) (gR_up (V := mdV) (F := mdF) ⟨hok.1, hok.2⟩ 6 (hP.2.1 6)) 7 (hP.2.1 7)) 8 (hP.2.1 8)) 9 (hP.2.1 9)) 10 (hP.2.1 10)) 11 (hP.2.1 11)) 17 (hP.2.1 17)) 14 (hP.2.2 14)) 16 (u1_rng (hP.2.2 16) (show 0 ≤ z_12 ∧ z_12 ≤ 1 from (by omega))))) dX11_readKeys_216 (fun H locs hP hS => ?_)
                        refine lv_aload_n hx hb dX11_readKeys_217 rfl (lv_at hl 2 rfl) ?_
                        refine mdG_newKey C hP mF_X11_60 dX11_readKeys_218 ?_
                        refine lv_aload_n hx hb dX11_readKeys_221 rfl (lv_at hl 2 rfl) ?_
                        refine mdG_newKeys C hP mF_X11_214 dX11_readKeys_222 ?_
                        show W p l e (gRm 2 42) s m args below meth c _ _ 0 0 Q (F0 m 225 ls [.int (iI y17_7), .ref (ad 15)])
                        refine lv_iload_n hx hb dX11_readKeys_225 rfl (lv_at hl 0 rfl) ?_
                        refine mdS_newKey (f1 := (va_up (va_up f 14 (u1 c14_7 y17_7 2)) 16 (u1 c16_7 y17_7 z_12))) C hP hD hS (by omega) (by omega) (by decide) rfl (Or.inr (gF_up (V := mdV) (F := mdF) (gF_up (V := mdV) (F := mdF) (gR_up (V := mdV) (F := mdF) (gR_up (V := mdV) (F := mdF) (gR_up (V := mdV) (F := mdF) (gR_up (V := mdV) (F := mdF) (gR_up (V := mdV) (F := mdF) (gR_up (V := mdV) (F := mdF) (gR_up (V := mdV) (F := mdF) ⟨hok.1, hok.2⟩ 6 (hP.2.1 6)) 7 (hP.2.1 7)) 8 (hP.2.1 8)) 9 (hP.2.1 9)) 10 (hP.2.1 10)) 11 (hP.2.1 11)) 17 (hP.2.1 17)) 14 (u1_rng (hP.2.2 14) (show 0 ≤ 2 ∧ 2 ≤ 3 from (by decide)))) 16 (hP.2.2 16))) dX11_readKeys_226 (fun H locs hP hS => ?_)
                        refine lv_aload_n hx hb dX11_readKeys_227 rfl (lv_at hl 2 rfl) ?_
                        refine lv_dup hx hb dX11_readKeys_228 rfl ?_
                        refine mdG_newKeys C hP mF_X11_214 dX11_readKeys_229 ?_
                        show W p l e (gRm 2 42) s m args below meth c _ _ 0 0 Q (F0 m 232 ls [.int (iI y17_7), .ref (ad 0)])
                        refine lv_iconst (v := iI 1) hx hb dX11_readKeys_232 rfl ?_
                        refine gi_add (z := (y17_7 + 1)) hx hb dX11_readKeys_233 rfl ?_
                        refine mdP_newKeys (v1 := (va_up (va_up (va_up (va_up (va_up (va_up (va_up v 6 w6_171) 7 w7_171) 8 w8_174) 9 w9_174) 10 w10_174) 11 w11_174) 17 (y17_7 + 1))) C hP hD hS mF_X11_214 (by omega) rfl (Or.inr (gF_up (V := mdV) (F := mdF) (gF_up (V := mdV) (F := mdF) (gR_up (V := mdV) (F := mdF) (gR_up (V := mdV) (F := mdF) (gR_up (V := mdV) (F := mdF) (gR_up (V := mdV) (F := mdF) (gR_up (V := mdV) (F := mdF) (gR_up (V := mdV) (F := mdF) (gR_up (V := mdV) (F := mdF) ⟨hok.1, hok.2⟩ 6 (hP.2.1 6)) 7 (hP.2.1 7)) 8 (hP.2.1 8)) 9 (hP.2.1 9)) 10 (hP.2.1 10)) 11 (hP.2.1 11)) 17 (show 0 ≤ (y17_7 + 1) ∧ (y17_7 + 1) ≤ 4 from by omega)) 14 (hP.2.2 14)) 16 (hP.2.2 16))) dX11_readKeys_234 (fun H locs hP hS => ?_)
                        refine lv_aload_n hx hb dX11_readKeys_237 rfl (lv_at hl 2 rfl) ?_
                        refine g_cv (As := []) (rest := []) (n := 0) C hml (n_next l D k A ad hD (va_up (va_up (va_up (va_up (va_up (va_up (va_up v 6 w6_171) 7 w7_171) 8 w8_174) 9 w9_174) 10 w10_174) 11 w11_174) 17 (y17_7 + 1)) (va_up (va_up f 14 (u1 c14_7 y17_7 2)) 16 (u1 c16_7 y17_7 z_12)) (va_up g 0 b0_174) B (show ∀ k, (f 0) k % 256 = B k from hB) (show 0 ≤ w10_174 ∧ w10_174 ≤ (v 3) from by omega)) mM_X11_201 mI_X11_next mE_X11_next mN_X11 mC_X11_next (by decide +kernel) 0 (ci := 11) rfl rfl hP hS (fun _ h => h) ⟨Nat.le_of_ble_eq_true rfl, Nat.le_of_ble_eq_true rfl⟩ ⟨Nat.zero_le _, Nat.zero_le _⟩ hl.1 rfl rfl (Nat.le_of_ble_eq_true rfl) dX11_readKeys_238 (fun r_197 v_197 f_197 g_197 H locs hq_197 hP _ hS => ?_)
                        obtain ⟨w8_197, w9_197, w10_197, w11_197, b0_197, rfl, rfl, rfl, rfl, p0_197⟩ := hq_197
                        show W p l e (gRm 2 42) s m args below meth c _ _ 0 0 Q (F0 m 241 ls [])
                        have hP : gWd D (mdT k ad) (va_up (va_up (va_up (va_up (va_up (va_up (va_up v 6 w6_171) 7 w7_171) 8 w8_197) 9 w9_197) 10 w10_197) 11 w11_197) 17 (y17_7 + 1)) (va_up (va_up f 14 (u1 c14_7 y17_7 2)) 16 (u1 c16_7 y17_7 z_12)) (va_up g 0 b0_197) H := ⟨hP.1, (gF_up (V := mdV) (F := mdF) (gF_up (V := mdV) (F := mdF) (gR_up (V := mdV) (F := mdF) (gR_up (V := mdV) (F := mdF) (gR_up (V := mdV) (F := mdF) (gR_up (V := mdV) (F := mdF) (gR_up (V := mdV) (F := mdF) (gR_up (V := mdV) (F := mdF) (gR_up (V := mdV) (F := mdF) ⟨hok.1, hok.2⟩ 6 (hP.2.1 6)) 7 (hP.2.1 7)) 8 (hP.2.1 8)) 9 (hP.2.1 9)) 10 (hP.2.1 10)) 11 (hP.2.1 11)) 17 (hP.2.1 17)) 14 (hP.2.2 14)) 16 (hP.2.2 16))⟩
                        replace p0_197 : mAt B (v 3) w9_197 w10_197 w8_197 w11_197 (b0_197 0) (run bW B (v 3) w10_174) := p0_197
                        have rw8_197 : 0 ≤ w8_197 ∧ w8_197 ≤ 4 := hP.2.1 8
                        have rw9_197 : 0 ≤ w9_197 ∧ w9_197 ≤ 700 := hP.2.1 9
                        have rw10_197 : 0 ≤ w10_197 ∧ w10_197 ≤ 700 := hP.2.1 10
                        have rw11_197 : 0 ≤ w11_197 ∧ w11_197 ≤ 999999 := hP.2.1 11
                        have hN2 : mAt B (v 3) w9_197 w10_197 w8_197 w11_197 (b0_197 0) (tX B (v 3) (tX B (v 3) qq)) := by have h := p0_197; rw [hN1.bh] at h; exact h
                        clear p0_197
                        have hu2 := tX_up (B := B) (n := (v 3)) (q := (tX B (v 3) qq)) (by have h9 := (not_congr (tK_end (B := B) (n := (v 3)) (q := (tX B (v 3) qq)))).mp (by omega); omega)
                        have hle2 := hN2.le
                        have hky : ky1 B (v 3) y17_7 qq = (0, tX B (v 3) (tX B (v 3) qq)) := ky1_d (by omega) (by omega) (by omega)
                        refine lv_aload_n hx hb dX11_readKeys_241 rfl (lv_at hl 2 rfl) ?_
                        refine lv_bipush (v := iI 44) hx hb dX11_readKeys_242 (by decide) ?_
                        refine g_cv (As := [.int (iI 44)]) (rest := []) (n := 1) C hml (n_isS l D k A ad hD (va_up (va_up (va_up (va_up (va_up (va_up (va_up v 6 w6_171) 7 w7_171) 8 w8_197) 9 w9_197) 10 w10_197) 11 w11_197) 17 (y17_7 + 1)) (va_up (va_up f 14 (u1 c14_7 y17_7 2)) 16 (u1 c16_7 y17_7 z_12)) (va_up g 0 b0_197) 44 B (tX B (v 3) (tX B (v 3) qq)) (by decide) (show mAt B (v 3) w9_197 w10_197 w8_197 w11_197 (b0_197 0) (tX B (v 3) (tX B (v 3) qq)) from hN2) (show 40 ≤ (44 : Int) ∧ (44 : Int) < 256 from by omega)) mM_X11_204 mI_X11_isSign mE_X11_isSign mN_X11 mC_X11_isSign (by decide +kernel) 0 (ci := 11) rfl rfl hP hS (fun _ h => h) ⟨Nat.le_of_ble_eq_true rfl, Nat.le_of_ble_eq_true rfl⟩ ⟨Nat.zero_le _, Nat.zero_le _⟩ hl.1 rfl rfl (Nat.le_of_ble_eq_true rfl) dX11_readKeys_244 (fun r_198 v_198 f_198 g_198 H locs hq_198 hP _ hS => ?_)
                        obtain ⟨z_198, rfl, rfl, rfl, rfl, p0_198, p1_198⟩ := hq_198
                        show W p l e (gRm 2 42) s m args below meth c _ _ 0 0 Q (F0 m 247 ls [.int (iI z_198)])
                        replace p0_198 : 0 ≤ z_198 ∧ z_198 ≤ 1 := p0_198
                        replace p1_198 : z_198 = 1 ↔ (tK B (v 3) (tX B (v 3) (tX B (v 3) qq))) = (44 : Int) := p1_198
                        refine lv_istore_n (lv' := [(1, .int (iI z_198)), (3, .int (iI 2)), (2, .int (iI z_12)), (0, .ref (ad 0))]) hx hb dX11_readKeys_247 rfl hl (by decide) rfl (fun ls hl => ?_)
                        refine lv_iload_n hx hb dX11_readKeys_248 rfl (lv_at hl 0 rfl) ?_
                        refine gi_zeq (tgt := 256) hx hb dX11_readKeys_249 (by decide) (by omega) (fun c_199 => ?_) (fun c_199 => ?_)
                        · have v_198 := mt p1_198.mpr (show ¬ z_198 = 1 by omega)
                          clear p1_198
                          refine lv_goto (tgt := 7) hx hb dX11_readKeys_256 (by decide) ?_
                          exact ih_7 z_198 ((tX B (v 3) (tX B (v 3) qq))) w6_171 w7_171 w8_197 w9_197 w10_197 w11_197 (y17_7 + 1) (u1 c14_7 y17_7 2) (u1 c16_7 y17_7 z_12) b0_197 _ _ _ (by omega) (by omega) hN2 (by omega) (by first | (intro h; exfalso; omega) | exact fun _ => (by rw [← hJ3.get (by omega), kys_go (B := B) (n := (v 3)) (p := qq) (c := y17_7) (by omega) (by omega) (by rw [hky]) (by rw [hky]; show tK B (v 3) (tX B (v 3) (tX B (v 3) qq)) = 44; omega), hky])) (by first | (intro h; exfalso; omega) | exact fun _ => (by rw [← hJ3.get (by omega), kys_stop (B := B) (n := (v 3)) (p := qq) (c := y17_7) (by omega) (by omega) (Or.inr (by rw [hky]; show tK B (v 3) (tX B (v 3) (tX B (v 3) qq)) ≠ 44; omega)), hky])) (by first | (intro h; exfalso; omega) | exact fun _ => (by rw [kyP_s (by omega), ← hC1.get (by omega)])) (by first | (intro h; exfalso; omega) | exact fun _ => (by have h8 := hC2.get (by omega); rw [kyN_go (x := y17_7) (by omega) (by omega)] at h8; omega)) (by first | (intro h; exfalso; omega) | exact fun _ => (by have h8 := hC2.get (by omega); rw [kyN_end (x := y17_7) (by omega) (by omega)] at h8; omega)) (kyM_put hC4.get (by omega) (by rw [← hC1.get (by omega)]; omega) (by rw [← hC1.get (by omega)]; first | (rw [if_pos (by omega)]; omega) | (rw [if_neg (by omega)]; omega))) hP hS (lv_sub hl [3, 0] rfl)
                        · have v_198 := p1_198.mp (show z_198 = 1 by omega)
                          clear p1_198
                          refine lv_aload_n hx hb dX11_readKeys_252 rfl (lv_at hl 3 rfl) ?_
                          refine g_cv (As := []) (rest := []) (n := 0) C hml (n_next l D k A ad hD (va_up (va_up (va_up (va_up (va_up (va_up (va_up v 6 w6_171) 7 w7_171) 8 w8_197) 9 w9_197) 10 w10_197) 11 w11_197) 17 (y17_7 + 1)) (va_up (va_up f 14 (u1 c14_7 y17_7 2)) 16 (u1 c16_7 y17_7 z_12)) (va_up g 0 b0_197) B (show ∀ k, (f 0) k % 256 = B k from hB) (show 0 ≤ w10_197 ∧ w10_197 ≤ (v 3) from by omega)) mM_X11_201 mI_X11_next mE_X11_next mN_X11 mC_X11_next (by decide +kernel) 0 (ci := 11) rfl rfl hP hS (fun _ h => h) ⟨Nat.le_of_ble_eq_true rfl, Nat.le_of_ble_eq_true rfl⟩ ⟨Nat.zero_le _, Nat.zero_le _⟩ hl.1 rfl rfl (Nat.le_of_ble_eq_true rfl) dX11_readKeys_253 (fun r_200 v_200 f_200 g_200 H locs hq_200 hP _ hS => ?_)
                          obtain ⟨w8_200, w9_200, w10_200, w11_200, b0_200, rfl, rfl, rfl, rfl, p0_200⟩ := hq_200
                          show W p l e (gRm 2 42) s m args below meth c _ _ 0 0 Q (F0 m 256 ls [])
                          have hP : gWd D (mdT k ad) (va_up (va_up (va_up (va_up (va_up (va_up (va_up v 6 w6_171) 7 w7_171) 8 w8_200) 9 w9_200) 10 w10_200) 11 w11_200) 17 (y17_7 + 1)) (va_up (va_up f 14 (u1 c14_7 y17_7 2)) 16 (u1 c16_7 y17_7 z_12)) (va_up g 0 b0_200) H := ⟨hP.1, (gF_up (V := mdV) (F := mdF) (gF_up (V := mdV) (F := mdF) (gR_up (V := mdV) (F := mdF) (gR_up (V := mdV) (F := mdF) (gR_up (V := mdV) (F := mdF) (gR_up (V := mdV) (F := mdF) (gR_up (V := mdV) (F := mdF) (gR_up (V := mdV) (F := mdF) (gR_up (V := mdV) (F := mdF) ⟨hok.1, hok.2⟩ 6 (hP.2.1 6)) 7 (hP.2.1 7)) 8 (hP.2.1 8)) 9 (hP.2.1 9)) 10 (hP.2.1 10)) 11 (hP.2.1 11)) 17 (hP.2.1 17)) 14 (hP.2.2 14)) 16 (hP.2.2 16))⟩
                          replace p0_200 : mAt B (v 3) w9_200 w10_200 w8_200 w11_200 (b0_200 0) (run bW B (v 3) w10_197) := p0_200
                          have rw8_200 : 0 ≤ w8_200 ∧ w8_200 ≤ 4 := hP.2.1 8
                          have rw9_200 : 0 ≤ w9_200 ∧ w9_200 ≤ 700 := hP.2.1 9
                          have rw10_200 : 0 ≤ w10_200 ∧ w10_200 ≤ 700 := hP.2.1 10
                          have rw11_200 : 0 ≤ w11_200 ∧ w11_200 ≤ 999999 := hP.2.1 11
                          have hN3 : mAt B (v 3) w9_200 w10_200 w8_200 w11_200 (b0_200 0) (tX B (v 3) (tX B (v 3) (tX B (v 3) qq))) := by have h := p0_200; rw [hN2.bh] at h; exact h
                          clear p0_200
                          have hu3 := tX_up (B := B) (n := (v 3)) (q := (tX B (v 3) (tX B (v 3) qq))) (by have h9 := (not_congr (tK_end (B := B) (n := (v 3)) (q := (tX B (v 3) (tX B (v 3) qq))))).mp (by omega); omega)
                          refine lv_goto (tgt := 7) hx hb dX11_readKeys_256 (by decide) ?_
                          exact ih_7 z_198 ((tX B (v 3) (tX B (v 3) (tX B (v 3) qq)))) w6_171 w7_171 w8_200 w9_200 w10_200 w11_200 (y17_7 + 1) (u1 c14_7 y17_7 2) (u1 c16_7 y17_7 z_12) b0_200 _ _ _ (by omega) (by omega) hN3 (by omega) (by first | (intro h; exfalso; omega) | exact fun _ => (by rw [← hJ3.get (by omega), kys_go (B := B) (n := (v 3)) (p := qq) (c := y17_7) (by omega) (by omega) (by rw [hky]) (by rw [hky]; show tK B (v 3) (tX B (v 3) (tX B (v 3) qq)) = 44; omega), hky])) (by first | (intro h; exfalso; omega) | exact fun _ => (by rw [← hJ3.get (by omega), kys_stop (B := B) (n := (v 3)) (p := qq) (c := y17_7) (by omega) (by omega) (Or.inr (by rw [hky]; show tK B (v 3) (tX B (v 3) (tX B (v 3) qq)) ≠ 44; omega)), hky])) (by first | (intro h; exfalso; omega) | exact fun _ => (by rw [kyP_s (by omega), ← hC1.get (by omega)])) (by first | (intro h; exfalso; omega) | exact fun _ => (by have h8 := hC2.get (by omega); rw [kyN_go (x := y17_7) (by omega) (by omega)] at h8; omega)) (by first | (intro h; exfalso; omega) | exact fun _ => (by have h8 := hC2.get (by omega); rw [kyN_end (x := y17_7) (by omega) (by omega)] at h8; omega)) (kyM_put hC4.get (by omega) (by rw [← hC1.get (by omega)]; omega) (by rw [← hC1.get (by omega)]; first | (rw [if_pos (by omega)]; omega) | (rw [if_neg (by omega)]; omega))) hP hS (lv_sub hl [3, 0] rfl)
                      · exfalso; omega
                  · have v_179 := p1_179.mp (show z_179 = 1 by omega)
                    clear p1_179
                    refine lv_iconst (v := iI 1) hx hb dX11_readKeys_141 rfl ?_
                    refine lv_goto (tgt := 197) hx hb dX11_readKeys_142 (by decide) ?_
                    refine lv_istore_n (lv' := [(3, .int (iI 1)), (2, .int (iI z_12)), (0, .ref (ad 0)), (1, .int (iI x1))]) hx hb dX11_readKeys_197 rfl hl (by decide) rfl (fun ls hl => ?_)
                    refine lv_iload_n hx hb dX11_readKeys_198 rfl (lv_at hl 0 rfl) ?_
                    refine gi_zge (tgt := 207) hx hb dX11_readKeys_199 (by decide) (by decide) (fun c_201 => ?_) (fun c_201 => ?_)
                    · refine lv_aload_n hx hb dX11_readKeys_207 rfl (lv_at hl 2 rfl) ?_
                      refine mdG_newUp C hP mF_X11_67 dX11_readKeys_208 ?_
                      refine lv_aload_n hx hb dX11_readKeys_211 rfl (lv_at hl 2 rfl) ?_
                      refine mdG_newKeys C hP mF_X11_214 dX11_readKeys_212 ?_
                      show W p l e (gRm 2 42) s m args below meth c _ _ 0 0 Q (F0 m 215 ls [.int (iI y17_7), .ref (ad 17)])
                      have r_202 : 0 ≤ y17_7 ∧ y17_7 ≤ 4 := hP.2.1 17
                      refine lv_iload_n hx hb dX11_readKeys_215 rfl (lv_at hl 1 rfl) ?_
                      refine mdS_newUp (f1 := (va_up (va_up f 14 c14_7) 16 (u1 c16_7 y17_7 z_12))) C hP hD hS (by omega) (by omega) (by omega) (by omega) rfl (Or.inr (gF_up (V := mdV) (F := mdF) (gF_up (V := mdV) (F := mdF) (gR_up (V := mdV) (F := mdF) (gR_up (V := mdV) (F := mdF) (gR_up (V := mdV) (F := mdF) (gR_up (V := mdV) (F := mdF) (gR_up (V := mdV) (F := mdF) (gR_up (V := mdV) (F := mdF) (gR_up (V := mdV) (F := mdF) ⟨hok.1, hok.2⟩ 6 (hP.2.1 6)) 7 (hP.2.1 7)) 8 (hP.2.1 8)) 9 (hP.2.1 9)) 10 (hP.2.1 10)) 11 (hP.2.1 11)) 17 (hP.2.1 17)) 14 (hP.2.2 14)) 16 (u1_rng (hP.2.2 16) (show 0 ≤ z_12 ∧ z_12 ≤ 1 from (by omega))))) dX11_readKeys_216 (fun H locs hP hS => ?_)
                      refine lv_aload_n hx hb dX11_readKeys_217 rfl (lv_at hl 2 rfl) ?_
                      refine mdG_newKey C hP mF_X11_60 dX11_readKeys_218 ?_
                      refine lv_aload_n hx hb dX11_readKeys_221 rfl (lv_at hl 2 rfl) ?_
                      refine mdG_newKeys C hP mF_X11_214 dX11_readKeys_222 ?_
                      show W p l e (gRm 2 42) s m args below meth c _ _ 0 0 Q (F0 m 225 ls [.int (iI y17_7), .ref (ad 15)])
                      refine lv_iload_n hx hb dX11_readKeys_225 rfl (lv_at hl 0 rfl) ?_
                      refine mdS_newKey (f1 := (va_up (va_up f 14 (u1 c14_7 y17_7 1)) 16 (u1 c16_7 y17_7 z_12))) C hP hD hS (by omega) (by omega) (by decide) rfl (Or.inr (gF_up (V := mdV) (F := mdF) (gF_up (V := mdV) (F := mdF) (gR_up (V := mdV) (F := mdF) (gR_up (V := mdV) (F := mdF) (gR_up (V := mdV) (F := mdF) (gR_up (V := mdV) (F := mdF) (gR_up (V := mdV) (F := mdF) (gR_up (V := mdV) (F := mdF) (gR_up (V := mdV) (F := mdF) ⟨hok.1, hok.2⟩ 6 (hP.2.1 6)) 7 (hP.2.1 7)) 8 (hP.2.1 8)) 9 (hP.2.1 9)) 10 (hP.2.1 10)) 11 (hP.2.1 11)) 17 (hP.2.1 17)) 14 (u1_rng (hP.2.2 14) (show 0 ≤ 1 ∧ 1 ≤ 3 from (by decide)))) 16 (hP.2.2 16))) dX11_readKeys_226 (fun H locs hP hS => ?_)
                      refine lv_aload_n hx hb dX11_readKeys_227 rfl (lv_at hl 2 rfl) ?_
                      refine lv_dup hx hb dX11_readKeys_228 rfl ?_
                      refine mdG_newKeys C hP mF_X11_214 dX11_readKeys_229 ?_
                      show W p l e (gRm 2 42) s m args below meth c _ _ 0 0 Q (F0 m 232 ls [.int (iI y17_7), .ref (ad 0)])
                      refine lv_iconst (v := iI 1) hx hb dX11_readKeys_232 rfl ?_
                      refine gi_add (z := (y17_7 + 1)) hx hb dX11_readKeys_233 rfl ?_
                      refine mdP_newKeys (v1 := (va_up (va_up (va_up (va_up (va_up (va_up (va_up v 6 w6_171) 7 w7_171) 8 w8_174) 9 w9_174) 10 w10_174) 11 w11_174) 17 (y17_7 + 1))) C hP hD hS mF_X11_214 (by omega) rfl (Or.inr (gF_up (V := mdV) (F := mdF) (gF_up (V := mdV) (F := mdF) (gR_up (V := mdV) (F := mdF) (gR_up (V := mdV) (F := mdF) (gR_up (V := mdV) (F := mdF) (gR_up (V := mdV) (F := mdF) (gR_up (V := mdV) (F := mdF) (gR_up (V := mdV) (F := mdF) (gR_up (V := mdV) (F := mdF) ⟨hok.1, hok.2⟩ 6 (hP.2.1 6)) 7 (hP.2.1 7)) 8 (hP.2.1 8)) 9 (hP.2.1 9)) 10 (hP.2.1 10)) 11 (hP.2.1 11)) 17 (show 0 ≤ (y17_7 + 1) ∧ (y17_7 + 1) ≤ 4 from by omega)) 14 (hP.2.2 14)) 16 (hP.2.2 16))) dX11_readKeys_234 (fun H locs hP hS => ?_)
                      refine lv_aload_n hx hb dX11_readKeys_237 rfl (lv_at hl 2 rfl) ?_
                      refine g_cv (As := []) (rest := []) (n := 0) C hml (n_next l D k A ad hD (va_up (va_up (va_up (va_up (va_up (va_up (va_up v 6 w6_171) 7 w7_171) 8 w8_174) 9 w9_174) 10 w10_174) 11 w11_174) 17 (y17_7 + 1)) (va_up (va_up f 14 (u1 c14_7 y17_7 1)) 16 (u1 c16_7 y17_7 z_12)) (va_up g 0 b0_174) B (show ∀ k, (f 0) k % 256 = B k from hB) (show 0 ≤ w10_174 ∧ w10_174 ≤ (v 3) from by omega)) mM_X11_201 mI_X11_next mE_X11_next mN_X11 mC_X11_next (by decide +kernel) 0 (ci := 11) rfl rfl hP hS (fun _ h => h) ⟨Nat.le_of_ble_eq_true rfl, Nat.le_of_ble_eq_true rfl⟩ ⟨Nat.zero_le _, Nat.zero_le _⟩ hl.1 rfl rfl (Nat.le_of_ble_eq_true rfl) dX11_readKeys_238 (fun r_203 v_203 f_203 g_203 H locs hq_203 hP _ hS => ?_)
                      obtain ⟨w8_203, w9_203, w10_203, w11_203, b0_203, rfl, rfl, rfl, rfl, p0_203⟩ := hq_203
                      show W p l e (gRm 2 42) s m args below meth c _ _ 0 0 Q (F0 m 241 ls [])
                      have hP : gWd D (mdT k ad) (va_up (va_up (va_up (va_up (va_up (va_up (va_up v 6 w6_171) 7 w7_171) 8 w8_203) 9 w9_203) 10 w10_203) 11 w11_203) 17 (y17_7 + 1)) (va_up (va_up f 14 (u1 c14_7 y17_7 1)) 16 (u1 c16_7 y17_7 z_12)) (va_up g 0 b0_203) H := ⟨hP.1, (gF_up (V := mdV) (F := mdF) (gF_up (V := mdV) (F := mdF) (gR_up (V := mdV) (F := mdF) (gR_up (V := mdV) (F := mdF) (gR_up (V := mdV) (F := mdF) (gR_up (V := mdV) (F := mdF) (gR_up (V := mdV) (F := mdF) (gR_up (V := mdV) (F := mdF) (gR_up (V := mdV) (F := mdF) ⟨hok.1, hok.2⟩ 6 (hP.2.1 6)) 7 (hP.2.1 7)) 8 (hP.2.1 8)) 9 (hP.2.1 9)) 10 (hP.2.1 10)) 11 (hP.2.1 11)) 17 (hP.2.1 17)) 14 (hP.2.2 14)) 16 (hP.2.2 16))⟩
                      replace p0_203 : mAt B (v 3) w9_203 w10_203 w8_203 w11_203 (b0_203 0) (run bW B (v 3) w10_174) := p0_203
                      have rw8_203 : 0 ≤ w8_203 ∧ w8_203 ≤ 4 := hP.2.1 8
                      have rw9_203 : 0 ≤ w9_203 ∧ w9_203 ≤ 700 := hP.2.1 9
                      have rw10_203 : 0 ≤ w10_203 ∧ w10_203 ≤ 700 := hP.2.1 10
                      have rw11_203 : 0 ≤ w11_203 ∧ w11_203 ≤ 999999 := hP.2.1 11
                      have hN2 : mAt B (v 3) w9_203 w10_203 w8_203 w11_203 (b0_203 0) (tX B (v 3) (tX B (v 3) qq)) := by have h := p0_203; rw [hN1.bh] at h; exact h
                      clear p0_203
                      have hu2 := tX_up (B := B) (n := (v 3)) (q := (tX B (v 3) qq)) (by have h9 := (not_congr (tK_end (B := B) (n := (v 3)) (q := (tX B (v 3) qq)))).mp (by omega); omega)
                      have hle2 := hN2.le
                      have hky : ky1 B (v 3) y17_7 qq = (0, tX B (v 3) (tX B (v 3) qq)) := ky1_d (by omega) (by omega) (by omega)
                      refine lv_aload_n hx hb dX11_readKeys_241 rfl (lv_at hl 2 rfl) ?_
                      refine lv_bipush (v := iI 44) hx hb dX11_readKeys_242 (by decide) ?_
                      refine g_cv (As := [.int (iI 44)]) (rest := []) (n := 1) C hml (n_isS l D k A ad hD (va_up (va_up (va_up (va_up (va_up (va_up (va_up v 6 w6_171) 7 w7_171) 8 w8_203) 9 w9_203) 10 w10_203) 11 w11_203) 17 (y17_7 + 1)) (va_up (va_up f 14 (u1 c14_7 y17_7 1)) 16 (u1 c16_7 y17_7 z_12)) (va_up g 0 b0_203) 44 B (tX B (v 3) (tX B (v 3) qq)) (by decide) (show mAt B (v 3) w9_203 w10_203 w8_203 w11_203 (b0_203 0) (tX B (v 3) (tX B (v 3) qq)) from hN2) (show 40 ≤ (44 : Int) ∧ (44 : Int) < 256 from by omega)) mM_X11_204 mI_X11_isSign mE_X11_isSign mN_X11 mC_X11_isSign (by decide +kernel) 0 (ci := 11) rfl rfl hP hS (fun _ h => h) ⟨Nat.le_of_ble_eq_true rfl, Nat.le_of_ble_eq_true rfl⟩ ⟨Nat.zero_le _, Nat.zero_le _⟩ hl.1 rfl rfl (Nat.le_of_ble_eq_true rfl) dX11_readKeys_244 (fun r_204 v_204 f_204 g_204 H locs hq_204 hP _ hS => ?_)
                      obtain ⟨z_204, rfl, rfl, rfl, rfl, p0_204, p1_204⟩ := hq_204
                      show W p l e (gRm 2 42) s m args below meth c _ _ 0 0 Q (F0 m 247 ls [.int (iI z_204)])
                      replace p0_204 : 0 ≤ z_204 ∧ z_204 ≤ 1 := p0_204
                      replace p1_204 : z_204 = 1 ↔ (tK B (v 3) (tX B (v 3) (tX B (v 3) qq))) = (44 : Int) := p1_204
                      refine lv_istore_n (lv' := [(1, .int (iI z_204)), (3, .int (iI 1)), (2, .int (iI z_12)), (0, .ref (ad 0))]) hx hb dX11_readKeys_247 rfl hl (by decide) rfl (fun ls hl => ?_)
                      refine lv_iload_n hx hb dX11_readKeys_248 rfl (lv_at hl 0 rfl) ?_
                      refine gi_zeq (tgt := 256) hx hb dX11_readKeys_249 (by decide) (by omega) (fun c_205 => ?_) (fun c_205 => ?_)
                      · have v_204 := mt p1_204.mpr (show ¬ z_204 = 1 by omega)
                        clear p1_204
                        refine lv_goto (tgt := 7) hx hb dX11_readKeys_256 (by decide) ?_
                        exact ih_7 z_204 ((tX B (v 3) (tX B (v 3) qq))) w6_171 w7_171 w8_203 w9_203 w10_203 w11_203 (y17_7 + 1) (u1 c14_7 y17_7 1) (u1 c16_7 y17_7 z_12) b0_203 _ _ _ (by omega) (by omega) hN2 (by omega) (by first | (intro h; exfalso; omega) | exact fun _ => (by rw [← hJ3.get (by omega), kys_go (B := B) (n := (v 3)) (p := qq) (c := y17_7) (by omega) (by omega) (by rw [hky]) (by rw [hky]; show tK B (v 3) (tX B (v 3) (tX B (v 3) qq)) = 44; omega), hky])) (by first | (intro h; exfalso; omega) | exact fun _ => (by rw [← hJ3.get (by omega), kys_stop (B := B) (n := (v 3)) (p := qq) (c := y17_7) (by omega) (by omega) (Or.inr (by rw [hky]; show tK B (v 3) (tX B (v 3) (tX B (v 3) qq)) ≠ 44; omega)), hky])) (by first | (intro h; exfalso; omega) | exact fun _ => (by rw [kyP_s (by omega), ← hC1.get (by omega)])) (by first | (intro h; exfalso; omega) | exact fun _ => (by have h8 := hC2.get (by omega); rw [kyN_go (x := y17_7) (by omega) (by omega)] at h8; omega)) (by first | (intro h; exfalso; omega) | exact fun _ => (by have h8 := hC2.get (by omega); rw [kyN_end (x := y17_7) (by omega) (by omega)] at h8; omega)) (kyM_put hC4.get (by omega) (by rw [← hC1.get (by omega)]; omega) (by rw [← hC1.get (by omega)]; first | (rw [if_pos (by omega)]; omega) | (rw [if_neg (by omega)]; omega))) hP hS (lv_sub hl [3, 0] rfl)
                      · have v_204 := p1_204.mp (show z_204 = 1 by omega)
                        clear p1_204
                        refine lv_aload_n hx hb dX11_readKeys_252 rfl (lv_at hl 3 rfl) ?_
                        refine g_cv (As := []) (rest := []) (n := 0) C hml (n_next l D k A ad hD (va_up (va_up (va_up (va_up (va_up (va_up (va_up v 6 w6_171) 7 w7_171) 8 w8_203) 9 w9_203) 10 w10_203) 11 w11_203) 17 (y17_7 + 1)) (va_up (va_up f 14 (u1 c14_7 y17_7 1)) 16 (u1 c16_7 y17_7 z_12)) (va_up g 0 b0_203) B (show ∀ k, (f 0) k % 256 = B k from hB) (show 0 ≤ w10_203 ∧ w10_203 ≤ (v 3) from by omega)) mM_X11_201 mI_X11_next mE_X11_next mN_X11 mC_X11_next (by decide +kernel) 0 (ci := 11) rfl rfl hP hS (fun _ h => h) ⟨Nat.le_of_ble_eq_true rfl, Nat.le_of_ble_eq_true rfl⟩ ⟨Nat.zero_le _, Nat.zero_le _⟩ hl.1 rfl rfl (Nat.le_of_ble_eq_true rfl) dX11_readKeys_253 (fun r_206 v_206 f_206 g_206 H locs hq_206 hP _ hS => ?_)
                        obtain ⟨w8_206, w9_206, w10_206, w11_206, b0_206, rfl, rfl, rfl, rfl, p0_206⟩ := hq_206
                        show W p l e (gRm 2 42) s m args below meth c _ _ 0 0 Q (F0 m 256 ls [])
                        have hP : gWd D (mdT k ad) (va_up (va_up (va_up (va_up (va_up (va_up (va_up v 6 w6_171) 7 w7_171) 8 w8_206) 9 w9_206) 10 w10_206) 11 w11_206) 17 (y17_7 + 1)) (va_up (va_up f 14 (u1 c14_7 y17_7 1)) 16 (u1 c16_7 y17_7 z_12)) (va_up g 0 b0_206) H := ⟨hP.1, (gF_up (V := mdV) (F := mdF) (gF_up (V := mdV) (F := mdF) (gR_up (V := mdV) (F := mdF) (gR_up (V := mdV) (F := mdF) (gR_up (V := mdV) (F := mdF) (gR_up (V := mdV) (F := mdF) (gR_up (V := mdV) (F := mdF) (gR_up (V := mdV) (F := mdF) (gR_up (V := mdV) (F := mdF) ⟨hok.1, hok.2⟩ 6 (hP.2.1 6)) 7 (hP.2.1 7)) 8 (hP.2.1 8)) 9 (hP.2.1 9)) 10 (hP.2.1 10)) 11 (hP.2.1 11)) 17 (hP.2.1 17)) 14 (hP.2.2 14)) 16 (hP.2.2 16))⟩
                        replace p0_206 : mAt B (v 3) w9_206 w10_206 w8_206 w11_206 (b0_206 0) (run bW B (v 3) w10_203) := p0_206
                        have rw8_206 : 0 ≤ w8_206 ∧ w8_206 ≤ 4 := hP.2.1 8
                        have rw9_206 : 0 ≤ w9_206 ∧ w9_206 ≤ 700 := hP.2.1 9
                        have rw10_206 : 0 ≤ w10_206 ∧ w10_206 ≤ 700 := hP.2.1 10
                        have rw11_206 : 0 ≤ w11_206 ∧ w11_206 ≤ 999999 := hP.2.1 11
                        have hN3 : mAt B (v 3) w9_206 w10_206 w8_206 w11_206 (b0_206 0) (tX B (v 3) (tX B (v 3) (tX B (v 3) qq))) := by have h := p0_206; rw [hN2.bh] at h; exact h
                        clear p0_206
                        have hu3 := tX_up (B := B) (n := (v 3)) (q := (tX B (v 3) (tX B (v 3) qq))) (by have h9 := (not_congr (tK_end (B := B) (n := (v 3)) (q := (tX B (v 3) (tX B (v 3) qq))))).mp (by omega); omega)
                        refine lv_goto (tgt := 7) hx hb dX11_readKeys_256 (by decide) ?_
                        exact ih_7 z_204 ((tX B (v 3) (tX B (v 3) (tX B (v 3) qq)))) w6_171 w7_171 w8_206 w9_206 w10_206 w11_206 (y17_7 + 1) (u1 c14_7 y17_7 1) (u1 c16_7 y17_7 z_12) b0_206 _ _ _ (by omega) (by omega) hN3 (by omega) (by first | (intro h; exfalso; omega) | exact fun _ => (by rw [← hJ3.get (by omega), kys_go (B := B) (n := (v 3)) (p := qq) (c := y17_7) (by omega) (by omega) (by rw [hky]) (by rw [hky]; show tK B (v 3) (tX B (v 3) (tX B (v 3) qq)) = 44; omega), hky])) (by first | (intro h; exfalso; omega) | exact fun _ => (by rw [← hJ3.get (by omega), kys_stop (B := B) (n := (v 3)) (p := qq) (c := y17_7) (by omega) (by omega) (Or.inr (by rw [hky]; show tK B (v 3) (tX B (v 3) (tX B (v 3) qq)) ≠ 44; omega)), hky])) (by first | (intro h; exfalso; omega) | exact fun _ => (by rw [kyP_s (by omega), ← hC1.get (by omega)])) (by first | (intro h; exfalso; omega) | exact fun _ => (by have h8 := hC2.get (by omega); rw [kyN_go (x := y17_7) (by omega) (by omega)] at h8; omega)) (by first | (intro h; exfalso; omega) | exact fun _ => (by have h8 := hC2.get (by omega); rw [kyN_end (x := y17_7) (by omega) (by omega)] at h8; omega)) (kyM_put hC4.get (by omega) (by rw [← hC1.get (by omega)]; omega) (by rw [← hC1.get (by omega)]; first | (rw [if_pos (by omega)]; omega) | (rw [if_neg (by omega)]; omega))) hP hS (lv_sub hl [3, 0] rfl)
                    · exfalso; omega
                · have v_176 := p1_176.mp (show z_176 = 1 by omega)
                  clear p1_176
                  refine lv_iconst (v := iI 0) hx hb dX11_readKeys_116 rfl ?_
                  refine lv_goto (tgt := 197) hx hb dX11_readKeys_117 (by decide) ?_
                  refine lv_istore_n (lv' := [(3, .int (iI 0)), (2, .int (iI z_12)), (0, .ref (ad 0)), (1, .int (iI x1))]) hx hb dX11_readKeys_197 rfl hl (by decide) rfl (fun ls hl => ?_)
                  refine lv_iload_n hx hb dX11_readKeys_198 rfl (lv_at hl 0 rfl) ?_
                  refine gi_zge (tgt := 207) hx hb dX11_readKeys_199 (by decide) (by decide) (fun c_207 => ?_) (fun c_207 => ?_)
                  · refine lv_aload_n hx hb dX11_readKeys_207 rfl (lv_at hl 2 rfl) ?_
                    refine mdG_newUp C hP mF_X11_67 dX11_readKeys_208 ?_
                    refine lv_aload_n hx hb dX11_readKeys_211 rfl (lv_at hl 2 rfl) ?_
                    refine mdG_newKeys C hP mF_X11_214 dX11_readKeys_212 ?_
                    show W p l e (gRm 2 42) s m args below meth c _ _ 0 0 Q (F0 m 215 ls [.int (iI y17_7), .ref (ad 17)])
                    have r_208 : 0 ≤ y17_7 ∧ y17_7 ≤ 4 := hP.2.1 17
                    refine lv_iload_n hx hb dX11_readKeys_215 rfl (lv_at hl 1 rfl) ?_
                    refine mdS_newUp (f1 := (va_up (va_up f 14 c14_7) 16 (u1 c16_7 y17_7 z_12))) C hP hD hS (by omega) (by omega) (by omega) (by omega) rfl (Or.inr (gF_up (V := mdV) (F := mdF) (gF_up (V := mdV) (F := mdF) (gR_up (V := mdV) (F := mdF) (gR_up (V := mdV) (F := mdF) (gR_up (V := mdV) (F := mdF) (gR_up (V := mdV) (F := mdF) (gR_up (V := mdV) (F := mdF) (gR_up (V := mdV) (F := mdF) (gR_up (V := mdV) (F := mdF) ⟨hok.1, hok.2⟩ 6 (hP.2.1 6)) 7 (hP.2.1 7)) 8 (hP.2.1 8)) 9 (hP.2.1 9)) 10 (hP.2.1 10)) 11 (hP.2.1 11)) 17 (hP.2.1 17)) 14 (hP.2.2 14)) 16 (u1_rng (hP.2.2 16) (show 0 ≤ z_12 ∧ z_12 ≤ 1 from (by omega))))) dX11_readKeys_216 (fun H locs hP hS => ?_)
                    refine lv_aload_n hx hb dX11_readKeys_217 rfl (lv_at hl 2 rfl) ?_
                    refine mdG_newKey C hP mF_X11_60 dX11_readKeys_218 ?_
                    refine lv_aload_n hx hb dX11_readKeys_221 rfl (lv_at hl 2 rfl) ?_
                    refine mdG_newKeys C hP mF_X11_214 dX11_readKeys_222 ?_
                    show W p l e (gRm 2 42) s m args below meth c _ _ 0 0 Q (F0 m 225 ls [.int (iI y17_7), .ref (ad 15)])
                    refine lv_iload_n hx hb dX11_readKeys_225 rfl (lv_at hl 0 rfl) ?_
                    refine mdS_newKey (f1 := (va_up (va_up f 14 (u1 c14_7 y17_7 0)) 16 (u1 c16_7 y17_7 z_12))) C hP hD hS (by omega) (by omega) (by decide) rfl (Or.inr (gF_up (V := mdV) (F := mdF) (gF_up (V := mdV) (F := mdF) (gR_up (V := mdV) (F := mdF) (gR_up (V := mdV) (F := mdF) (gR_up (V := mdV) (F := mdF) (gR_up (V := mdV) (F := mdF) (gR_up (V := mdV) (F := mdF) (gR_up (V := mdV) (F := mdF) (gR_up (V := mdV) (F := mdF) ⟨hok.1, hok.2⟩ 6 (hP.2.1 6)) 7 (hP.2.1 7)) 8 (hP.2.1 8)) 9 (hP.2.1 9)) 10 (hP.2.1 10)) 11 (hP.2.1 11)) 17 (hP.2.1 17)) 14 (u1_rng (hP.2.2 14) (show 0 ≤ 0 ∧ 0 ≤ 3 from (by decide)))) 16 (hP.2.2 16))) dX11_readKeys_226 (fun H locs hP hS => ?_)
                    refine lv_aload_n hx hb dX11_readKeys_227 rfl (lv_at hl 2 rfl) ?_
                    refine lv_dup hx hb dX11_readKeys_228 rfl ?_
                    refine mdG_newKeys C hP mF_X11_214 dX11_readKeys_229 ?_
                    show W p l e (gRm 2 42) s m args below meth c _ _ 0 0 Q (F0 m 232 ls [.int (iI y17_7), .ref (ad 0)])
                    refine lv_iconst (v := iI 1) hx hb dX11_readKeys_232 rfl ?_
                    refine gi_add (z := (y17_7 + 1)) hx hb dX11_readKeys_233 rfl ?_
                    refine mdP_newKeys (v1 := (va_up (va_up (va_up (va_up (va_up (va_up (va_up v 6 w6_171) 7 w7_171) 8 w8_174) 9 w9_174) 10 w10_174) 11 w11_174) 17 (y17_7 + 1))) C hP hD hS mF_X11_214 (by omega) rfl (Or.inr (gF_up (V := mdV) (F := mdF) (gF_up (V := mdV) (F := mdF) (gR_up (V := mdV) (F := mdF) (gR_up (V := mdV) (F := mdF) (gR_up (V := mdV) (F := mdF) (gR_up (V := mdV) (F := mdF) (gR_up (V := mdV) (F := mdF) (gR_up (V := mdV) (F := mdF) (gR_up (V := mdV) (F := mdF) ⟨hok.1, hok.2⟩ 6 (hP.2.1 6)) 7 (hP.2.1 7)) 8 (hP.2.1 8)) 9 (hP.2.1 9)) 10 (hP.2.1 10)) 11 (hP.2.1 11)) 17 (show 0 ≤ (y17_7 + 1) ∧ (y17_7 + 1) ≤ 4 from by omega)) 14 (hP.2.2 14)) 16 (hP.2.2 16))) dX11_readKeys_234 (fun H locs hP hS => ?_)
                    refine lv_aload_n hx hb dX11_readKeys_237 rfl (lv_at hl 2 rfl) ?_
                    refine g_cv (As := []) (rest := []) (n := 0) C hml (n_next l D k A ad hD (va_up (va_up (va_up (va_up (va_up (va_up (va_up v 6 w6_171) 7 w7_171) 8 w8_174) 9 w9_174) 10 w10_174) 11 w11_174) 17 (y17_7 + 1)) (va_up (va_up f 14 (u1 c14_7 y17_7 0)) 16 (u1 c16_7 y17_7 z_12)) (va_up g 0 b0_174) B (show ∀ k, (f 0) k % 256 = B k from hB) (show 0 ≤ w10_174 ∧ w10_174 ≤ (v 3) from by omega)) mM_X11_201 mI_X11_next mE_X11_next mN_X11 mC_X11_next (by decide +kernel) 0 (ci := 11) rfl rfl hP hS (fun _ h => h) ⟨Nat.le_of_ble_eq_true rfl, Nat.le_of_ble_eq_true rfl⟩ ⟨Nat.zero_le _, Nat.zero_le _⟩ hl.1 rfl rfl (Nat.le_of_ble_eq_true rfl) dX11_readKeys_238 (fun r_209 v_209 f_209 g_209 H locs hq_209 hP _ hS => ?_)
                    obtain ⟨w8_209, w9_209, w10_209, w11_209, b0_209, rfl, rfl, rfl, rfl, p0_209⟩ := hq_209
                    show W p l e (gRm 2 42) s m args below meth c _ _ 0 0 Q (F0 m 241 ls [])
                    have hP : gWd D (mdT k ad) (va_up (va_up (va_up (va_up (va_up (va_up (va_up v 6 w6_171) 7 w7_171) 8 w8_209) 9 w9_209) 10 w10_209) 11 w11_209) 17 (y17_7 + 1)) (va_up (va_up f 14 (u1 c14_7 y17_7 0)) 16 (u1 c16_7 y17_7 z_12)) (va_up g 0 b0_209) H := ⟨hP.1, (gF_up (V := mdV) (F := mdF) (gF_up (V := mdV) (F := mdF) (gR_up (V := mdV) (F := mdF) (gR_up (V := mdV) (F := mdF) (gR_up (V := mdV) (F := mdF) (gR_up (V := mdV) (F := mdF) (gR_up (V := mdV) (F := mdF) (gR_up (V := mdV) (F := mdF) (gR_up (V := mdV) (F := mdF) ⟨hok.1, hok.2⟩ 6 (hP.2.1 6)) 7 (hP.2.1 7)) 8 (hP.2.1 8)) 9 (hP.2.1 9)) 10 (hP.2.1 10)) 11 (hP.2.1 11)) 17 (hP.2.1 17)) 14 (hP.2.2 14)) 16 (hP.2.2 16))⟩
                    replace p0_209 : mAt B (v 3) w9_209 w10_209 w8_209 w11_209 (b0_209 0) (run bW B (v 3) w10_174) := p0_209
                    have rw8_209 : 0 ≤ w8_209 ∧ w8_209 ≤ 4 := hP.2.1 8
                    have rw9_209 : 0 ≤ w9_209 ∧ w9_209 ≤ 700 := hP.2.1 9
                    have rw10_209 : 0 ≤ w10_209 ∧ w10_209 ≤ 700 := hP.2.1 10
                    have rw11_209 : 0 ≤ w11_209 ∧ w11_209 ≤ 999999 := hP.2.1 11
                    have hN2 : mAt B (v 3) w9_209 w10_209 w8_209 w11_209 (b0_209 0) (tX B (v 3) (tX B (v 3) qq)) := by have h := p0_209; rw [hN1.bh] at h; exact h
                    clear p0_209
                    have hu2 := tX_up (B := B) (n := (v 3)) (q := (tX B (v 3) qq)) (by have h9 := (not_congr (tK_end (B := B) (n := (v 3)) (q := (tX B (v 3) qq)))).mp (by omega); omega)
                    have hle2 := hN2.le
                    have hky : ky1 B (v 3) y17_7 qq = (0, tX B (v 3) (tX B (v 3) qq)) := ky1_d (by omega) (by omega) (by omega)
                    refine lv_aload_n hx hb dX11_readKeys_241 rfl (lv_at hl 2 rfl) ?_
                    refine lv_bipush (v := iI 44) hx hb dX11_readKeys_242 (by decide) ?_
                    refine g_cv (As := [.int (iI 44)]) (rest := []) (n := 1) C hml (n_isS l D k A ad hD (va_up (va_up (va_up (va_up (va_up (va_up (va_up v 6 w6_171) 7 w7_171) 8 w8_209) 9 w9_209) 10 w10_209) 11 w11_209) 17 (y17_7 + 1)) (va_up (va_up f 14 (u1 c14_7 y17_7 0)) 16 (u1 c16_7 y17_7 z_12)) (va_up g 0 b0_209) 44 B (tX B (v 3) (tX B (v 3) qq)) (by decide) (show mAt B (v 3) w9_209 w10_209 w8_209 w11_209 (b0_209 0) (tX B (v 3) (tX B (v 3) qq)) from hN2) (show 40 ≤ (44 : Int) ∧ (44 : Int) < 256 from by omega)) mM_X11_204 mI_X11_isSign mE_X11_isSign mN_X11 mC_X11_isSign (by decide +kernel) 0 (ci := 11) rfl rfl hP hS (fun _ h => h) ⟨Nat.le_of_ble_eq_true rfl, Nat.le_of_ble_eq_true rfl⟩ ⟨Nat.zero_le _, Nat.zero_le _⟩ hl.1 rfl rfl (Nat.le_of_ble_eq_true rfl) dX11_readKeys_244 (fun r_210 v_210 f_210 g_210 H locs hq_210 hP _ hS => ?_)
                    obtain ⟨z_210, rfl, rfl, rfl, rfl, p0_210, p1_210⟩ := hq_210
                    show W p l e (gRm 2 42) s m args below meth c _ _ 0 0 Q (F0 m 247 ls [.int (iI z_210)])
                    replace p0_210 : 0 ≤ z_210 ∧ z_210 ≤ 1 := p0_210
                    replace p1_210 : z_210 = 1 ↔ (tK B (v 3) (tX B (v 3) (tX B (v 3) qq))) = (44 : Int) := p1_210
                    refine lv_istore_n (lv' := [(1, .int (iI z_210)), (3, .int (iI 0)), (2, .int (iI z_12)), (0, .ref (ad 0))]) hx hb dX11_readKeys_247 rfl hl (by decide) rfl (fun ls hl => ?_)
                    refine lv_iload_n hx hb dX11_readKeys_248 rfl (lv_at hl 0 rfl) ?_
                    refine gi_zeq (tgt := 256) hx hb dX11_readKeys_249 (by decide) (by omega) (fun c_211 => ?_) (fun c_211 => ?_)
                    · have v_210 := mt p1_210.mpr (show ¬ z_210 = 1 by omega)
                      clear p1_210
                      refine lv_goto (tgt := 7) hx hb dX11_readKeys_256 (by decide) ?_
                      exact ih_7 z_210 ((tX B (v 3) (tX B (v 3) qq))) w6_171 w7_171 w8_209 w9_209 w10_209 w11_209 (y17_7 + 1) (u1 c14_7 y17_7 0) (u1 c16_7 y17_7 z_12) b0_209 _ _ _ (by omega) (by omega) hN2 (by omega) (by first | (intro h; exfalso; omega) | exact fun _ => (by rw [← hJ3.get (by omega), kys_go (B := B) (n := (v 3)) (p := qq) (c := y17_7) (by omega) (by omega) (by rw [hky]) (by rw [hky]; show tK B (v 3) (tX B (v 3) (tX B (v 3) qq)) = 44; omega), hky])) (by first | (intro h; exfalso; omega) | exact fun _ => (by rw [← hJ3.get (by omega), kys_stop (B := B) (n := (v 3)) (p := qq) (c := y17_7) (by omega) (by omega) (Or.inr (by rw [hky]; show tK B (v 3) (tX B (v 3) (tX B (v 3) qq)) ≠ 44; omega)), hky])) (by first | (intro h; exfalso; omega) | exact fun _ => (by rw [kyP_s (by omega), ← hC1.get (by omega)])) (by first | (intro h; exfalso; omega) | exact fun _ => (by have h8 := hC2.get (by omega); rw [kyN_go (x := y17_7) (by omega) (by omega)] at h8; omega)) (by first | (intro h; exfalso; omega) | exact fun _ => (by have h8 := hC2.get (by omega); rw [kyN_end (x := y17_7) (by omega) (by omega)] at h8; omega)) (kyM_put hC4.get (by omega) (by rw [← hC1.get (by omega)]; omega) (by rw [← hC1.get (by omega)]; first | (rw [if_pos (by omega)]; omega) | (rw [if_neg (by omega)]; omega))) hP hS (lv_sub hl [3, 0] rfl)
                    · have v_210 := p1_210.mp (show z_210 = 1 by omega)
                      clear p1_210
                      refine lv_aload_n hx hb dX11_readKeys_252 rfl (lv_at hl 3 rfl) ?_
                      refine g_cv (As := []) (rest := []) (n := 0) C hml (n_next l D k A ad hD (va_up (va_up (va_up (va_up (va_up (va_up (va_up v 6 w6_171) 7 w7_171) 8 w8_209) 9 w9_209) 10 w10_209) 11 w11_209) 17 (y17_7 + 1)) (va_up (va_up f 14 (u1 c14_7 y17_7 0)) 16 (u1 c16_7 y17_7 z_12)) (va_up g 0 b0_209) B (show ∀ k, (f 0) k % 256 = B k from hB) (show 0 ≤ w10_209 ∧ w10_209 ≤ (v 3) from by omega)) mM_X11_201 mI_X11_next mE_X11_next mN_X11 mC_X11_next (by decide +kernel) 0 (ci := 11) rfl rfl hP hS (fun _ h => h) ⟨Nat.le_of_ble_eq_true rfl, Nat.le_of_ble_eq_true rfl⟩ ⟨Nat.zero_le _, Nat.zero_le _⟩ hl.1 rfl rfl (Nat.le_of_ble_eq_true rfl) dX11_readKeys_253 (fun r_212 v_212 f_212 g_212 H locs hq_212 hP _ hS => ?_)
                      obtain ⟨w8_212, w9_212, w10_212, w11_212, b0_212, rfl, rfl, rfl, rfl, p0_212⟩ := hq_212
                      show W p l e (gRm 2 42) s m args below meth c _ _ 0 0 Q (F0 m 256 ls [])
                      have hP : gWd D (mdT k ad) (va_up (va_up (va_up (va_up (va_up (va_up (va_up v 6 w6_171) 7 w7_171) 8 w8_212) 9 w9_212) 10 w10_212) 11 w11_212) 17 (y17_7 + 1)) (va_up (va_up f 14 (u1 c14_7 y17_7 0)) 16 (u1 c16_7 y17_7 z_12)) (va_up g 0 b0_212) H := ⟨hP.1, (gF_up (V := mdV) (F := mdF) (gF_up (V := mdV) (F := mdF) (gR_up (V := mdV) (F := mdF) (gR_up (V := mdV) (F := mdF) (gR_up (V := mdV) (F := mdF) (gR_up (V := mdV) (F := mdF) (gR_up (V := mdV) (F := mdF) (gR_up (V := mdV) (F := mdF) (gR_up (V := mdV) (F := mdF) ⟨hok.1, hok.2⟩ 6 (hP.2.1 6)) 7 (hP.2.1 7)) 8 (hP.2.1 8)) 9 (hP.2.1 9)) 10 (hP.2.1 10)) 11 (hP.2.1 11)) 17 (hP.2.1 17)) 14 (hP.2.2 14)) 16 (hP.2.2 16))⟩
                      replace p0_212 : mAt B (v 3) w9_212 w10_212 w8_212 w11_212 (b0_212 0) (run bW B (v 3) w10_209) := p0_212
                      have rw8_212 : 0 ≤ w8_212 ∧ w8_212 ≤ 4 := hP.2.1 8
                      have rw9_212 : 0 ≤ w9_212 ∧ w9_212 ≤ 700 := hP.2.1 9
                      have rw10_212 : 0 ≤ w10_212 ∧ w10_212 ≤ 700 := hP.2.1 10
                      have rw11_212 : 0 ≤ w11_212 ∧ w11_212 ≤ 999999 := hP.2.1 11
                      have hN3 : mAt B (v 3) w9_212 w10_212 w8_212 w11_212 (b0_212 0) (tX B (v 3) (tX B (v 3) (tX B (v 3) qq))) := by have h := p0_212; rw [hN2.bh] at h; exact h
                      clear p0_212
                      have hu3 := tX_up (B := B) (n := (v 3)) (q := (tX B (v 3) (tX B (v 3) qq))) (by have h9 := (not_congr (tK_end (B := B) (n := (v 3)) (q := (tX B (v 3) (tX B (v 3) qq))))).mp (by omega); omega)
                      refine lv_goto (tgt := 7) hx hb dX11_readKeys_256 (by decide) ?_
                      exact ih_7 z_210 ((tX B (v 3) (tX B (v 3) (tX B (v 3) qq)))) w6_171 w7_171 w8_212 w9_212 w10_212 w11_212 (y17_7 + 1) (u1 c14_7 y17_7 0) (u1 c16_7 y17_7 z_12) b0_212 _ _ _ (by omega) (by omega) hN3 (by omega) (by first | (intro h; exfalso; omega) | exact fun _ => (by rw [← hJ3.get (by omega), kys_go (B := B) (n := (v 3)) (p := qq) (c := y17_7) (by omega) (by omega) (by rw [hky]) (by rw [hky]; show tK B (v 3) (tX B (v 3) (tX B (v 3) qq)) = 44; omega), hky])) (by first | (intro h; exfalso; omega) | exact fun _ => (by rw [← hJ3.get (by omega), kys_stop (B := B) (n := (v 3)) (p := qq) (c := y17_7) (by omega) (by omega) (Or.inr (by rw [hky]; show tK B (v 3) (tX B (v 3) (tX B (v 3) qq)) ≠ 44; omega)), hky])) (by first | (intro h; exfalso; omega) | exact fun _ => (by rw [kyP_s (by omega), ← hC1.get (by omega)])) (by first | (intro h; exfalso; omega) | exact fun _ => (by have h8 := hC2.get (by omega); rw [kyN_go (x := y17_7) (by omega) (by omega)] at h8; omega)) (by first | (intro h; exfalso; omega) | exact fun _ => (by have h8 := hC2.get (by omega); rw [kyN_end (x := y17_7) (by omega) (by omega)] at h8; omega)) (kyM_put hC4.get (by omega) (by rw [← hC1.get (by omega)]; omega) (by rw [← hC1.get (by omega)]; first | (rw [if_pos (by omega)]; omega) | (rw [if_neg (by omega)]; omega))) hP hS (lv_sub hl [3, 0] rfl)
                  · exfalso; omega
              · exact g_vret hQ C hr hlocks hP hS dX11_readKeys_91 ⟨w6_171, w7_171, y8_7, y9_7, y10_7, y11_7, y17_7, c14_7, c16_7, d0_7, rfl, rfl, rfl, rfl, (by first | exact oM_bad (by rw [← hJ3.get (by omega), kys_stop (c := y17_7) (by omega) (by omega) (Or.inl (by rw [ky1_a (by omega)]; show _ ≠ (0 : Int); omega))]; exact ky1_a (by omega)) (by omega) (by omega) hM | exact oM_bad (by rw [← hJ3.get (by omega), kys_stop (c := y17_7) (by omega) (by omega) (Or.inl (by rw [ky1_b (by omega) (by omega)]; show _ ≠ (0 : Int); omega))]; exact ky1_b (by omega) (by omega)) (by omega) (by omega) hM), (by intro h; exfalso; omega)⟩
  exact L_7 701 1 (pp) (v 6) (v 7) (v 8) (v 9) (v 10) (v 11) 0 (f 14) (f 16) (g 0) _ _ _ (by omega) (by omega) hc hb0 (fun _ => rfl) (fun h => absurd h (by decide)) (fun _ => rfl) (fun _ => by show 0 + kyN _ _ 4 _ = _; omega) (fun h => absurd h (by decide)) (fun j h0 h1 => by omega) hP hS (lv_sub hl [1, 0] rfl)

set_option maxHeartbeats 40000000 in
set_option maxRecDepth 100000 in
theorem q_n_readExpression (l : Launch) (D : va_G) (k : Nat → ClassId) (A : Nat → Prop) (ad : Nat → Nat) (hD : mdD A k ad) (v : gV) (f g : gF) (B : Int → Int) (pp : Int) (hB : ∀ k, (f 0) k % 256 = B k) (hc : mAt B (v 3) (v 9) (v 10) (v 8) (v 11) ((g 0) 0) pp) (hb0 : (v 6) = 0) : GM l D k A (mdT k ad) yX11_readExpression cX11_readExpression 4 none 3 69 [.ref (ad 0)] v f g (fun r v1 f1 g1 => ∃ (w6 : Int) (w7 : Int) (w8 : Int) (w9 : Int) (w10 : Int) (w11 : Int) (w16 : Int) (w20 : Int) (w21 : Int) (w27 : Int) (a11_ : Int → Int) (a12_ : Int → Int) (a17_ : Int → Int) (b0_ : Int → Int), r = none ∧ (va_up (va_up (va_up (va_up (va_up (va_up (va_up (va_up (va_up (va_up v 6 w6) 7 w7) 8 w8) 9 w9) 10 w10) 11 w11) 16 w16) 20 w20) 21 w21) 27 w27) = v1 ∧ (va_up (va_up (va_up f 11 a11_) 12 a12_) 17 a17_) = f1 ∧ (va_up g 0 b0_) = g1 ∧ (∃ o : Int × Int, oM B (v 3) o w6 w7 w9 w10 w8 w11 (b0_ 0) ∧ semi B (v 3) o = semi B (v 3) ((exF B (v 3) 702 pp 0 [] []).1, (exF B (v 3) 702 pp 0 [] []).2.1)) ∧ (w6 = 0 → rpOk w16 a11_ ∧ w16 ≤ 40) ∧ (w6 = 0 → tK B (v 3) w9 = 59 → repC mp (exF B (v 3) 702 pp 0 [] []).2.2 a11_ a12_ w16)) := by
  refine GM.of (by decide) (Nat.le_of_ble_eq_true rfl) ?_
  intro p e s m args below meth c Q ls hQ C hml hr hlocks hP hl
  have hx := C.1
  have hb := C.2.1
  have hok := hP.2
  have hS : va_S A s.heap s.heap [] := va_S.rf
  have hl : lv_has ls 4 [(0, .ref (ad 0))] := hl
  have hP : gWd D (mdT k ad) (va_up (va_up (va_up (va_up (va_up (va_up (va_up (va_up (va_up (va_up v 6 (v 6)) 7 (v 7)) 8 (v 8)) 9 (v 9)) 10 (v 10)) 11 (v 11)) 16 (v 16)) 20 (v 20)) 21 (v 21)) 27 (v 27)) (va_up (va_up (va_up f 11 (f 11)) 12 (f 12)) 17 (f 17)) (va_up g 0 (g 0)) s.heap := by rw [va_id, va_id, va_id, va_id, va_id, va_id, va_id, va_id, va_id, va_id, va_id, va_id, va_id, va_id]; exact hP
  have hpp : 0 ≤ pp ∧ pp ≤ (v 3) := hc.of.2.1
  have r_1 : 0 ≤ (v 9) ∧ (v 9) ≤ 700 := hok.1 9
  have r_2 : 0 ≤ (v 10) ∧ (v 10) ≤ 700 := hok.1 10
  have r_3 : 0 ≤ (v 3) ∧ (v 3) ≤ 700 := hok.1 3
  have r_4 : 0 ≤ (v 8) ∧ (v 8) ≤ 4 := hok.1 8
  have r_5 : 0 ≤ (v 6) ∧ (v 6) ≤ 5 := hok.1 6
  have r_6 : 0 ≤ (v 16) ∧ (v 16) ≤ 41 := hok.1 16
  have r_7 : 0 ≤ (v 20) ∧ (v 20) ≤ 64 := hok.1 20
  have r_8 : 0 ≤ (v 21) ∧ (v 21) ≤ 9 := hok.1 21
  have r_9 : 0 ≤ (v 27) ∧ (v 27) ≤ 41 := hok.1 27
  refine lv_aload_n hx hb dX11_readExpression_0 rfl (lv_at hl 0 rfl) ?_
  refine lv_iconst (v := iI 0) hx hb dX11_readExpression_1 rfl ?_
  refine mdP_newParts (v1 := (va_up (va_up (va_up (va_up (va_up (va_up (va_up (va_up (va_up (va_up v 6 (v 6)) 7 (v 7)) 8 (v 8)) 9 (v 9)) 10 (v 10)) 11 (v 11)) 16 0) 20 (v 20)) 21 (v 21)) 27 (v 27))) C hP hD hS mF_X11_217 (by decide) rfl (Or.inr (gF_up (V := mdV) (F := mdF) (gF_up (V := mdV) (F := mdF) (gF_up (V := mdV) (F := mdF) (gR_up (V := mdV) (F := mdF) (gR_up (V := mdV) (F := mdF) (gR_up (V := mdV) (F := mdF) (gR_up (V := mdV) (F := mdF) (gR_up (V := mdV) (F := mdF) (gR_up (V := mdV) (F := mdF) (gR_up (V := mdV) (F := mdF) (gR_up (V := mdV) (F := mdF) (gR_up (V := mdV) (F := mdF) (gR_up (V := mdV) (F := mdF) ⟨hok.1, hok.2⟩ 6 (hP.2.1 6)) 7 (hP.2.1 7)) 8 (hP.2.1 8)) 9 (hP.2.1 9)) 10 (hP.2.1 10)) 11 (hP.2.1 11)) 16 (show 0 ≤ 0 ∧ 0 ≤ 41 from by decide)) 20 (hP.2.1 20)) 21 (hP.2.1 21)) 27 (hP.2.1 27)) 11 (hP.2.2 11)) 12 (hP.2.2 12)) 17 (hP.2.2 17))) dX11_readExpression_2 (fun H locs hP hS => ?_)
  refine lv_aload_n hx hb dX11_readExpression_5 rfl (lv_at hl 0 rfl) ?_
  refine lv_iconst (v := iI 0) hx hb dX11_readExpression_6 rfl ?_
  refine mdP_counted (v1 := (va_up (va_up (va_up (va_up (va_up (va_up (va_up (va_up (va_up (va_up v 6 (v 6)) 7 (v 7)) 8 (v 8)) 9 (v 9)) 10 (v 10)) 11 (v 11)) 16 0) 20 (v 20)) 21 (v 21)) 27 0)) C hP hD hS mF_X11_249 (by decide) rfl (Or.inr (gF_up (V := mdV) (F := mdF) (gF_up (V := mdV) (F := mdF) (gF_up (V := mdV) (F := mdF) (gR_up (V := mdV) (F := mdF) (gR_up (V := mdV) (F := mdF) (gR_up (V := mdV) (F := mdF) (gR_up (V := mdV) (F := mdF) (gR_up (V := mdV) (F := mdF) (gR_up (V := mdV) (F := mdF) (gR_up (V := mdV) (F := mdF) (gR_up (V := mdV) (F := mdF) (gR_up (V := mdV) (F := mdF) (gR_up (V := mdV) (F := mdF) ⟨hok.1, hok.2⟩ 6 (hP.2.1 6)) 7 (hP.2.1 7)) 8 (hP.2.1 8)) 9 (hP.2.1 9)) 10 (hP.2.1 10)) 11 (hP.2.1 11)) 16 (hP.2.1 16)) 20 (hP.2.1 20)) 21 (hP.2.1 21)) 27 (show 0 ≤ 0 ∧ 0 ≤ 41 from by decide)) 11 (hP.2.2 11)) 12 (hP.2.2 12)) 17 (hP.2.2 17))) dX11_readExpression_7 (fun H locs hP hS => ?_)
  refine lv_aload_n hx hb dX11_readExpression_10 rfl (lv_at hl 0 rfl) ?_
  refine lv_iconst (v := iI 0) hx hb dX11_readExpression_11 rfl ?_
  refine mdP_waiting (v1 := (va_up (va_up (va_up (va_up (va_up (va_up (va_up (va_up (va_up (va_up v 6 (v 6)) 7 (v 7)) 8 (v 8)) 9 (v 9)) 10 (v 10)) 11 (v 11)) 16 0) 20 0) 21 (v 21)) 27 0)) C hP hD hS mF_X11_255 (by decide) rfl (Or.inr (gF_up (V := mdV) (F := mdF) (gF_up (V := mdV) (F := mdF) (gF_up (V := mdV) (F := mdF) (gR_up (V := mdV) (F := mdF) (gR_up (V := mdV) (F := mdF) (gR_up (V := mdV) (F := mdF) (gR_up (V := mdV) (F := mdF) (gR_up (V := mdV) (F := mdF) (gR_up (V := mdV) (F := mdF) (gR_up (V := mdV) (F := mdF) (gR_up (V := mdV) (F := mdF) (gR_up (V := mdV) (F := mdF) (gR_up (V := mdV) (F := mdF) ⟨hok.1, hok.2⟩ 6 (hP.2.1 6)) 7 (hP.2.1 7)) 8 (hP.2.1 8)) 9 (hP.2.1 9)) 10 (hP.2.1 10)) 11 (hP.2.1 11)) 16 (hP.2.1 16)) 20 (show 0 ≤ 0 ∧ 0 ≤ 64 from by decide)) 21 (hP.2.1 21)) 27 (hP.2.1 27)) 11 (hP.2.2 11)) 12 (hP.2.2 12)) 17 (hP.2.2 17))) dX11_readExpression_12 (fun H locs hP hS => ?_)
  refine lv_aload_n hx hb dX11_readExpression_15 rfl (lv_at hl 0 rfl) ?_
  refine lv_iconst (v := iI 0) hx hb dX11_readExpression_16 rfl ?_
  refine mdP_deep (v1 := (va_up (va_up (va_up (va_up (va_up (va_up (va_up (va_up (va_up (va_up v 6 (v 6)) 7 (v 7)) 8 (v 8)) 9 (v 9)) 10 (v 10)) 11 (v 11)) 16 0) 20 0) 21 0) 27 0)) C hP hD hS mF_X11_252 (by decide) rfl (Or.inr (gF_up (V := mdV) (F := mdF) (gF_up (V := mdV) (F := mdF) (gF_up (V := mdV) (F := mdF) (gR_up (V := mdV) (F := mdF) (gR_up (V := mdV) (F := mdF) (gR_up (V := mdV) (F := mdF) (gR_up (V := mdV) (F := mdF) (gR_up (V := mdV) (F := mdF) (gR_up (V := mdV) (F := mdF) (gR_up (V := mdV) (F := mdF) (gR_up (V := mdV) (F := mdF) (gR_up (V := mdV) (F := mdF) (gR_up (V := mdV) (F := mdF) ⟨hok.1, hok.2⟩ 6 (hP.2.1 6)) 7 (hP.2.1 7)) 8 (hP.2.1 8)) 9 (hP.2.1 9)) 10 (hP.2.1 10)) 11 (hP.2.1 11)) 16 (hP.2.1 16)) 20 (hP.2.1 20)) 21 (show 0 ≤ 0 ∧ 0 ≤ 9 from by decide)) 27 (hP.2.1 27)) 11 (hP.2.2 11)) 12 (hP.2.2 12)) 17 (hP.2.2 17))) dX11_readExpression_17 (fun H locs hP hS => ?_)
  refine lv_iconst (v := iI 0) hx hb dX11_readExpression_20 rfl ?_
  refine lv_istore_n (lv' := [(1, .int (iI 0)), (0, .ref (ad 0))]) hx hb dX11_readExpression_21 rfl hl (by decide) rfl (fun ls hl => ?_)
  refine lv_iconst (v := iI 1) hx hb dX11_readExpression_22 rfl ?_
  refine lv_istore_n (lv' := [(2, .int (iI 1)), (1, .int (iI 0)), (0, .ref (ad 0))]) hx hb dX11_readExpression_23 rfl hl (by decide) rfl (fun ls hl => ?_)
  have L_10 : ∀ (n : Nat) (x1 : Int) (x2 : Int) (qq : Int) (S1 : List Int) (E1 : List (Int × Int)) (kk : Nat) (y6_10 : Int) (y7_10 : Int) (y8_10 : Int) (y9_10 : Int) (y10_10 : Int) (y11_10 : Int) (y16_10 : Int) (y20_10 : Int) (y21_10 : Int) (y27_10 : Int) (c11_10 : Int → Int) (c12_10 : Int → Int) (c17_10 : Int → Int) (d0_10 : Int → Int) (H : Heap) (locs : List Loc) (ls : Array Slot), 10 * ((v 3) - qq) + 7 * x2 + 5 - y6_10 < (n : Int) → (0 ≤ x1 ∧ x1 ≤ 1) → ((0 ≤ x2 ∧ x2 ≤ 1) ∧ 0 ≤ qq ∧ qq ≤ (v 3)) → (mAt B (v 3) y9_10 y10_10 y8_10 y11_10 (d0_10 0) qq) → (y6_10 = 0 → xM x1 S1 E1 c17_10 y20_10 c11_10 c12_10 y16_10 y21_10 y27_10 x1) → (y6_10 = 0 → exF B (v 3) kk qq x1 S1 E1 = (exF B (v 3) 702 pp 0 [] [])) → (x2 = 0 → x1 = 1 ∧ ((tK B (v 3) qq) ≠ 43 ∧ (tK B (v 3) qq) ≠ 45 ∧ (tK B (v 3) qq) ≠ 42) ∧ ((tK B (v 3) qq) = 41 → cPa S1 = 0)) → (y6_10 ≠ 0 → y7_10 = qq ∧ (exF B (v 3) 702 pp 0 [] []) = (y6_10, qq, E1)) → ((v 3) - qq < (kk : Int)) → gWd D (mdT k ad) (va_up (va_up (va_up (va_up (va_up (va_up (va_up (va_up (va_up (va_up v 6 y6_10) 7 y7_10) 8 y8_10) 9 y9_10) 10 y10_10) 11 y11_10) 16 y16_10) 20 y20_10) 21 y21_10) 27 y27_10) (va_up (va_up (va_up f 11 c11_10) 12 c12_10) 17 c17_10) (va_up g 0 d0_10) H → va_S A s.heap H locs → lv_has ls 4 [(0, .ref (ad 0)), (1, .int (iI x1)), (2, .int (iI x2))] → W p l e (gRm 3 69) s m args below meth c H locs 0 0 Q (F0 m 24 ls []) := by
    intro n
    induction n with
    | zero =>
      intro x1 x2 qq S1 E1 kk y6_10 y7_10 y8_10 y9_10 y10_10 y11_10 y16_10 y20_10 y21_10 y27_10 c11_10 c12_10 c17_10 d0_10 H locs ls hn_10 i10_0 i10_1 i10_2 i10_3 i10_4 i10_5 i10_6 i10_7 hP hS hl
      have ry6_10 : 0 ≤ y6_10 ∧ y6_10 ≤ 5 := hP.2.1 6
      have ry7_10 : 0 ≤ y7_10 ∧ y7_10 ≤ 700 := hP.2.1 7
      have ry8_10 : 0 ≤ y8_10 ∧ y8_10 ≤ 4 := hP.2.1 8
      have ry9_10 : 0 ≤ y9_10 ∧ y9_10 ≤ 700 := hP.2.1 9
      have ry10_10 : 0 ≤ y10_10 ∧ y10_10 ≤ 700 := hP.2.1 10
      have ry11_10 : 0 ≤ y11_10 ∧ y11_10 ≤ 999999 := hP.2.1 11
      have ry16_10 : 0 ≤ y16_10 ∧ y16_10 ≤ 41 := hP.2.1 16
      have ry20_10 : 0 ≤ y20_10 ∧ y20_10 ≤ 64 := hP.2.1 20
      have ry21_10 : 0 ≤ y21_10 ∧ y21_10 ≤ 9 := hP.2.1 21
      have ry27_10 : 0 ≤ y27_10 ∧ y27_10 ≤ 41 := hP.2.1 27
      exfalso; omega
    | succ n ih_24 =>
      intro x1 x2 qq S1 E1 kk y6_10 y7_10 y8_10 y9_10 y10_10 y11_10 y16_10 y20_10 y21_10 y27_10 c11_10 c12_10 c17_10 d0_10 H locs ls hn_10 i10_0 i10_1 i10_2 i10_3 i10_4 i10_5 i10_6 i10_7 hP hS hl
      have ry6_10 : 0 ≤ y6_10 ∧ y6_10 ≤ 5 := hP.2.1 6
      have ry7_10 : 0 ≤ y7_10 ∧ y7_10 ≤ 700 := hP.2.1 7
      have ry8_10 : 0 ≤ y8_10 ∧ y8_10 ≤ 4 := hP.2.1 8
      have ry9_10 : 0 ≤ y9_10 ∧ y9_10 ≤ 700 := hP.2.1 9
      have ry10_10 : 0 ≤ y10_10 ∧ y10_10 ≤ 700 := hP.2.1 10
      have ry11_10 : 0 ≤ y11_10 ∧ y11_10 ≤ 999999 := hP.2.1 11
      have ry16_10 : 0 ≤ y16_10 ∧ y16_10 ≤ 41 := hP.2.1 16
      have ry20_10 : 0 ≤ y20_10 ∧ y20_10 ≤ 64 := hP.2.1 20
      have ry21_10 : 0 ≤ y21_10 ∧ y21_10 ≤ 9 := hP.2.1 21
      have ry27_10 : 0 ≤ y27_10 ∧ y27_10 ≤ 41 := hP.2.1 27
      have hM := i10_2
      have hJ3 := Bx.mk i10_3
      have hJ4 := Bx.mk i10_4
      have hJ5 := Bx.mk i10_5
      have hJ6 := Bx.mk i10_6
      clear i10_3 i10_4 i10_5 i10_6
      have hat : y9_10 = qq ∧ (0 ≤ qq ∧ qq ≤ (v 3)) := ⟨hM.of.1, hM.of.2.1⟩
      have hle := hM.le
      have hfk := fk_rng B (v 3) qq
      refine lv_iload_n hx hb dX11_readExpression_24 rfl (lv_at hl 2 rfl) ?_
      refine gi_zeq (tgt := 201) hx hb dX11_readExpression_25 (by decide) (by omega) (fun c_11 => ?_) (fun c_11 => ?_)
      · refine lv_aload_n hx hb dX11_readExpression_201 rfl (lv_at hl 0 rfl) ?_
        refine mdG_bad C hP mF_X11_188 dX11_readExpression_202 ?_
        show W p l e (gRm 3 69) s m args below meth c _ _ 0 0 Q (F0 m 205 ls [.int (iI y6_10)])
        have r_12 : 0 ≤ y6_10 ∧ y6_10 ≤ 5 := hP.2.1 6
        refine gi_zle (tgt := 209) hx hb dX11_readExpression_205 (by decide) (by omega) (fun c_13 => ?_) (fun c_13 => ?_)
        · have h5 := hJ5.get (by omega)
          have hX1 : xM 1 S1 E1 c17_10 y20_10 c11_10 c12_10 y16_10 y21_10 y27_10 1 := by have h := hJ3.get (by omega); rw [show x1 = 1 by omega] at h; exact h
          have hO : exF B (v 3) kk qq 1 S1 E1 = (exF B (v 3) 702 pp 0 [] []) := by have h := hJ4.get (by omega); rw [show x1 = 1 by omega] at h; exact h
          have hxr1 := xM_rng hX1
          refine lv_aload_n hx hb dX11_readExpression_209 rfl (lv_at hl 0 rfl) ?_
          refine lv_iconst (v := iI 1) hx hb dX11_readExpression_210 rfl ?_
          refine g_cv (As := [.int (iI 1)]) (rest := []) (n := 1) C hml (n_reduce l D k A ad hD (va_up (va_up (va_up (va_up (va_up (va_up (va_up (va_up (va_up (va_up v 6 y6_10) 7 y7_10) 8 y8_10) 9 y9_10) 10 y10_10) 11 y11_10) 16 y16_10) 20 y20_10) 21 y21_10) 27 y27_10) (va_up (va_up (va_up f 11 c11_10) 12 c12_10) 17 c17_10) (va_up g 0 d0_10) 1 S1 E1 7 (by decide) (show ((1 : Int) = 1 ∧ 7 ≠ 9) ∨ ((1 : Int) = 2 ∧ 7 = 9) from by omega) (show wfS S1 from hX1.1.1) (show hdS S1 ≠ 10 from hX1.1.2.1 rfl) (show rep S1 c17_10 y20_10 from hX1.1.2.2.1) (show repC mp E1 c11_10 c12_10 y16_10 ∧ (E1.length : Int) + cSg S1 ≤ 40 from ⟨hX1.1.2.2.2.1, by omega⟩)) mM_X11_274 mI_X11_reduce mE_X11_reduce mN_X11 mC_X11_reduce (by decide +kernel) 0 (ci := 11) rfl rfl hP hS (fun _ h => h) ⟨Nat.le_of_ble_eq_true rfl, Nat.le_of_ble_eq_true rfl⟩ ⟨Nat.zero_le _, Nat.zero_le _⟩ hl.1 rfl rfl (Nat.le_of_ble_eq_true rfl) dX11_readExpression_211 (fun r_14 v_14 f_14 g_14 H locs hq_14 hP _ hS => ?_)
          obtain ⟨w16_14, w20_14, a11_14, a12_14, rfl, rfl, rfl, rfl, p0_14, p1_14⟩ := hq_14
          show W p l e (gRm 3 69) s m args below meth c _ _ 0 0 Q (F0 m 214 ls [])
          have hP : gWd D (mdT k ad) (va_up (va_up (va_up (va_up (va_up (va_up (va_up (va_up (va_up (va_up v 6 y6_10) 7 y7_10) 8 y8_10) 9 y9_10) 10 y10_10) 11 y11_10) 16 w16_14) 20 w20_14) 21 y21_10) 27 y27_10) (va_up (va_up (va_up f 11 a11_14) 12 a12_14) 17 c17_10) (va_up g 0 d0_10) H := ⟨hP.1, (gF_up (V := mdV) (F := mdF) (gF_up (V := mdV) (F := mdF) (gF_up (V := mdV) (F := mdF) (gR_up (V := mdV) (F := mdF) (gR_up (V := mdV) (F := mdF) (gR_up (V := mdV) (F := mdF) (gR_up (V := mdV) (F := mdF) (gR_up (V := mdV) (F := mdF) (gR_up (V := mdV) (F := mdF) (gR_up (V := mdV) (F := mdF) (gR_up (V := mdV) (F := mdF) (gR_up (V := mdV) (F := mdF) (gR_up (V := mdV) (F := mdF) ⟨hok.1, hok.2⟩ 6 (hP.2.1 6)) 7 (hP.2.1 7)) 8 (hP.2.1 8)) 9 (hP.2.1 9)) 10 (hP.2.1 10)) 11 (hP.2.1 11)) 16 (hP.2.1 16)) 20 (hP.2.1 20)) 21 (hP.2.1 21)) 27 (hP.2.1 27)) 11 (hP.2.2 11)) 12 (hP.2.2 12)) 17 (hP.2.2 17))⟩
          replace p0_14 : rep (rlS 7 S1 E1).1 c17_10 w20_14 := p0_14
          replace p1_14 : repC mp (rlS 7 S1 E1).2 a11_14 a12_14 w16_14 := p1_14
          have rw16_14 : 0 ≤ w16_14 ∧ w16_14 ≤ 41 := hP.2.1 16
          have rw20_14 : 0 ≤ w20_14 ∧ w20_14 ≤ 64 := hP.2.1 20
          have hR0 := p0_14
          have hR1 := p1_14
          have hEn := fun hp => xM_end hX1 hp hR0 hR1
          have hCn := fun hp => (xM_close hX1 hp hR0 hR1 rfl rfl).1
          have hwc : w20_14 = 0 ↔ cPa S1 = 0 := ⟨fun h => by rcases Int.lt_or_le 0 (cPa S1) with h2 | h2; (have := hCn h2; omega); omega, fun h => (hEn h).1⟩
          refine lv_aload_n hx hb dX11_readExpression_214 rfl (lv_at hl 0 rfl) ?_
          refine mdG_waiting C hP mF_X11_255 dX11_readExpression_215 ?_
          show W p l e (gRm 3 69) s m args below meth c _ _ 0 0 Q (F0 m 218 ls [.int (iI w20_14)])
          have r_15 : 0 ≤ w20_14 ∧ w20_14 ≤ 64 := hP.2.1 20
          refine gi_zle (tgt := 225) hx hb dX11_readExpression_218 (by decide) (by omega) (fun c_16 => ?_) (fun c_16 => ?_)
          · exact g_vret hQ C hr hlocks hP hS dX11_readExpression_225 ⟨y6_10, y7_10, y8_10, y9_10, y10_10, y11_10, w16_14, w20_14, y21_10, y27_10, a11_14, a12_14, c17_10, d0_10, rfl, rfl, rfl, rfl, (by first | exact (if hp : cPa S1 = 0 then (if h59 : (tK B (v 3) qq) = 59 then ⟨(0, qq), oM_ok rfl (by omega) hM, by rw [← hO, show kk = (kk - 1) + 1 by omega, exF_end _ h59 hp]⟩ else ⟨(0, qq), oM_ok rfl (by omega) hM, by rw [← hO, show kk = (kk - 1) + 1 by omega, exF_bad1 _ (by omega) (by omega) (by omega), semi_no h59]; exact semi_fk.symm⟩) else (by exfalso; omega)) | exact ⟨(fk B (v 3) qq, qq), oM_bad rfl (by omega) (by omega) hM, by rw [← hO, show kk = (kk - 1) + 1 by omega, exF_bad1 _ (by omega) (by omega) (by omega)]⟩), (by first | (intro h; exfalso; omega) | exact fun _ => (hEn (by omega)).2), (by first | (intro h; exfalso; omega) | exact fun _ h59 => (by have hp := hwc.mp (by omega); rw [← hO, show kk = (kk - 1) + 1 by omega, exF_end _ (by rw [← hat.1]; exact h59) hp]; exact hR1))⟩
          · refine lv_aload_n hx hb dX11_readExpression_221 rfl (lv_at hl 0 rfl) ?_
            refine g_cv (As := []) (rest := []) (n := 0) C hml (n_wrC l D k A ad hD (va_up (va_up (va_up (va_up (va_up (va_up (va_up (va_up (va_up (va_up v 6 y6_10) 7 y7_10) 8 y8_10) 9 y9_10) 10 y10_10) 11 y11_10) 16 w16_14) 20 w20_14) 21 y21_10) 27 y27_10) (va_up (va_up (va_up f 11 a11_14) 12 a12_14) 17 c17_10) (va_up g 0 d0_10) B qq (show mAt B (v 3) y9_10 y10_10 y8_10 y11_10 (d0_10 0) qq from hM)) mM_X11_198 mI_X11_wrong mE_X11_wrong mN_X11 mC_X11_wrong (by decide +kernel) 0 (ci := 11) rfl rfl hP hS (fun _ h => h) ⟨Nat.le_of_ble_eq_true rfl, Nat.le_of_ble_eq_true rfl⟩ ⟨Nat.zero_le _, Nat.zero_le _⟩ hl.1 rfl rfl (Nat.le_of_ble_eq_true rfl) dX11_readExpression_222 (fun r_17 v_17 f_17 g_17 H locs hq_17 hP _ hS => ?_)
            obtain ⟨w6_17, w7_17, rfl, rfl, rfl, rfl, p0_17, p1_17⟩ := hq_17
            show W p l e (gRm 3 69) s m args below meth c _ _ 0 0 Q (F0 m 225 ls [])
            have hP : gWd D (mdT k ad) (va_up (va_up (va_up (va_up (va_up (va_up (va_up (va_up (va_up (va_up v 6 w6_17) 7 w7_17) 8 y8_10) 9 y9_10) 10 y10_10) 11 y11_10) 16 w16_14) 20 w20_14) 21 y21_10) 27 y27_10) (va_up (va_up (va_up f 11 a11_14) 12 a12_14) 17 c17_10) (va_up g 0 d0_10) H := ⟨hP.1, (gF_up (V := mdV) (F := mdF) (gF_up (V := mdV) (F := mdF) (gF_up (V := mdV) (F := mdF) (gR_up (V := mdV) (F := mdF) (gR_up (V := mdV) (F := mdF) (gR_up (V := mdV) (F := mdF) (gR_up (V := mdV) (F := mdF) (gR_up (V := mdV) (F := mdF) (gR_up (V := mdV) (F := mdF) (gR_up (V := mdV) (F := mdF) (gR_up (V := mdV) (F := mdF) (gR_up (V := mdV) (F := mdF) (gR_up (V := mdV) (F := mdF) ⟨hok.1, hok.2⟩ 6 (hP.2.1 6)) 7 (hP.2.1 7)) 8 (hP.2.1 8)) 9 (hP.2.1 9)) 10 (hP.2.1 10)) 11 (hP.2.1 11)) 16 (hP.2.1 16)) 20 (hP.2.1 20)) 21 (hP.2.1 21)) 27 (hP.2.1 27)) 11 (hP.2.2 11)) 12 (hP.2.2 12)) 17 (hP.2.2 17))⟩
            replace p0_17 : y6_10 = 0 → w6_17 = (fk B (v 3) qq) ∧ w7_17 = qq := p0_17
            replace p1_17 : 0 < y6_10 → w6_17 = y6_10 ∧ w7_17 = y7_10 := p1_17
            have rw6_17 : 0 ≤ w6_17 ∧ w6_17 ≤ 5 := hP.2.1 6
            have rw7_17 : 0 ≤ w7_17 ∧ w7_17 ≤ 700 := hP.2.1 7
            first | replace p0_17 := p0_17 (by omega) | clear p0_17
            first | replace p1_17 := p1_17 (by omega) | clear p1_17
            exact g_vret hQ C hr hlocks hP hS dX11_readExpression_225 ⟨w6_17, w7_17, y8_10, y9_10, y10_10, y11_10, w16_14, w20_14, y21_10, y27_10, a11_14, a12_14, c17_10, d0_10, rfl, rfl, rfl, rfl, (by first | exact (if hp : cPa S1 = 0 then (if h59 : (tK B (v 3) qq) = 59 then ⟨(0, qq), oM_ok rfl (by omega) hM, by rw [← hO, show kk = (kk - 1) + 1 by omega, exF_end _ h59 hp]⟩ else ⟨(0, qq), oM_ok rfl (by omega) hM, by rw [← hO, show kk = (kk - 1) + 1 by omega, exF_bad1 _ (by omega) (by omega) (by omega), semi_no h59]; exact semi_fk.symm⟩) else (by exfalso; omega)) | exact ⟨(fk B (v 3) qq, qq), oM_bad rfl (by omega) (by omega) hM, by rw [← hO, show kk = (kk - 1) + 1 by omega, exF_bad1 _ (by omega) (by omega) (by omega)]⟩), (by first | (intro h; exfalso; omega) | exact fun _ => (hEn (by omega)).2), (by first | (intro h; exfalso; omega) | exact fun _ h59 => (by have hp := hwc.mp (by omega); rw [← hO, show kk = (kk - 1) + 1 by omega, exF_end _ (by rw [← hat.1]; exact h59) hp]; exact hR1))⟩
        · exact g_vret hQ C hr hlocks hP hS dX11_readExpression_208 ⟨y6_10, y7_10, y8_10, y9_10, y10_10, y11_10, y16_10, y20_10, y21_10, y27_10, c11_10, c12_10, c17_10, d0_10, rfl, rfl, rfl, rfl, ⟨(y6_10, qq), ⟨rfl, fun _ => (hJ6.get (by omega)).1, hM⟩, by rw [(hJ6.get (by omega)).2]⟩, (by intro h; exfalso; omega), (by intro h; exfalso; omega)⟩
      · refine lv_aload_n hx hb dX11_readExpression_28 rfl (lv_at hl 0 rfl) ?_
        refine mdG_bad C hP mF_X11_188 dX11_readExpression_29 ?_
        show W p l e (gRm 3 69) s m args below meth c _ _ 0 0 Q (F0 m 32 ls [.int (iI y6_10)])
        have r_18 : 0 ≤ y6_10 ∧ y6_10 ≤ 5 := hP.2.1 6
        refine gi_zne (tgt := 201) hx hb dX11_readExpression_32 (by decide) (by omega) (fun c_19 => ?_) (fun c_19 => ?_)
        · refine lv_aload_n hx hb dX11_readExpression_201 rfl (lv_at hl 0 rfl) ?_
          refine mdG_bad C hP mF_X11_188 dX11_readExpression_202 ?_
          show W p l e (gRm 3 69) s m args below meth c _ _ 0 0 Q (F0 m 205 ls [.int (iI y6_10)])
          refine gi_zle (tgt := 209) hx hb dX11_readExpression_205 (by decide) (by omega) (fun c_20 => ?_) (fun c_20 => ?_)
          · have h5 := hJ5.get (by omega)
            have hX1 : xM 1 S1 E1 c17_10 y20_10 c11_10 c12_10 y16_10 y21_10 y27_10 1 := by have h := hJ3.get (by omega); rw [show x1 = 1 by omega] at h; exact h
            have hO : exF B (v 3) kk qq 1 S1 E1 = (exF B (v 3) 702 pp 0 [] []) := by have h := hJ4.get (by omega); rw [show x1 = 1 by omega] at h; exact h
            have hxr1 := xM_rng hX1
            refine lv_aload_n hx hb dX11_readExpression_209 rfl (lv_at hl 0 rfl) ?_
            refine lv_iconst (v := iI 1) hx hb dX11_readExpression_210 rfl ?_
            refine g_cv (As := [.int (iI 1)]) (rest := []) (n := 1) C hml (n_reduce l D k A ad hD (va_up (va_up (va_up (va_up (va_up (va_up (va_up (va_up (va_up (va_up v 6 y6_10) 7 y7_10) 8 y8_10) 9 y9_10) 10 y10_10) 11 y11_10) 16 y16_10) 20 y20_10) 21 y21_10) 27 y27_10) (va_up (va_up (va_up f 11 c11_10) 12 c12_10) 17 c17_10) (va_up g 0 d0_10) 1 S1 E1 7 (by decide) (show ((1 : Int) = 1 ∧ 7 ≠ 9) ∨ ((1 : Int) = 2 ∧ 7 = 9) from by omega) (show wfS S1 from hX1.1.1) (show hdS S1 ≠ 10 from hX1.1.2.1 rfl) (show rep S1 c17_10 y20_10 from hX1.1.2.2.1) (show repC mp E1 c11_10 c12_10 y16_10 ∧ (E1.length : Int) + cSg S1 ≤ 40 from ⟨hX1.1.2.2.2.1, by omega⟩)) mM_X11_274 mI_X11_reduce mE_X11_reduce mN_X11 mC_X11_reduce (by decide +kernel) 0 (ci := 11) rfl rfl hP hS (fun _ h => h) ⟨Nat.le_of_ble_eq_true rfl, Nat.le_of_ble_eq_true rfl⟩ ⟨Nat.zero_le _, Nat.zero_le _⟩ hl.1 rfl rfl (Nat.le_of_ble_eq_true rfl) dX11_readExpression_211 (fun r_21 v_21 f_21 g_21 H locs hq_21 hP _ hS => ?_)
            obtain ⟨w16_21, w20_21, a11_21, a12_21, rfl, rfl, rfl, rfl, p0_21, p1_21⟩ := hq_21
            show W p l e (gRm 3 69) s m args below meth c _ _ 0 0 Q (F0 m 214 ls [])
            have hP : gWd D (mdT k ad) (va_up (va_up (va_up (va_up (va_up (va_up (va_up (va_up (va_up (va_up v 6 y6_10) 7 y7_10) 8 y8_10) 9 y9_10) 10 y10_10) 11 y11_10) 16 w16_21) 20 w20_21) 21 y21_10) 27 y27_10) (va_up (va_up (va_up f 11 a11_21) 12 a12_21) 17 c17_10) (va_up g 0 d0_10) H := ⟨hP.1, (gF_up (V := mdV) (F := mdF) (gF_up (V := mdV) (F := mdF) (gF_up (V := mdV) (F := mdF) (gR_up (V := mdV) (F := mdF) (gR_up (V := mdV) (F := mdF) (gR_up (V := mdV) (F := mdF) (gR_up (V := mdV) (F := mdF) (gR_up (V := mdV) (F := mdF) (gR_up (V := mdV) (F := mdF) (gR_up (V := mdV) (F := mdF) (gR_up (V := mdV) (F := mdF) (gR_up (V := mdV) (F := mdF) (gR_up (V := mdV) (F := mdF) ⟨hok.1, hok.2⟩ 6 (hP.2.1 6)) 7 (hP.2.1 7)) 8 (hP.2.1 8)) 9 (hP.2.1 9)) 10 (hP.2.1 10)) 11 (hP.2.1 11)) 16 (hP.2.1 16)) 20 (hP.2.1 20)) 21 (hP.2.1 21)) 27 (hP.2.1 27)) 11 (hP.2.2 11)) 12 (hP.2.2 12)) 17 (hP.2.2 17))⟩
            replace p0_21 : rep (rlS 7 S1 E1).1 c17_10 w20_21 := p0_21
            replace p1_21 : repC mp (rlS 7 S1 E1).2 a11_21 a12_21 w16_21 := p1_21
            have rw16_21 : 0 ≤ w16_21 ∧ w16_21 ≤ 41 := hP.2.1 16
            have rw20_21 : 0 ≤ w20_21 ∧ w20_21 ≤ 64 := hP.2.1 20
            have hR0 := p0_21
            have hR1 := p1_21
            have hEn := fun hp => xM_end hX1 hp hR0 hR1
            have hCn := fun hp => (xM_close hX1 hp hR0 hR1 rfl rfl).1
            have hwc : w20_21 = 0 ↔ cPa S1 = 0 := ⟨fun h => by rcases Int.lt_or_le 0 (cPa S1) with h2 | h2; (have := hCn h2; omega); omega, fun h => (hEn h).1⟩
            refine lv_aload_n hx hb dX11_readExpression_214 rfl (lv_at hl 0 rfl) ?_
            refine mdG_waiting C hP mF_X11_255 dX11_readExpression_215 ?_
            show W p l e (gRm 3 69) s m args below meth c _ _ 0 0 Q (F0 m 218 ls [.int (iI w20_21)])
            have r_22 : 0 ≤ w20_21 ∧ w20_21 ≤ 64 := hP.2.1 20
            refine gi_zle (tgt := 225) hx hb dX11_readExpression_218 (by decide) (by omega) (fun c_23 => ?_) (fun c_23 => ?_)
            · exact g_vret hQ C hr hlocks hP hS dX11_readExpression_225 ⟨y6_10, y7_10, y8_10, y9_10, y10_10, y11_10, w16_21, w20_21, y21_10, y27_10, a11_21, a12_21, c17_10, d0_10, rfl, rfl, rfl, rfl, (by first | exact (if hp : cPa S1 = 0 then (if h59 : (tK B (v 3) qq) = 59 then ⟨(0, qq), oM_ok rfl (by omega) hM, by rw [← hO, show kk = (kk - 1) + 1 by omega, exF_end _ h59 hp]⟩ else ⟨(0, qq), oM_ok rfl (by omega) hM, by rw [← hO, show kk = (kk - 1) + 1 by omega, exF_bad1 _ (by omega) (by omega) (by omega), semi_no h59]; exact semi_fk.symm⟩) else (by exfalso; omega)) | exact ⟨(fk B (v 3) qq, qq), oM_bad rfl (by omega) (by omega) hM, by rw [← hO, show kk = (kk - 1) + 1 by omega, exF_bad1 _ (by omega) (by omega) (by omega)]⟩), (by first | (intro h; exfalso; omega) | exact fun _ => (hEn (by omega)).2), (by first | (intro h; exfalso; omega) | exact fun _ h59 => (by have hp := hwc.mp (by omega); rw [← hO, show kk = (kk - 1) + 1 by omega, exF_end _ (by rw [← hat.1]; exact h59) hp]; exact hR1))⟩
            · refine lv_aload_n hx hb dX11_readExpression_221 rfl (lv_at hl 0 rfl) ?_
              refine g_cv (As := []) (rest := []) (n := 0) C hml (n_wrC l D k A ad hD (va_up (va_up (va_up (va_up (va_up (va_up (va_up (va_up (va_up (va_up v 6 y6_10) 7 y7_10) 8 y8_10) 9 y9_10) 10 y10_10) 11 y11_10) 16 w16_21) 20 w20_21) 21 y21_10) 27 y27_10) (va_up (va_up (va_up f 11 a11_21) 12 a12_21) 17 c17_10) (va_up g 0 d0_10) B qq (show mAt B (v 3) y9_10 y10_10 y8_10 y11_10 (d0_10 0) qq from hM)) mM_X11_198 mI_X11_wrong mE_X11_wrong mN_X11 mC_X11_wrong (by decide +kernel) 0 (ci := 11) rfl rfl hP hS (fun _ h => h) ⟨Nat.le_of_ble_eq_true rfl, Nat.le_of_ble_eq_true rfl⟩ ⟨Nat.zero_le _, Nat.zero_le _⟩ hl.1 rfl rfl (Nat.le_of_ble_eq_true rfl) dX11_readExpression_222 (fun r_24 v_24 f_24 g_24 H locs hq_24 hP _ hS => ?_)
              obtain ⟨w6_24, w7_24, rfl, rfl, rfl, rfl, p0_24, p1_24⟩ := hq_24
              show W p l e (gRm 3 69) s m args below meth c _ _ 0 0 Q (F0 m 225 ls [])
              have hP : gWd D (mdT k ad) (va_up (va_up (va_up (va_up (va_up (va_up (va_up (va_up (va_up (va_up v 6 w6_24) 7 w7_24) 8 y8_10) 9 y9_10) 10 y10_10) 11 y11_10) 16 w16_21) 20 w20_21) 21 y21_10) 27 y27_10) (va_up (va_up (va_up f 11 a11_21) 12 a12_21) 17 c17_10) (va_up g 0 d0_10) H := ⟨hP.1, (gF_up (V := mdV) (F := mdF) (gF_up (V := mdV) (F := mdF) (gF_up (V := mdV) (F := mdF) (gR_up (V := mdV) (F := mdF) (gR_up (V := mdV) (F := mdF) (gR_up (V := mdV) (F := mdF) (gR_up (V := mdV) (F := mdF) (gR_up (V := mdV) (F := mdF) (gR_up (V := mdV) (F := mdF) (gR_up (V := mdV) (F := mdF) (gR_up (V := mdV) (F := mdF) (gR_up (V := mdV) (F := mdF) (gR_up (V := mdV) (F := mdF) ⟨hok.1, hok.2⟩ 6 (hP.2.1 6)) 7 (hP.2.1 7)) 8 (hP.2.1 8)) 9 (hP.2.1 9)) 10 (hP.2.1 10)) 11 (hP.2.1 11)) 16 (hP.2.1 16)) 20 (hP.2.1 20)) 21 (hP.2.1 21)) 27 (hP.2.1 27)) 11 (hP.2.2 11)) 12 (hP.2.2 12)) 17 (hP.2.2 17))⟩
              replace p0_24 : y6_10 = 0 → w6_24 = (fk B (v 3) qq) ∧ w7_24 = qq := p0_24
              replace p1_24 : 0 < y6_10 → w6_24 = y6_10 ∧ w7_24 = y7_10 := p1_24
              have rw6_24 : 0 ≤ w6_24 ∧ w6_24 ≤ 5 := hP.2.1 6
              have rw7_24 : 0 ≤ w7_24 ∧ w7_24 ≤ 700 := hP.2.1 7
              first | replace p0_24 := p0_24 (by omega) | clear p0_24
              first | replace p1_24 := p1_24 (by omega) | clear p1_24
              exact g_vret hQ C hr hlocks hP hS dX11_readExpression_225 ⟨w6_24, w7_24, y8_10, y9_10, y10_10, y11_10, w16_21, w20_21, y21_10, y27_10, a11_21, a12_21, c17_10, d0_10, rfl, rfl, rfl, rfl, (by first | exact (if hp : cPa S1 = 0 then (if h59 : (tK B (v 3) qq) = 59 then ⟨(0, qq), oM_ok rfl (by omega) hM, by rw [← hO, show kk = (kk - 1) + 1 by omega, exF_end _ h59 hp]⟩ else ⟨(0, qq), oM_ok rfl (by omega) hM, by rw [← hO, show kk = (kk - 1) + 1 by omega, exF_bad1 _ (by omega) (by omega) (by omega), semi_no h59]; exact semi_fk.symm⟩) else (by exfalso; omega)) | exact ⟨(fk B (v 3) qq, qq), oM_bad rfl (by omega) (by omega) hM, by rw [← hO, show kk = (kk - 1) + 1 by omega, exF_bad1 _ (by omega) (by omega) (by omega)]⟩), (by first | (intro h; exfalso; omega) | exact fun _ => (hEn (by omega)).2), (by first | (intro h; exfalso; omega) | exact fun _ h59 => (by have hp := hwc.mp (by omega); rw [← hO, show kk = (kk - 1) + 1 by omega, exF_end _ (by rw [← hat.1]; exact h59) hp]; exact hR1))⟩
          · exact g_vret hQ C hr hlocks hP hS dX11_readExpression_208 ⟨y6_10, y7_10, y8_10, y9_10, y10_10, y11_10, y16_10, y20_10, y21_10, y27_10, c11_10, c12_10, c17_10, d0_10, rfl, rfl, rfl, rfl, ⟨(y6_10, qq), ⟨rfl, fun _ => (hJ6.get (by omega)).1, hM⟩, by rw [(hJ6.get (by omega)).2]⟩, (by intro h; exfalso; omega), (by intro h; exfalso; omega)⟩
        · refine lv_iload_n hx hb dX11_readExpression_35 rfl (lv_at hl 1 rfl) ?_
          refine gi_zne (tgt := 62) hx hb dX11_readExpression_36 (by decide) (by omega) (fun c_25 => ?_) (fun c_25 => ?_)
          · have hX1 : xM 1 S1 E1 c17_10 y20_10 c11_10 c12_10 y16_10 y21_10 y27_10 1 := by have h := hJ3.get (by omega); rw [show x1 = 1 by omega] at h; exact h
            have hO : exF B (v 3) kk qq 1 S1 E1 = (exF B (v 3) 702 pp 0 [] []) := by have h := hJ4.get (by omega); rw [show x1 = 1 by omega] at h; exact h
            have hxr1 := xM_rng hX1
            refine lv_aload_n hx hb dX11_readExpression_62 rfl (lv_at hl 0 rfl) ?_
            refine lv_bipush (v := iI 43) hx hb dX11_readExpression_63 (by decide) ?_
            refine g_cv (As := [.int (iI 43)]) (rest := []) (n := 1) C hml (n_isS l D k A ad hD (va_up (va_up (va_up (va_up (va_up (va_up (va_up (va_up (va_up (va_up v 6 y6_10) 7 y7_10) 8 y8_10) 9 y9_10) 10 y10_10) 11 y11_10) 16 y16_10) 20 y20_10) 21 y21_10) 27 y27_10) (va_up (va_up (va_up f 11 c11_10) 12 c12_10) 17 c17_10) (va_up g 0 d0_10) 43 B qq (by decide) (show mAt B (v 3) y9_10 y10_10 y8_10 y11_10 (d0_10 0) qq from hM) (show 40 ≤ (43 : Int) ∧ (43 : Int) < 256 from by omega)) mM_X11_204 mI_X11_isSign mE_X11_isSign mN_X11 mC_X11_isSign (by decide +kernel) 0 (ci := 11) rfl rfl hP hS (fun _ h => h) ⟨Nat.le_of_ble_eq_true rfl, Nat.le_of_ble_eq_true rfl⟩ ⟨Nat.zero_le _, Nat.zero_le _⟩ hl.1 rfl rfl (Nat.le_of_ble_eq_true rfl) dX11_readExpression_65 (fun r_26 v_26 f_26 g_26 H locs hq_26 hP _ hS => ?_)
            obtain ⟨z_26, rfl, rfl, rfl, rfl, p0_26, p1_26⟩ := hq_26
            show W p l e (gRm 3 69) s m args below meth c _ _ 0 0 Q (F0 m 68 ls [.int (iI z_26)])
            replace p0_26 : 0 ≤ z_26 ∧ z_26 ≤ 1 := p0_26
            replace p1_26 : z_26 = 1 ↔ (tK B (v 3) qq) = (43 : Int) := p1_26
            refine gi_zeq (tgt := 76) hx hb dX11_readExpression_68 (by decide) (by omega) (fun c_27 => ?_) (fun c_27 => ?_)
            · have v_26 := mt p1_26.mpr (show ¬ z_26 = 1 by omega)
              clear p1_26
              refine lv_aload_n hx hb dX11_readExpression_76 rfl (lv_at hl 0 rfl) ?_
              refine lv_bipush (v := iI 45) hx hb dX11_readExpression_77 (by decide) ?_
              refine g_cv (As := [.int (iI 45)]) (rest := []) (n := 1) C hml (n_isS l D k A ad hD (va_up (va_up (va_up (va_up (va_up (va_up (va_up (va_up (va_up (va_up v 6 y6_10) 7 y7_10) 8 y8_10) 9 y9_10) 10 y10_10) 11 y11_10) 16 y16_10) 20 y20_10) 21 y21_10) 27 y27_10) (va_up (va_up (va_up f 11 c11_10) 12 c12_10) 17 c17_10) (va_up g 0 d0_10) 45 B qq (by decide) (show mAt B (v 3) y9_10 y10_10 y8_10 y11_10 (d0_10 0) qq from hM) (show 40 ≤ (45 : Int) ∧ (45 : Int) < 256 from by omega)) mM_X11_204 mI_X11_isSign mE_X11_isSign mN_X11 mC_X11_isSign (by decide +kernel) 0 (ci := 11) rfl rfl hP hS (fun _ h => h) ⟨Nat.le_of_ble_eq_true rfl, Nat.le_of_ble_eq_true rfl⟩ ⟨Nat.zero_le _, Nat.zero_le _⟩ hl.1 rfl rfl (Nat.le_of_ble_eq_true rfl) dX11_readExpression_79 (fun r_28 v_28 f_28 g_28 H locs hq_28 hP _ hS => ?_)
              obtain ⟨z_28, rfl, rfl, rfl, rfl, p0_28, p1_28⟩ := hq_28
              show W p l e (gRm 3 69) s m args below meth c _ _ 0 0 Q (F0 m 82 ls [.int (iI z_28)])
              replace p0_28 : 0 ≤ z_28 ∧ z_28 ≤ 1 := p0_28
              replace p1_28 : z_28 = 1 ↔ (tK B (v 3) qq) = (45 : Int) := p1_28
              refine gi_zeq (tgt := 90) hx hb dX11_readExpression_82 (by decide) (by omega) (fun c_29 => ?_) (fun c_29 => ?_)
              · have v_28 := mt p1_28.mpr (show ¬ z_28 = 1 by omega)
                clear p1_28
                refine lv_aload_n hx hb dX11_readExpression_90 rfl (lv_at hl 0 rfl) ?_
                refine lv_bipush (v := iI 42) hx hb dX11_readExpression_91 (by decide) ?_
                refine g_cv (As := [.int (iI 42)]) (rest := []) (n := 1) C hml (n_isS l D k A ad hD (va_up (va_up (va_up (va_up (va_up (va_up (va_up (va_up (va_up (va_up v 6 y6_10) 7 y7_10) 8 y8_10) 9 y9_10) 10 y10_10) 11 y11_10) 16 y16_10) 20 y20_10) 21 y21_10) 27 y27_10) (va_up (va_up (va_up f 11 c11_10) 12 c12_10) 17 c17_10) (va_up g 0 d0_10) 42 B qq (by decide) (show mAt B (v 3) y9_10 y10_10 y8_10 y11_10 (d0_10 0) qq from hM) (show 40 ≤ (42 : Int) ∧ (42 : Int) < 256 from by omega)) mM_X11_204 mI_X11_isSign mE_X11_isSign mN_X11 mC_X11_isSign (by decide +kernel) 0 (ci := 11) rfl rfl hP hS (fun _ h => h) ⟨Nat.le_of_ble_eq_true rfl, Nat.le_of_ble_eq_true rfl⟩ ⟨Nat.zero_le _, Nat.zero_le _⟩ hl.1 rfl rfl (Nat.le_of_ble_eq_true rfl) dX11_readExpression_93 (fun r_30 v_30 f_30 g_30 H locs hq_30 hP _ hS => ?_)
                obtain ⟨z_30, rfl, rfl, rfl, rfl, p0_30, p1_30⟩ := hq_30
                show W p l e (gRm 3 69) s m args below meth c _ _ 0 0 Q (F0 m 96 ls [.int (iI z_30)])
                replace p0_30 : 0 ≤ z_30 ∧ z_30 ≤ 1 := p0_30
                replace p1_30 : z_30 = 1 ↔ (tK B (v 3) qq) = (42 : Int) := p1_30
                refine gi_zeq (tgt := 104) hx hb dX11_readExpression_96 (by decide) (by omega) (fun c_31 => ?_) (fun c_31 => ?_)
                · have v_30 := mt p1_30.mpr (show ¬ z_30 = 1 by omega)
                  clear p1_30
                  refine lv_iconst (v := iI 0) hx hb dX11_readExpression_104 rfl ?_
                  refine lv_istore_n (lv' := [(3, .int (iI 0)), (0, .ref (ad 0)), (1, .int (iI x1)), (2, .int (iI x2))]) hx hb dX11_readExpression_105 rfl hl (by decide) rfl (fun ls hl => ?_)
                  refine lv_iload_n hx hb dX11_readExpression_106 rfl (lv_at hl 0 rfl) ?_
                  refine gi_zle (tgt := 144) hx hb dX11_readExpression_107 (by decide) (by decide) (fun c_32 => ?_) (fun c_32 => ?_)
                  · refine lv_aload_n hx hb dX11_readExpression_144 rfl (lv_at hl 1 rfl) ?_
                    refine lv_bipush (v := iI 41) hx hb dX11_readExpression_145 (by decide) ?_
                    refine g_cv (As := [.int (iI 41)]) (rest := []) (n := 1) C hml (n_isS l D k A ad hD (va_up (va_up (va_up (va_up (va_up (va_up (va_up (va_up (va_up (va_up v 6 y6_10) 7 y7_10) 8 y8_10) 9 y9_10) 10 y10_10) 11 y11_10) 16 y16_10) 20 y20_10) 21 y21_10) 27 y27_10) (va_up (va_up (va_up f 11 c11_10) 12 c12_10) 17 c17_10) (va_up g 0 d0_10) 41 B qq (by decide) (show mAt B (v 3) y9_10 y10_10 y8_10 y11_10 (d0_10 0) qq from hM) (show 40 ≤ (41 : Int) ∧ (41 : Int) < 256 from by omega)) mM_X11_204 mI_X11_isSign mE_X11_isSign mN_X11 mC_X11_isSign (by decide +kernel) 0 (ci := 11) rfl rfl hP hS (fun _ h => h) ⟨Nat.le_of_ble_eq_true rfl, Nat.le_of_ble_eq_true rfl⟩ ⟨Nat.zero_le _, Nat.zero_le _⟩ hl.1 rfl rfl (Nat.le_of_ble_eq_true rfl) dX11_readExpression_147 (fun r_33 v_33 f_33 g_33 H locs hq_33 hP _ hS => ?_)
                    obtain ⟨z_33, rfl, rfl, rfl, rfl, p0_33, p1_33⟩ := hq_33
                    show W p l e (gRm 3 69) s m args below meth c _ _ 0 0 Q (F0 m 150 ls [.int (iI z_33)])
                    replace p0_33 : 0 ≤ z_33 ∧ z_33 ≤ 1 := p0_33
                    replace p1_33 : z_33 = 1 ↔ (tK B (v 3) qq) = (41 : Int) := p1_33
                    refine gi_zeq (tgt := 196) hx hb dX11_readExpression_150 (by decide) (by omega) (fun c_34 => ?_) (fun c_34 => ?_)
                    · have v_33 := mt p1_33.mpr (show ¬ z_33 = 1 by omega)
                      clear p1_33
                      refine lv_iconst (v := iI 0) hx hb dX11_readExpression_196 rfl ?_
                      refine lv_istore_n (lv' := [(2, .int (iI 0)), (3, .int (iI 0)), (0, .ref (ad 0)), (1, .int (iI x1))]) hx hb dX11_readExpression_197 rfl hl (by decide) rfl (fun ls hl => ?_)
                      refine lv_goto (tgt := 24) hx hb dX11_readExpression_198 (by decide) ?_
                      exact ih_24 x1 0 (qq) (S1) (E1) (kk) y6_10 y7_10 y8_10 y9_10 y10_10 y11_10 y16_10 y20_10 y21_10 y27_10 c11_10 c12_10 c17_10 d0_10 _ _ _ (by omega) (by omega) (by omega) hM (by exact hJ3.get) (by exact hJ4.get) (by first | omega | exact hJ5.get) (by first | (intro h; exfalso; omega) | exact hJ6.get) (by omega) hP hS (lv_sub hl [2, 3, 0] rfl)
                    · have v_33 := p1_33.mp (show z_33 = 1 by omega)
                      clear p1_33
                      refine lv_aload_n hx hb dX11_readExpression_153 rfl (lv_at hl 1 rfl) ?_
                      refine g_cv (As := []) (rest := []) (n := 0) C hml (n_isOpen l D k A ad hD (va_up (va_up (va_up (va_up (va_up (va_up (va_up (va_up (va_up (va_up v 6 y6_10) 7 y7_10) 8 y8_10) 9 y9_10) 10 y10_10) 11 y11_10) 16 y16_10) 20 y20_10) 21 y21_10) 27 y27_10) (va_up (va_up (va_up f 11 c11_10) 12 c12_10) 17 c17_10) (va_up g 0 d0_10) S1 (show rep S1 c17_10 y20_10 from hX1.1.2.2.1)) mM_X11_280 mI_X11_isOpen mE_X11_isOpen mN_X11 mC_X11_isOpen (by decide +kernel) 0 (ci := 11) rfl rfl hP hS (fun _ h => h) ⟨Nat.le_of_ble_eq_true rfl, Nat.le_of_ble_eq_true rfl⟩ ⟨Nat.zero_le _, Nat.zero_le _⟩ hl.1 rfl rfl (Nat.le_of_ble_eq_true rfl) dX11_readExpression_154 (fun r_35 v_35 f_35 g_35 H locs hq_35 hP _ hS => ?_)
                      obtain ⟨z_35, rfl, rfl, rfl, rfl, p0_35, p1_35⟩ := hq_35
                      show W p l e (gRm 3 69) s m args below meth c _ _ 0 0 Q (F0 m 157 ls [.int (iI z_35)])
                      replace p0_35 : 0 ≤ z_35 ∧ z_35 ≤ 1 := p0_35
                      replace p1_35 : z_35 = 1 ↔ 0 < cPa S1 := p1_35
                      refine gi_zeq (tgt := 196) hx hb dX11_readExpression_157 (by decide) (by omega) (fun c_36 => ?_) (fun c_36 => ?_)
                      · have v_35 := mt p1_35.mpr (show ¬ z_35 = 1 by omega)
                        clear p1_35
                        refine lv_iconst (v := iI 0) hx hb dX11_readExpression_196 rfl ?_
                        refine lv_istore_n (lv' := [(2, .int (iI 0)), (3, .int (iI 0)), (0, .ref (ad 0)), (1, .int (iI x1))]) hx hb dX11_readExpression_197 rfl hl (by decide) rfl (fun ls hl => ?_)
                        refine lv_goto (tgt := 24) hx hb dX11_readExpression_198 (by decide) ?_
                        exact ih_24 x1 0 (qq) (S1) (E1) (kk) y6_10 y7_10 y8_10 y9_10 y10_10 y11_10 y16_10 y20_10 y21_10 y27_10 c11_10 c12_10 c17_10 d0_10 _ _ _ (by omega) (by omega) (by omega) hM (by exact hJ3.get) (by exact hJ4.get) (by first | omega | exact hJ5.get) (by first | (intro h; exfalso; omega) | exact hJ6.get) (by omega) hP hS (lv_sub hl [2, 3, 0] rfl)
                      · have v_35 := p1_35.mp (show z_35 = 1 by omega)
                        clear p1_35
                        refine lv_aload_n hx hb dX11_readExpression_160 rfl (lv_at hl 1 rfl) ?_
                        refine lv_iconst (v := iI 1) hx hb dX11_readExpression_161 rfl ?_
                        refine g_cv (As := [.int (iI 1)]) (rest := []) (n := 1) C hml (n_reduce l D k A ad hD (va_up (va_up (va_up (va_up (va_up (va_up (va_up (va_up (va_up (va_up v 6 y6_10) 7 y7_10) 8 y8_10) 9 y9_10) 10 y10_10) 11 y11_10) 16 y16_10) 20 y20_10) 21 y21_10) 27 y27_10) (va_up (va_up (va_up f 11 c11_10) 12 c12_10) 17 c17_10) (va_up g 0 d0_10) 1 S1 E1 7 (by decide) (show ((1 : Int) = 1 ∧ 7 ≠ 9) ∨ ((1 : Int) = 2 ∧ 7 = 9) from by omega) (show wfS S1 from hX1.1.1) (show hdS S1 ≠ 10 from hX1.1.2.1 rfl) (show rep S1 c17_10 y20_10 from hX1.1.2.2.1) (show repC mp E1 c11_10 c12_10 y16_10 ∧ (E1.length : Int) + cSg S1 ≤ 40 from ⟨hX1.1.2.2.2.1, by omega⟩)) mM_X11_274 mI_X11_reduce mE_X11_reduce mN_X11 mC_X11_reduce (by decide +kernel) 0 (ci := 11) rfl rfl hP hS (fun _ h => h) ⟨Nat.le_of_ble_eq_true rfl, Nat.le_of_ble_eq_true rfl⟩ ⟨Nat.zero_le _, Nat.zero_le _⟩ hl.1 rfl rfl (Nat.le_of_ble_eq_true rfl) dX11_readExpression_162 (fun r_37 v_37 f_37 g_37 H locs hq_37 hP _ hS => ?_)
                        obtain ⟨w16_37, w20_37, a11_37, a12_37, rfl, rfl, rfl, rfl, p0_37, p1_37⟩ := hq_37
                        show W p l e (gRm 3 69) s m args below meth c _ _ 0 0 Q (F0 m 165 ls [])
                        have hP : gWd D (mdT k ad) (va_up (va_up (va_up (va_up (va_up (va_up (va_up (va_up (va_up (va_up v 6 y6_10) 7 y7_10) 8 y8_10) 9 y9_10) 10 y10_10) 11 y11_10) 16 w16_37) 20 w20_37) 21 y21_10) 27 y27_10) (va_up (va_up (va_up f 11 a11_37) 12 a12_37) 17 c17_10) (va_up g 0 d0_10) H := ⟨hP.1, (gF_up (V := mdV) (F := mdF) (gF_up (V := mdV) (F := mdF) (gF_up (V := mdV) (F := mdF) (gR_up (V := mdV) (F := mdF) (gR_up (V := mdV) (F := mdF) (gR_up (V := mdV) (F := mdF) (gR_up (V := mdV) (F := mdF) (gR_up (V := mdV) (F := mdF) (gR_up (V := mdV) (F := mdF) (gR_up (V := mdV) (F := mdF) (gR_up (V := mdV) (F := mdF) (gR_up (V := mdV) (F := mdF) (gR_up (V := mdV) (F := mdF) ⟨hok.1, hok.2⟩ 6 (hP.2.1 6)) 7 (hP.2.1 7)) 8 (hP.2.1 8)) 9 (hP.2.1 9)) 10 (hP.2.1 10)) 11 (hP.2.1 11)) 16 (hP.2.1 16)) 20 (hP.2.1 20)) 21 (hP.2.1 21)) 27 (hP.2.1 27)) 11 (hP.2.2 11)) 12 (hP.2.2 12)) 17 (hP.2.2 17))⟩
                        replace p0_37 : rep (rlS 7 S1 E1).1 c17_10 w20_37 := p0_37
                        replace p1_37 : repC mp (rlS 7 S1 E1).2 a11_37 a12_37 w16_37 := p1_37
                        have rw16_37 : 0 ≤ w16_37 ∧ w16_37 ≤ 41 := hP.2.1 16
                        have rw20_37 : 0 ≤ w20_37 ∧ w20_37 ≤ 64 := hP.2.1 20
                        have hclo := fun w2 d2 (h1 : w2 = w20_37 - 1) (h2 : d2 = y21_10 - 1) => xM_close hX1 (by omega) p0_37 p1_37 h1 h2
                        have hcl1 := hclo _ _ rfl rfl
                        refine lv_aload_n hx hb dX11_readExpression_165 rfl (lv_at hl 1 rfl) ?_
                        refine lv_dup hx hb dX11_readExpression_166 rfl ?_
                        refine mdG_waiting C hP mF_X11_255 dX11_readExpression_167 ?_
                        show W p l e (gRm 3 69) s m args below meth c _ _ 0 0 Q (F0 m 170 ls [.int (iI w20_37), .ref (ad 0)])
                        have r_38 : 0 ≤ w20_37 ∧ w20_37 ≤ 64 := hP.2.1 20
                        refine lv_iconst (v := iI 1) hx hb dX11_readExpression_170 rfl ?_
                        refine gi_sub (z := (w20_37 - 1)) hx hb dX11_readExpression_171 rfl ?_
                        refine mdP_waiting (v1 := (va_up (va_up (va_up (va_up (va_up (va_up (va_up (va_up (va_up (va_up v 6 y6_10) 7 y7_10) 8 y8_10) 9 y9_10) 10 y10_10) 11 y11_10) 16 w16_37) 20 (w20_37 - 1)) 21 y21_10) 27 y27_10)) C hP hD hS mF_X11_255 (by omega) rfl (Or.inr (gF_up (V := mdV) (F := mdF) (gF_up (V := mdV) (F := mdF) (gF_up (V := mdV) (F := mdF) (gR_up (V := mdV) (F := mdF) (gR_up (V := mdV) (F := mdF) (gR_up (V := mdV) (F := mdF) (gR_up (V := mdV) (F := mdF) (gR_up (V := mdV) (F := mdF) (gR_up (V := mdV) (F := mdF) (gR_up (V := mdV) (F := mdF) (gR_up (V := mdV) (F := mdF) (gR_up (V := mdV) (F := mdF) (gR_up (V := mdV) (F := mdF) ⟨hok.1, hok.2⟩ 6 (hP.2.1 6)) 7 (hP.2.1 7)) 8 (hP.2.1 8)) 9 (hP.2.1 9)) 10 (hP.2.1 10)) 11 (hP.2.1 11)) 16 (hP.2.1 16)) 20 (show 0 ≤ (w20_37 - 1) ∧ (w20_37 - 1) ≤ 64 from by omega)) 21 (hP.2.1 21)) 27 (hP.2.1 27)) 11 (hP.2.2 11)) 12 (hP.2.2 12)) 17 (hP.2.2 17))) dX11_readExpression_172 (fun H locs hP hS => ?_)
                        refine lv_aload_n hx hb dX11_readExpression_175 rfl (lv_at hl 1 rfl) ?_
                        refine lv_dup hx hb dX11_readExpression_176 rfl ?_
                        refine mdG_deep C hP mF_X11_252 dX11_readExpression_177 ?_
                        show W p l e (gRm 3 69) s m args below meth c _ _ 0 0 Q (F0 m 180 ls [.int (iI y21_10), .ref (ad 0)])
                        have r_39 : 0 ≤ y21_10 ∧ y21_10 ≤ 9 := hP.2.1 21
                        refine lv_iconst (v := iI 1) hx hb dX11_readExpression_180 rfl ?_
                        refine gi_sub (z := (y21_10 - 1)) hx hb dX11_readExpression_181 rfl ?_
                        refine mdP_deep (v1 := (va_up (va_up (va_up (va_up (va_up (va_up (va_up (va_up (va_up (va_up v 6 y6_10) 7 y7_10) 8 y8_10) 9 y9_10) 10 y10_10) 11 y11_10) 16 w16_37) 20 (w20_37 - 1)) 21 (y21_10 - 1)) 27 y27_10)) C hP hD hS mF_X11_252 (by omega) rfl (Or.inr (gF_up (V := mdV) (F := mdF) (gF_up (V := mdV) (F := mdF) (gF_up (V := mdV) (F := mdF) (gR_up (V := mdV) (F := mdF) (gR_up (V := mdV) (F := mdF) (gR_up (V := mdV) (F := mdF) (gR_up (V := mdV) (F := mdF) (gR_up (V := mdV) (F := mdF) (gR_up (V := mdV) (F := mdF) (gR_up (V := mdV) (F := mdF) (gR_up (V := mdV) (F := mdF) (gR_up (V := mdV) (F := mdF) (gR_up (V := mdV) (F := mdF) ⟨hok.1, hok.2⟩ 6 (hP.2.1 6)) 7 (hP.2.1 7)) 8 (hP.2.1 8)) 9 (hP.2.1 9)) 10 (hP.2.1 10)) 11 (hP.2.1 11)) 16 (hP.2.1 16)) 20 (hP.2.1 20)) 21 (show 0 ≤ (y21_10 - 1) ∧ (y21_10 - 1) ≤ 9 from by omega)) 27 (hP.2.1 27)) 11 (hP.2.2 11)) 12 (hP.2.2 12)) 17 (hP.2.2 17))) dX11_readExpression_182 (fun H locs hP hS => ?_)
                        refine lv_aload_n hx hb dX11_readExpression_185 rfl (lv_at hl 1 rfl) ?_
                        refine g_cv (As := []) (rest := []) (n := 0) C hml (n_next l D k A ad hD (va_up (va_up (va_up (va_up (va_up (va_up (va_up (va_up (va_up (va_up v 6 y6_10) 7 y7_10) 8 y8_10) 9 y9_10) 10 y10_10) 11 y11_10) 16 w16_37) 20 (w20_37 - 1)) 21 (y21_10 - 1)) 27 y27_10) (va_up (va_up (va_up f 11 a11_37) 12 a12_37) 17 c17_10) (va_up g 0 d0_10) B (show ∀ k, (f 0) k % 256 = B k from hB) (show 0 ≤ y10_10 ∧ y10_10 ≤ (v 3) from by omega)) mM_X11_201 mI_X11_next mE_X11_next mN_X11 mC_X11_next (by decide +kernel) 0 (ci := 11) rfl rfl hP hS (fun _ h => h) ⟨Nat.le_of_ble_eq_true rfl, Nat.le_of_ble_eq_true rfl⟩ ⟨Nat.zero_le _, Nat.zero_le _⟩ hl.1 rfl rfl (Nat.le_of_ble_eq_true rfl) dX11_readExpression_186 (fun r_40 v_40 f_40 g_40 H locs hq_40 hP _ hS => ?_)
                        obtain ⟨w8_40, w9_40, w10_40, w11_40, b0_40, rfl, rfl, rfl, rfl, p0_40⟩ := hq_40
                        show W p l e (gRm 3 69) s m args below meth c _ _ 0 0 Q (F0 m 189 ls [])
                        have hP : gWd D (mdT k ad) (va_up (va_up (va_up (va_up (va_up (va_up (va_up (va_up (va_up (va_up v 6 y6_10) 7 y7_10) 8 w8_40) 9 w9_40) 10 w10_40) 11 w11_40) 16 w16_37) 20 (w20_37 - 1)) 21 (y21_10 - 1)) 27 y27_10) (va_up (va_up (va_up f 11 a11_37) 12 a12_37) 17 c17_10) (va_up g 0 b0_40) H := ⟨hP.1, (gF_up (V := mdV) (F := mdF) (gF_up (V := mdV) (F := mdF) (gF_up (V := mdV) (F := mdF) (gR_up (V := mdV) (F := mdF) (gR_up (V := mdV) (F := mdF) (gR_up (V := mdV) (F := mdF) (gR_up (V := mdV) (F := mdF) (gR_up (V := mdV) (F := mdF) (gR_up (V := mdV) (F := mdF) (gR_up (V := mdV) (F := mdF) (gR_up (V := mdV) (F := mdF) (gR_up (V := mdV) (F := mdF) (gR_up (V := mdV) (F := mdF) ⟨hok.1, hok.2⟩ 6 (hP.2.1 6)) 7 (hP.2.1 7)) 8 (hP.2.1 8)) 9 (hP.2.1 9)) 10 (hP.2.1 10)) 11 (hP.2.1 11)) 16 (hP.2.1 16)) 20 (hP.2.1 20)) 21 (hP.2.1 21)) 27 (hP.2.1 27)) 11 (hP.2.2 11)) 12 (hP.2.2 12)) 17 (hP.2.2 17))⟩
                        replace p0_40 : mAt B (v 3) w9_40 w10_40 w8_40 w11_40 (b0_40 0) (run bW B (v 3) y10_10) := p0_40
                        have rw8_40 : 0 ≤ w8_40 ∧ w8_40 ≤ 4 := hP.2.1 8
                        have rw9_40 : 0 ≤ w9_40 ∧ w9_40 ≤ 700 := hP.2.1 9
                        have rw10_40 : 0 ≤ w10_40 ∧ w10_40 ≤ 700 := hP.2.1 10
                        have rw11_40 : 0 ≤ w11_40 ∧ w11_40 ≤ 999999 := hP.2.1 11
                        have hN : mAt B (v 3) w9_40 w10_40 w8_40 w11_40 (b0_40 0) (tX B (v 3) qq) := by have h := p0_40; rw [hM.bh] at h; exact h
                        clear p0_40
                        have hu := tX_up (B := B) (n := (v 3)) (q := qq) (by have h9 := (not_congr (tK_end (B := B) (n := (v 3)) (q := qq))).mp (by omega); omega)
                        refine lv_aload_n hx hb dX11_readExpression_189 rfl (lv_at hl 1 rfl) ?_
                        refine g_cv (As := []) (rest := []) (n := 0) C hml (n_wholes l D k A ad hD (va_up (va_up (va_up (va_up (va_up (va_up (va_up (va_up (va_up (va_up v 6 y6_10) 7 y7_10) 8 w8_40) 9 w9_40) 10 w10_40) 11 w11_40) 16 w16_37) 20 (w20_37 - 1)) 21 (y21_10 - 1)) 27 y27_10) (va_up (va_up (va_up f 11 a11_37) 12 a12_37) 17 c17_10) (va_up g 0 b0_40) ((rlS 7 S1 E1).1.tail) ((rlS 7 S1 E1).2) (show wfS ((rlS 7 S1 E1).1.tail) from hcl1.2.2.1.1) (show rep ((rlS 7 S1 E1).1.tail) c17_10 (w20_37 - 1) from hcl1.2.2.1.2.2.1) (show (y21_10 - 1) = cNs ((rlS 7 S1 E1).1.tail) from hcl1.2.2.1.2.2.2.2.1) (show repC mp ((rlS 7 S1 E1).2) a11_37 a12_37 w16_37 ∧ (((rlS 7 S1 E1).2).length : Int) + cSg ((rlS 7 S1 E1).1.tail) ≤ 40 from ⟨hcl1.2.2.1.2.2.2.1, by have := xM_rng hcl1.2.2; omega⟩)) mM_X11_268 mI_X11_wholes mE_X11_wholes mN_X11 mC_X11_wholes (by decide +kernel) 0 (ci := 11) rfl rfl hP hS (fun _ h => h) ⟨Nat.le_of_ble_eq_true rfl, Nat.le_of_ble_eq_true rfl⟩ ⟨Nat.zero_le _, Nat.zero_le _⟩ hl.1 rfl rfl (Nat.le_of_ble_eq_true rfl) dX11_readExpression_190 (fun r_41 v_41 f_41 g_41 H locs hq_41 hP _ hS => ?_)
                        obtain ⟨w16_41, w20_41, w21_41, a11_41, a12_41, rfl, rfl, rfl, rfl, p0_41, p1_41, p2_41⟩ := hq_41
                        show W p l e (gRm 3 69) s m args below meth c _ _ 0 0 Q (F0 m 193 ls [])
                        have hP : gWd D (mdT k ad) (va_up (va_up (va_up (va_up (va_up (va_up (va_up (va_up (va_up (va_up v 6 y6_10) 7 y7_10) 8 w8_40) 9 w9_40) 10 w10_40) 11 w11_40) 16 w16_41) 20 w20_41) 21 w21_41) 27 y27_10) (va_up (va_up (va_up f 11 a11_41) 12 a12_41) 17 c17_10) (va_up g 0 b0_40) H := ⟨hP.1, (gF_up (V := mdV) (F := mdF) (gF_up (V := mdV) (F := mdF) (gF_up (V := mdV) (F := mdF) (gR_up (V := mdV) (F := mdF) (gR_up (V := mdV) (F := mdF) (gR_up (V := mdV) (F := mdF) (gR_up (V := mdV) (F := mdF) (gR_up (V := mdV) (F := mdF) (gR_up (V := mdV) (F := mdF) (gR_up (V := mdV) (F := mdF) (gR_up (V := mdV) (F := mdF) (gR_up (V := mdV) (F := mdF) (gR_up (V := mdV) (F := mdF) ⟨hok.1, hok.2⟩ 6 (hP.2.1 6)) 7 (hP.2.1 7)) 8 (hP.2.1 8)) 9 (hP.2.1 9)) 10 (hP.2.1 10)) 11 (hP.2.1 11)) 16 (hP.2.1 16)) 20 (hP.2.1 20)) 21 (hP.2.1 21)) 27 (hP.2.1 27)) 11 (hP.2.2 11)) 12 (hP.2.2 12)) 17 (hP.2.2 17))⟩
                        replace p0_41 : rep (rlN ((rlS 7 S1 E1).1.tail) ((rlS 7 S1 E1).2)).1 c17_10 w20_41 := p0_41
                        replace p1_41 : w21_41 = cNs (rlN ((rlS 7 S1 E1).1.tail) ((rlS 7 S1 E1).2)).1 := p1_41
                        replace p2_41 : repC mp (rlN ((rlS 7 S1 E1).1.tail) ((rlS 7 S1 E1).2)).2 a11_41 a12_41 w16_41 := p2_41
                        have rw16_41 : 0 ≤ w16_41 ∧ w16_41 ≤ 41 := hP.2.1 16
                        have rw20_41 : 0 ≤ w20_41 ∧ w20_41 ≤ 64 := hP.2.1 20
                        have rw21_41 : 0 ≤ w21_41 ∧ w21_41 ≤ 9 := hP.2.1 21
                        have hX3 := xM_whole hcl1.2.2 p0_41 p2_41 p1_41
                        refine lv_goto (tgt := 198) hx hb dX11_readExpression_193 (by decide) ?_
                        refine lv_goto (tgt := 24) hx hb dX11_readExpression_198 (by decide) ?_
                        exact ih_24 x1 x2 ((tX B (v 3) qq)) ((rlN (rlS 7 S1 E1).1.tail (rlS 7 S1 E1).2).1) ((rlN (rlS 7 S1 E1).1.tail (rlS 7 S1 E1).2).2) ((kk - 1)) y6_10 y7_10 w8_40 w9_40 w10_40 w11_40 w16_41 w20_41 w21_41 y27_10 a11_41 a12_41 c17_10 b0_40 _ _ _ (by omega) (by omega) (by omega) hN (by exact (fun _ => by rw [show x1 = 1 by omega]; exact hX3)) (by exact (fun h => by rw [← hO, show kk = (kk - 1) + 1 by omega, show x1 = 1 by omega]; exact (exF_clo _ (by omega) (by omega)).symm)) (by first | omega | exact hJ5.get) (by first | (intro h; exfalso; omega) | exact hJ6.get) (by omega) hP hS (lv_sub hl [1, 2, 3] rfl)
                  · exfalso; omega
                · have v_30 := p1_30.mp (show z_30 = 1 by omega)
                  clear p1_30
                  refine lv_bipush (v := iI 9) hx hb dX11_readExpression_99 (by decide) ?_
                  refine lv_goto (tgt := 105) hx hb dX11_readExpression_101 (by decide) ?_
                  refine lv_istore_n (lv' := [(3, .int (iI 9)), (0, .ref (ad 0)), (1, .int (iI x1)), (2, .int (iI x2))]) hx hb dX11_readExpression_105 rfl hl (by decide) rfl (fun ls hl => ?_)
                  refine lv_iload_n hx hb dX11_readExpression_106 rfl (lv_at hl 0 rfl) ?_
                  refine gi_zle (tgt := 144) hx hb dX11_readExpression_107 (by decide) (by decide) (fun c_42 => ?_) (fun c_42 => ?_)
                  · exfalso; omega
                  · refine lv_aload_n hx hb dX11_readExpression_110 rfl (lv_at hl 1 rfl) ?_
                    refine g_cv (As := []) (rest := []) (n := 0) C hml (n_ctC l D k A ad hD (va_up (va_up (va_up (va_up (va_up (va_up (va_up (va_up (va_up (va_up v 6 y6_10) 7 y7_10) 8 y8_10) 9 y9_10) 10 y10_10) 11 y11_10) 16 y16_10) 20 y20_10) 21 y21_10) 27 y27_10) (va_up (va_up (va_up f 11 c11_10) 12 c12_10) 17 c17_10) (va_up g 0 d0_10) B qq (show mAt B (v 3) y9_10 y10_10 y8_10 y11_10 (d0_10 0) qq from hM) (show y27_10 ≤ 40 from by omega) (show y6_10 = 0 from by omega)) mM_X11_271 mI_X11_counts mE_X11_counts mN_X11 mC_X11_counts (by decide +kernel) 0 (ci := 11) rfl rfl hP hS (fun _ h => h) ⟨Nat.le_of_ble_eq_true rfl, Nat.le_of_ble_eq_true rfl⟩ ⟨Nat.zero_le _, Nat.zero_le _⟩ hl.1 rfl rfl (Nat.le_of_ble_eq_true rfl) dX11_readExpression_111 (fun r_43 v_43 f_43 g_43 H locs hq_43 hP _ hS => ?_)
                    obtain ⟨w6_43, w7_43, rfl, rfl, rfl, rfl, p0_43, p1_43⟩ := hq_43
                    show W p l e (gRm 3 69) s m args below meth c _ _ 0 0 Q (F0 m 114 ls [])
                    have hP : gWd D (mdT k ad) (va_up (va_up (va_up (va_up (va_up (va_up (va_up (va_up (va_up (va_up v 6 w6_43) 7 w7_43) 8 y8_10) 9 y9_10) 10 y10_10) 11 y11_10) 16 y16_10) 20 y20_10) 21 y21_10) 27 (y27_10 + 1)) (va_up (va_up (va_up f 11 c11_10) 12 c12_10) 17 c17_10) (va_up g 0 d0_10) H := ⟨hP.1, (gF_up (V := mdV) (F := mdF) (gF_up (V := mdV) (F := mdF) (gF_up (V := mdV) (F := mdF) (gR_up (V := mdV) (F := mdF) (gR_up (V := mdV) (F := mdF) (gR_up (V := mdV) (F := mdF) (gR_up (V := mdV) (F := mdF) (gR_up (V := mdV) (F := mdF) (gR_up (V := mdV) (F := mdF) (gR_up (V := mdV) (F := mdF) (gR_up (V := mdV) (F := mdF) (gR_up (V := mdV) (F := mdF) (gR_up (V := mdV) (F := mdF) ⟨hok.1, hok.2⟩ 6 (hP.2.1 6)) 7 (hP.2.1 7)) 8 (hP.2.1 8)) 9 (hP.2.1 9)) 10 (hP.2.1 10)) 11 (hP.2.1 11)) 16 (hP.2.1 16)) 20 (hP.2.1 20)) 21 (hP.2.1 21)) 27 (hP.2.1 27)) 11 (hP.2.2 11)) 12 (hP.2.2 12)) 17 (hP.2.2 17))⟩
                    replace p0_43 : y27_10 = 40 → w6_43 = 3 ∧ w7_43 = qq := p0_43
                    replace p1_43 : y27_10 < 40 → w6_43 = 0 := p1_43
                    have rw6_43 : 0 ≤ w6_43 ∧ w6_43 ≤ 5 := hP.2.1 6
                    have rw7_43 : 0 ≤ w7_43 ∧ w7_43 ≤ 700 := hP.2.1 7
                    refine lv_aload_n hx hb dX11_readExpression_114 rfl (lv_at hl 1 rfl) ?_
                    refine mdG_bad C hP mF_X11_188 dX11_readExpression_115 ?_
                    show W p l e (gRm 3 69) s m args below meth c _ _ 0 0 Q (F0 m 118 ls [.int (iI w6_43)])
                    have r_44 : 0 ≤ w6_43 ∧ w6_43 ≤ 5 := hP.2.1 6
                    refine gi_zle (tgt := 122) hx hb dX11_readExpression_118 (by decide) (by omega) (fun c_45 => ?_) (fun c_45 => ?_)
                    · refine lv_aload_n hx hb dX11_readExpression_122 rfl (lv_at hl 1 rfl) ?_
                      refine lv_iload_n hx hb dX11_readExpression_123 rfl (lv_at hl 0 rfl) ?_
                      refine g_cs (As := [.int (iI 9)]) (rest := [.ref (ad 0)]) (n := 1) C hml (n_strong l D k A ad hD (va_up (va_up (va_up (va_up (va_up (va_up (va_up (va_up (va_up (va_up v 6 w6_43) 7 w7_43) 8 y8_10) 9 y9_10) 10 y10_10) 11 y11_10) 16 y16_10) 20 y20_10) 21 y21_10) 27 (y27_10 + 1)) (va_up (va_up (va_up f 11 c11_10) 12 c12_10) 17 c17_10) (va_up g 0 d0_10) 9 (by decide)) mM_X11_258 mS_X11_strong mN_X11 mC_X11_strong (by decide +kernel) hP hS (fun _ h => h) ⟨Nat.le_of_ble_eq_true rfl, Nat.le_of_ble_eq_true rfl⟩ ⟨Nat.zero_le _, Nat.zero_le _⟩ hl.1 rfl rfl (Nat.le_of_ble_eq_true rfl) dX11_readExpression_124 (fun r_46 v_46 f_46 g_46 H locs hq_46 hP _ hS => ?_)
                      obtain ⟨z_46, rfl, rfl, rfl, rfl, p0_46, p1_46, p2_46, p3_46⟩ := hq_46
                      show W p l e (gRm 3 69) s m args below meth c _ _ 0 0 Q (F0 m 127 ls [.int (iI z_46), .ref (ad 0)])
                      replace p0_46 : 0 ≤ z_46 ∧ z_46 ≤ 2 := p0_46
                      replace p1_46 : (9 : Int) = 9 → z_46 = 2 := p1_46
                      replace p2_46 : (9 : Int) < 9 → z_46 = 1 := p2_46
                      replace p3_46 : 9 < (9 : Int) → z_46 = 0 := p3_46
                      refine g_cv (As := [.int (iI z_46)]) (rest := []) (n := 1) C hml (n_reduce l D k A ad hD (va_up (va_up (va_up (va_up (va_up (va_up (va_up (va_up (va_up (va_up v 6 w6_43) 7 w7_43) 8 y8_10) 9 y9_10) 10 y10_10) 11 y11_10) 16 y16_10) 20 y20_10) 21 y21_10) 27 (y27_10 + 1)) (va_up (va_up (va_up f 11 c11_10) 12 c12_10) 17 c17_10) (va_up g 0 d0_10) z_46 S1 E1 9 (by omega) (show (z_46 = 1 ∧ 9 ≠ 9) ∨ (z_46 = 2 ∧ 9 = 9) from by omega) (show wfS S1 from hX1.1.1) (show hdS S1 ≠ 10 from hX1.1.2.1 rfl) (show rep S1 c17_10 y20_10 from hX1.1.2.2.1) (show repC mp E1 c11_10 c12_10 y16_10 ∧ (E1.length : Int) + cSg S1 ≤ 40 from ⟨hX1.1.2.2.2.1, by omega⟩)) mM_X11_274 mI_X11_reduce mE_X11_reduce mN_X11 mC_X11_reduce (by decide +kernel) 0 (ci := 11) rfl rfl hP hS (fun _ h => h) ⟨Nat.le_of_ble_eq_true rfl, Nat.le_of_ble_eq_true rfl⟩ ⟨Nat.zero_le _, Nat.zero_le _⟩ hl.1 rfl rfl (Nat.le_of_ble_eq_true rfl) dX11_readExpression_127 (fun r_47 v_47 f_47 g_47 H locs hq_47 hP _ hS => ?_)
                      obtain ⟨w16_47, w20_47, a11_47, a12_47, rfl, rfl, rfl, rfl, p0_47, p1_47⟩ := hq_47
                      show W p l e (gRm 3 69) s m args below meth c _ _ 0 0 Q (F0 m 130 ls [])
                      have hP : gWd D (mdT k ad) (va_up (va_up (va_up (va_up (va_up (va_up (va_up (va_up (va_up (va_up v 6 w6_43) 7 w7_43) 8 y8_10) 9 y9_10) 10 y10_10) 11 y11_10) 16 w16_47) 20 w20_47) 21 y21_10) 27 (y27_10 + 1)) (va_up (va_up (va_up f 11 a11_47) 12 a12_47) 17 c17_10) (va_up g 0 d0_10) H := ⟨hP.1, (gF_up (V := mdV) (F := mdF) (gF_up (V := mdV) (F := mdF) (gF_up (V := mdV) (F := mdF) (gR_up (V := mdV) (F := mdF) (gR_up (V := mdV) (F := mdF) (gR_up (V := mdV) (F := mdF) (gR_up (V := mdV) (F := mdF) (gR_up (V := mdV) (F := mdF) (gR_up (V := mdV) (F := mdF) (gR_up (V := mdV) (F := mdF) (gR_up (V := mdV) (F := mdF) (gR_up (V := mdV) (F := mdF) (gR_up (V := mdV) (F := mdF) ⟨hok.1, hok.2⟩ 6 (hP.2.1 6)) 7 (hP.2.1 7)) 8 (hP.2.1 8)) 9 (hP.2.1 9)) 10 (hP.2.1 10)) 11 (hP.2.1 11)) 16 (hP.2.1 16)) 20 (hP.2.1 20)) 21 (hP.2.1 21)) 27 (hP.2.1 27)) 11 (hP.2.2 11)) 12 (hP.2.2 12)) 17 (hP.2.2 17))⟩
                      replace p0_47 : rep (rlS 9 S1 E1).1 c17_10 w20_47 := p0_47
                      replace p1_47 : repC mp (rlS 9 S1 E1).2 a11_47 a12_47 w16_47 := p1_47
                      have rw16_47 : 0 ≤ w16_47 ∧ w16_47 ≤ 41 := hP.2.1 16
                      have rw20_47 : 0 ≤ w20_47 ∧ w20_47 ≤ 64 := hP.2.1 20
                      have hR0 := p0_47
                      have hR1 := p1_47
                      have hro := rlS_ok 9 S1 E1 hX1.1.1 (hX1.1.2.1 rfl)
                      have hrv := rlS_v 9 S1 E1 hX1.1.1 hX1.2.1 hX1.2.2
                      have hrl := rep_len _ _ _ hR0
                      have hwl := wfS_len _ hro.1
                      refine lv_aload_n hx hb dX11_readExpression_130 rfl (lv_at hl 1 rfl) ?_
                      refine lv_iload_n hx hb dX11_readExpression_131 rfl (lv_at hl 0 rfl) ?_
                      refine g_cv (As := [.int (iI 9)]) (rest := []) (n := 1) C hml (n_waitFor l D k A ad hD (va_up (va_up (va_up (va_up (va_up (va_up (va_up (va_up (va_up (va_up v 6 w6_43) 7 w7_43) 8 y8_10) 9 y9_10) 10 y10_10) 11 y11_10) 16 w16_47) 20 w20_47) 21 y21_10) 27 (y27_10 + 1)) (va_up (va_up (va_up f 11 a11_47) 12 a12_47) 17 c17_10) (va_up g 0 d0_10) 9 (by decide) (show w20_47 ≤ 63 from by omega) (show 0 ≤ (9 : Int) ∧ (9 : Int) ≤ 11 from by omega)) mM_X11_277 mI_X11_waitFor mE_X11_waitFor mN_X11 mC_X11_waitFor (by decide +kernel) 0 (ci := 11) rfl rfl hP hS (fun _ h => h) ⟨Nat.le_of_ble_eq_true rfl, Nat.le_of_ble_eq_true rfl⟩ ⟨Nat.zero_le _, Nat.zero_le _⟩ hl.1 rfl rfl (Nat.le_of_ble_eq_true rfl) dX11_readExpression_132 (fun r_48 v_48 f_48 g_48 H locs hq_48 hP _ hS => ?_)
                      obtain ⟨rfl, rfl, rfl, rfl⟩ := hq_48
                      show W p l e (gRm 3 69) s m args below meth c _ _ 0 0 Q (F0 m 135 ls [])
                      have hP : gWd D (mdT k ad) (va_up (va_up (va_up (va_up (va_up (va_up (va_up (va_up (va_up (va_up v 6 w6_43) 7 w7_43) 8 y8_10) 9 y9_10) 10 y10_10) 11 y11_10) 16 w16_47) 20 (w20_47 + 1)) 21 y21_10) 27 (y27_10 + 1)) (va_up (va_up (va_up f 11 a11_47) 12 a12_47) 17 (u1 c17_10 w20_47 (9 : Int))) (va_up g 0 d0_10) H := ⟨hP.1, (gF_up (V := mdV) (F := mdF) (gF_up (V := mdV) (F := mdF) (gF_up (V := mdV) (F := mdF) (gR_up (V := mdV) (F := mdF) (gR_up (V := mdV) (F := mdF) (gR_up (V := mdV) (F := mdF) (gR_up (V := mdV) (F := mdF) (gR_up (V := mdV) (F := mdF) (gR_up (V := mdV) (F := mdF) (gR_up (V := mdV) (F := mdF) (gR_up (V := mdV) (F := mdF) (gR_up (V := mdV) (F := mdF) (gR_up (V := mdV) (F := mdF) ⟨hok.1, hok.2⟩ 6 (hP.2.1 6)) 7 (hP.2.1 7)) 8 (hP.2.1 8)) 9 (hP.2.1 9)) 10 (hP.2.1 10)) 11 (hP.2.1 11)) 16 (hP.2.1 16)) 20 (hP.2.1 20)) 21 (hP.2.1 21)) 27 (hP.2.1 27)) 11 (hP.2.2 11)) 12 (hP.2.2 12)) 17 (hP.2.2 17))⟩
                      refine lv_aload_n hx hb dX11_readExpression_135 rfl (lv_at hl 1 rfl) ?_
                      refine g_cv (As := []) (rest := []) (n := 0) C hml (n_next l D k A ad hD (va_up (va_up (va_up (va_up (va_up (va_up (va_up (va_up (va_up (va_up v 6 w6_43) 7 w7_43) 8 y8_10) 9 y9_10) 10 y10_10) 11 y11_10) 16 w16_47) 20 (w20_47 + 1)) 21 y21_10) 27 (y27_10 + 1)) (va_up (va_up (va_up f 11 a11_47) 12 a12_47) 17 (u1 c17_10 w20_47 (9 : Int))) (va_up g 0 d0_10) B (show ∀ k, (f 0) k % 256 = B k from hB) (show 0 ≤ y10_10 ∧ y10_10 ≤ (v 3) from by omega)) mM_X11_201 mI_X11_next mE_X11_next mN_X11 mC_X11_next (by decide +kernel) 0 (ci := 11) rfl rfl hP hS (fun _ h => h) ⟨Nat.le_of_ble_eq_true rfl, Nat.le_of_ble_eq_true rfl⟩ ⟨Nat.zero_le _, Nat.zero_le _⟩ hl.1 rfl rfl (Nat.le_of_ble_eq_true rfl) dX11_readExpression_136 (fun r_49 v_49 f_49 g_49 H locs hq_49 hP _ hS => ?_)
                      obtain ⟨w8_49, w9_49, w10_49, w11_49, b0_49, rfl, rfl, rfl, rfl, p0_49⟩ := hq_49
                      show W p l e (gRm 3 69) s m args below meth c _ _ 0 0 Q (F0 m 139 ls [])
                      have hP : gWd D (mdT k ad) (va_up (va_up (va_up (va_up (va_up (va_up (va_up (va_up (va_up (va_up v 6 w6_43) 7 w7_43) 8 w8_49) 9 w9_49) 10 w10_49) 11 w11_49) 16 w16_47) 20 (w20_47 + 1)) 21 y21_10) 27 (y27_10 + 1)) (va_up (va_up (va_up f 11 a11_47) 12 a12_47) 17 (u1 c17_10 w20_47 (9 : Int))) (va_up g 0 b0_49) H := ⟨hP.1, (gF_up (V := mdV) (F := mdF) (gF_up (V := mdV) (F := mdF) (gF_up (V := mdV) (F := mdF) (gR_up (V := mdV) (F := mdF) (gR_up (V := mdV) (F := mdF) (gR_up (V := mdV) (F := mdF) (gR_up (V := mdV) (F := mdF) (gR_up (V := mdV) (F := mdF) (gR_up (V := mdV) (F := mdF) (gR_up (V := mdV) (F := mdF) (gR_up (V := mdV) (F := mdF) (gR_up (V := mdV) (F := mdF) (gR_up (V := mdV) (F := mdF) ⟨hok.1, hok.2⟩ 6 (hP.2.1 6)) 7 (hP.2.1 7)) 8 (hP.2.1 8)) 9 (hP.2.1 9)) 10 (hP.2.1 10)) 11 (hP.2.1 11)) 16 (hP.2.1 16)) 20 (hP.2.1 20)) 21 (hP.2.1 21)) 27 (hP.2.1 27)) 11 (hP.2.2 11)) 12 (hP.2.2 12)) 17 (hP.2.2 17))⟩
                      replace p0_49 : mAt B (v 3) w9_49 w10_49 w8_49 w11_49 (b0_49 0) (run bW B (v 3) y10_10) := p0_49
                      have rw8_49 : 0 ≤ w8_49 ∧ w8_49 ≤ 4 := hP.2.1 8
                      have rw9_49 : 0 ≤ w9_49 ∧ w9_49 ≤ 700 := hP.2.1 9
                      have rw10_49 : 0 ≤ w10_49 ∧ w10_49 ≤ 700 := hP.2.1 10
                      have rw11_49 : 0 ≤ w11_49 ∧ w11_49 ≤ 999999 := hP.2.1 11
                      have hN : mAt B (v 3) w9_49 w10_49 w8_49 w11_49 (b0_49 0) (tX B (v 3) qq) := by have h := p0_49; rw [hM.bh] at h; exact h
                      clear p0_49
                      have hu := tX_up (B := B) (n := (v 3)) (q := qq) (by have h9 := (not_congr (tK_end (B := B) (n := (v 3)) (q := qq))).mp (by omega); omega)
                      refine lv_iconst (v := iI 0) hx hb dX11_readExpression_139 rfl ?_
                      refine lv_istore_n (lv' := [(1, .int (iI 0)), (3, .int (iI 9)), (0, .ref (ad 0)), (2, .int (iI x2))]) hx hb dX11_readExpression_140 rfl hl (by decide) rfl (fun ls hl => ?_)
                      refine lv_goto (tgt := 198) hx hb dX11_readExpression_141 (by decide) ?_
                      refine lv_goto (tgt := 24) hx hb dX11_readExpression_198 (by decide) ?_
                      have hk9 : tK B (v 3) qq = 42 := by omega
                      have hy40 : y27_10 < 40 := by omega
                      have hw60 : w6_43 = 0 := by omega
                      clear p0_43 p1_43 p1_46 p2_46 p3_46
                      exact ih_24 0 x2 ((tX B (v 3) qq)) ((9 :: (rlS 9 S1 E1).1)) ((rlS 9 S1 E1).2) ((kk - 1)) w6_43 w7_43 w8_49 w9_49 w10_49 w11_49 w16_47 (w20_47 + 1) y21_10 (y27_10 + 1) a11_47 a12_47 (u1 c17_10 w20_47 (9 : Int)) b0_49 _ _ _ (by omega) (by omega) (by omega) hN (by exact (fun _ => xM_sg hro.1 (by decide) hro.2.2.2.2.2.1 hro.2.2.2.2.2.2 hro.2.1 hR0 hR1 (by omega) (by omega) (by omega) (by omega) hrv.1 hrv.2)) (by exact (fun h => by rw [← hO, show kk = (kk - 1) + 1 by omega]; exact (exF_sg _ (by omega) (by omega)).symm)) (by first | omega | exact hJ5.get) (by first | (intro h; exfalso; omega) | exact hJ6.get) (by omega) hP hS (lv_sub hl [2, 0, 3] rfl)
                    · exact g_vret hQ C hr hlocks hP hS dX11_readExpression_121 ⟨w6_43, w7_43, y8_10, y9_10, y10_10, y11_10, y16_10, y20_10, y21_10, (y27_10 + 1), c11_10, c12_10, c17_10, d0_10, rfl, rfl, rfl, rfl, ⟨(w6_43, qq), ⟨rfl, fun _ => by show w7_43 = qq; omega, hM⟩, by rw [← hO, show kk = (kk - 1) + 1 by omega, exF_sg3 _ (by omega) (by omega), show w6_43 = 3 by omega]⟩, (by intro h; exfalso; omega), (by intro h; exfalso; omega)⟩
              · have v_28 := p1_28.mp (show z_28 = 1 by omega)
                clear p1_28
                refine lv_bipush (v := iI 8) hx hb dX11_readExpression_85 (by decide) ?_
                refine lv_goto (tgt := 105) hx hb dX11_readExpression_87 (by decide) ?_
                refine lv_istore_n (lv' := [(3, .int (iI 8)), (0, .ref (ad 0)), (1, .int (iI x1)), (2, .int (iI x2))]) hx hb dX11_readExpression_105 rfl hl (by decide) rfl (fun ls hl => ?_)
                refine lv_iload_n hx hb dX11_readExpression_106 rfl (lv_at hl 0 rfl) ?_
                refine gi_zle (tgt := 144) hx hb dX11_readExpression_107 (by decide) (by decide) (fun c_50 => ?_) (fun c_50 => ?_)
                · exfalso; omega
                · refine lv_aload_n hx hb dX11_readExpression_110 rfl (lv_at hl 1 rfl) ?_
                  refine g_cv (As := []) (rest := []) (n := 0) C hml (n_ctC l D k A ad hD (va_up (va_up (va_up (va_up (va_up (va_up (va_up (va_up (va_up (va_up v 6 y6_10) 7 y7_10) 8 y8_10) 9 y9_10) 10 y10_10) 11 y11_10) 16 y16_10) 20 y20_10) 21 y21_10) 27 y27_10) (va_up (va_up (va_up f 11 c11_10) 12 c12_10) 17 c17_10) (va_up g 0 d0_10) B qq (show mAt B (v 3) y9_10 y10_10 y8_10 y11_10 (d0_10 0) qq from hM) (show y27_10 ≤ 40 from by omega) (show y6_10 = 0 from by omega)) mM_X11_271 mI_X11_counts mE_X11_counts mN_X11 mC_X11_counts (by decide +kernel) 0 (ci := 11) rfl rfl hP hS (fun _ h => h) ⟨Nat.le_of_ble_eq_true rfl, Nat.le_of_ble_eq_true rfl⟩ ⟨Nat.zero_le _, Nat.zero_le _⟩ hl.1 rfl rfl (Nat.le_of_ble_eq_true rfl) dX11_readExpression_111 (fun r_51 v_51 f_51 g_51 H locs hq_51 hP _ hS => ?_)
                  obtain ⟨w6_51, w7_51, rfl, rfl, rfl, rfl, p0_51, p1_51⟩ := hq_51
                  show W p l e (gRm 3 69) s m args below meth c _ _ 0 0 Q (F0 m 114 ls [])
                  have hP : gWd D (mdT k ad) (va_up (va_up (va_up (va_up (va_up (va_up (va_up (va_up (va_up (va_up v 6 w6_51) 7 w7_51) 8 y8_10) 9 y9_10) 10 y10_10) 11 y11_10) 16 y16_10) 20 y20_10) 21 y21_10) 27 (y27_10 + 1)) (va_up (va_up (va_up f 11 c11_10) 12 c12_10) 17 c17_10) (va_up g 0 d0_10) H := ⟨hP.1, (gF_up (V := mdV) (F := mdF) (gF_up (V := mdV) (F := mdF) (gF_up (V := mdV) (F := mdF) (gR_up (V := mdV) (F := mdF) (gR_up (V := mdV) (F := mdF) (gR_up (V := mdV) (F := mdF) (gR_up (V := mdV) (F := mdF) (gR_up (V := mdV) (F := mdF) (gR_up (V := mdV) (F := mdF) (gR_up (V := mdV) (F := mdF) (gR_up (V := mdV) (F := mdF) (gR_up (V := mdV) (F := mdF) (gR_up (V := mdV) (F := mdF) ⟨hok.1, hok.2⟩ 6 (hP.2.1 6)) 7 (hP.2.1 7)) 8 (hP.2.1 8)) 9 (hP.2.1 9)) 10 (hP.2.1 10)) 11 (hP.2.1 11)) 16 (hP.2.1 16)) 20 (hP.2.1 20)) 21 (hP.2.1 21)) 27 (hP.2.1 27)) 11 (hP.2.2 11)) 12 (hP.2.2 12)) 17 (hP.2.2 17))⟩
                  replace p0_51 : y27_10 = 40 → w6_51 = 3 ∧ w7_51 = qq := p0_51
                  replace p1_51 : y27_10 < 40 → w6_51 = 0 := p1_51
                  have rw6_51 : 0 ≤ w6_51 ∧ w6_51 ≤ 5 := hP.2.1 6
                  have rw7_51 : 0 ≤ w7_51 ∧ w7_51 ≤ 700 := hP.2.1 7
                  refine lv_aload_n hx hb dX11_readExpression_114 rfl (lv_at hl 1 rfl) ?_
                  refine mdG_bad C hP mF_X11_188 dX11_readExpression_115 ?_
                  show W p l e (gRm 3 69) s m args below meth c _ _ 0 0 Q (F0 m 118 ls [.int (iI w6_51)])
                  have r_52 : 0 ≤ w6_51 ∧ w6_51 ≤ 5 := hP.2.1 6
                  refine gi_zle (tgt := 122) hx hb dX11_readExpression_118 (by decide) (by omega) (fun c_53 => ?_) (fun c_53 => ?_)
                  · refine lv_aload_n hx hb dX11_readExpression_122 rfl (lv_at hl 1 rfl) ?_
                    refine lv_iload_n hx hb dX11_readExpression_123 rfl (lv_at hl 0 rfl) ?_
                    refine g_cs (As := [.int (iI 8)]) (rest := [.ref (ad 0)]) (n := 1) C hml (n_strong l D k A ad hD (va_up (va_up (va_up (va_up (va_up (va_up (va_up (va_up (va_up (va_up v 6 w6_51) 7 w7_51) 8 y8_10) 9 y9_10) 10 y10_10) 11 y11_10) 16 y16_10) 20 y20_10) 21 y21_10) 27 (y27_10 + 1)) (va_up (va_up (va_up f 11 c11_10) 12 c12_10) 17 c17_10) (va_up g 0 d0_10) 8 (by decide)) mM_X11_258 mS_X11_strong mN_X11 mC_X11_strong (by decide +kernel) hP hS (fun _ h => h) ⟨Nat.le_of_ble_eq_true rfl, Nat.le_of_ble_eq_true rfl⟩ ⟨Nat.zero_le _, Nat.zero_le _⟩ hl.1 rfl rfl (Nat.le_of_ble_eq_true rfl) dX11_readExpression_124 (fun r_54 v_54 f_54 g_54 H locs hq_54 hP _ hS => ?_)
                    obtain ⟨z_54, rfl, rfl, rfl, rfl, p0_54, p1_54, p2_54, p3_54⟩ := hq_54
                    show W p l e (gRm 3 69) s m args below meth c _ _ 0 0 Q (F0 m 127 ls [.int (iI z_54), .ref (ad 0)])
                    replace p0_54 : 0 ≤ z_54 ∧ z_54 ≤ 2 := p0_54
                    replace p1_54 : (8 : Int) = 9 → z_54 = 2 := p1_54
                    replace p2_54 : (8 : Int) < 9 → z_54 = 1 := p2_54
                    replace p3_54 : 9 < (8 : Int) → z_54 = 0 := p3_54
                    refine g_cv (As := [.int (iI z_54)]) (rest := []) (n := 1) C hml (n_reduce l D k A ad hD (va_up (va_up (va_up (va_up (va_up (va_up (va_up (va_up (va_up (va_up v 6 w6_51) 7 w7_51) 8 y8_10) 9 y9_10) 10 y10_10) 11 y11_10) 16 y16_10) 20 y20_10) 21 y21_10) 27 (y27_10 + 1)) (va_up (va_up (va_up f 11 c11_10) 12 c12_10) 17 c17_10) (va_up g 0 d0_10) z_54 S1 E1 8 (by omega) (show (z_54 = 1 ∧ 8 ≠ 9) ∨ (z_54 = 2 ∧ 8 = 9) from by omega) (show wfS S1 from hX1.1.1) (show hdS S1 ≠ 10 from hX1.1.2.1 rfl) (show rep S1 c17_10 y20_10 from hX1.1.2.2.1) (show repC mp E1 c11_10 c12_10 y16_10 ∧ (E1.length : Int) + cSg S1 ≤ 40 from ⟨hX1.1.2.2.2.1, by omega⟩)) mM_X11_274 mI_X11_reduce mE_X11_reduce mN_X11 mC_X11_reduce (by decide +kernel) 0 (ci := 11) rfl rfl hP hS (fun _ h => h) ⟨Nat.le_of_ble_eq_true rfl, Nat.le_of_ble_eq_true rfl⟩ ⟨Nat.zero_le _, Nat.zero_le _⟩ hl.1 rfl rfl (Nat.le_of_ble_eq_true rfl) dX11_readExpression_127 (fun r_55 v_55 f_55 g_55 H locs hq_55 hP _ hS => ?_)
                    obtain ⟨w16_55, w20_55, a11_55, a12_55, rfl, rfl, rfl, rfl, p0_55, p1_55⟩ := hq_55
                    show W p l e (gRm 3 69) s m args below meth c _ _ 0 0 Q (F0 m 130 ls [])
                    have hP : gWd D (mdT k ad) (va_up (va_up (va_up (va_up (va_up (va_up (va_up (va_up (va_up (va_up v 6 w6_51) 7 w7_51) 8 y8_10) 9 y9_10) 10 y10_10) 11 y11_10) 16 w16_55) 20 w20_55) 21 y21_10) 27 (y27_10 + 1)) (va_up (va_up (va_up f 11 a11_55) 12 a12_55) 17 c17_10) (va_up g 0 d0_10) H := ⟨hP.1, (gF_up (V := mdV) (F := mdF) (gF_up (V := mdV) (F := mdF) (gF_up (V := mdV) (F := mdF) (gR_up (V := mdV) (F := mdF) (gR_up (V := mdV) (F := mdF) (gR_up (V := mdV) (F := mdF) (gR_up (V := mdV) (F := mdF) (gR_up (V := mdV) (F := mdF) (gR_up (V := mdV) (F := mdF) (gR_up (V := mdV) (F := mdF) (gR_up (V := mdV) (F := mdF) (gR_up (V := mdV) (F := mdF) (gR_up (V := mdV) (F := mdF) ⟨hok.1, hok.2⟩ 6 (hP.2.1 6)) 7 (hP.2.1 7)) 8 (hP.2.1 8)) 9 (hP.2.1 9)) 10 (hP.2.1 10)) 11 (hP.2.1 11)) 16 (hP.2.1 16)) 20 (hP.2.1 20)) 21 (hP.2.1 21)) 27 (hP.2.1 27)) 11 (hP.2.2 11)) 12 (hP.2.2 12)) 17 (hP.2.2 17))⟩
                    replace p0_55 : rep (rlS 8 S1 E1).1 c17_10 w20_55 := p0_55
                    replace p1_55 : repC mp (rlS 8 S1 E1).2 a11_55 a12_55 w16_55 := p1_55
                    have rw16_55 : 0 ≤ w16_55 ∧ w16_55 ≤ 41 := hP.2.1 16
                    have rw20_55 : 0 ≤ w20_55 ∧ w20_55 ≤ 64 := hP.2.1 20
                    have hR0 := p0_55
                    have hR1 := p1_55
                    have hro := rlS_ok 8 S1 E1 hX1.1.1 (hX1.1.2.1 rfl)
                    have hrv := rlS_v 8 S1 E1 hX1.1.1 hX1.2.1 hX1.2.2
                    have hrl := rep_len _ _ _ hR0
                    have hwl := wfS_len _ hro.1
                    refine lv_aload_n hx hb dX11_readExpression_130 rfl (lv_at hl 1 rfl) ?_
                    refine lv_iload_n hx hb dX11_readExpression_131 rfl (lv_at hl 0 rfl) ?_
                    refine g_cv (As := [.int (iI 8)]) (rest := []) (n := 1) C hml (n_waitFor l D k A ad hD (va_up (va_up (va_up (va_up (va_up (va_up (va_up (va_up (va_up (va_up v 6 w6_51) 7 w7_51) 8 y8_10) 9 y9_10) 10 y10_10) 11 y11_10) 16 w16_55) 20 w20_55) 21 y21_10) 27 (y27_10 + 1)) (va_up (va_up (va_up f 11 a11_55) 12 a12_55) 17 c17_10) (va_up g 0 d0_10) 8 (by decide) (show w20_55 ≤ 63 from by omega) (show 0 ≤ (8 : Int) ∧ (8 : Int) ≤ 11 from by omega)) mM_X11_277 mI_X11_waitFor mE_X11_waitFor mN_X11 mC_X11_waitFor (by decide +kernel) 0 (ci := 11) rfl rfl hP hS (fun _ h => h) ⟨Nat.le_of_ble_eq_true rfl, Nat.le_of_ble_eq_true rfl⟩ ⟨Nat.zero_le _, Nat.zero_le _⟩ hl.1 rfl rfl (Nat.le_of_ble_eq_true rfl) dX11_readExpression_132 (fun r_56 v_56 f_56 g_56 H locs hq_56 hP _ hS => ?_)
                    obtain ⟨rfl, rfl, rfl, rfl⟩ := hq_56
                    show W p l e (gRm 3 69) s m args below meth c _ _ 0 0 Q (F0 m 135 ls [])
                    have hP : gWd D (mdT k ad) (va_up (va_up (va_up (va_up (va_up (va_up (va_up (va_up (va_up (va_up v 6 w6_51) 7 w7_51) 8 y8_10) 9 y9_10) 10 y10_10) 11 y11_10) 16 w16_55) 20 (w20_55 + 1)) 21 y21_10) 27 (y27_10 + 1)) (va_up (va_up (va_up f 11 a11_55) 12 a12_55) 17 (u1 c17_10 w20_55 (8 : Int))) (va_up g 0 d0_10) H := ⟨hP.1, (gF_up (V := mdV) (F := mdF) (gF_up (V := mdV) (F := mdF) (gF_up (V := mdV) (F := mdF) (gR_up (V := mdV) (F := mdF) (gR_up (V := mdV) (F := mdF) (gR_up (V := mdV) (F := mdF) (gR_up (V := mdV) (F := mdF) (gR_up (V := mdV) (F := mdF) (gR_up (V := mdV) (F := mdF) (gR_up (V := mdV) (F := mdF) (gR_up (V := mdV) (F := mdF) (gR_up (V := mdV) (F := mdF) (gR_up (V := mdV) (F := mdF) ⟨hok.1, hok.2⟩ 6 (hP.2.1 6)) 7 (hP.2.1 7)) 8 (hP.2.1 8)) 9 (hP.2.1 9)) 10 (hP.2.1 10)) 11 (hP.2.1 11)) 16 (hP.2.1 16)) 20 (hP.2.1 20)) 21 (hP.2.1 21)) 27 (hP.2.1 27)) 11 (hP.2.2 11)) 12 (hP.2.2 12)) 17 (hP.2.2 17))⟩
                    refine lv_aload_n hx hb dX11_readExpression_135 rfl (lv_at hl 1 rfl) ?_
                    refine g_cv (As := []) (rest := []) (n := 0) C hml (n_next l D k A ad hD (va_up (va_up (va_up (va_up (va_up (va_up (va_up (va_up (va_up (va_up v 6 w6_51) 7 w7_51) 8 y8_10) 9 y9_10) 10 y10_10) 11 y11_10) 16 w16_55) 20 (w20_55 + 1)) 21 y21_10) 27 (y27_10 + 1)) (va_up (va_up (va_up f 11 a11_55) 12 a12_55) 17 (u1 c17_10 w20_55 (8 : Int))) (va_up g 0 d0_10) B (show ∀ k, (f 0) k % 256 = B k from hB) (show 0 ≤ y10_10 ∧ y10_10 ≤ (v 3) from by omega)) mM_X11_201 mI_X11_next mE_X11_next mN_X11 mC_X11_next (by decide +kernel) 0 (ci := 11) rfl rfl hP hS (fun _ h => h) ⟨Nat.le_of_ble_eq_true rfl, Nat.le_of_ble_eq_true rfl⟩ ⟨Nat.zero_le _, Nat.zero_le _⟩ hl.1 rfl rfl (Nat.le_of_ble_eq_true rfl) dX11_readExpression_136 (fun r_57 v_57 f_57 g_57 H locs hq_57 hP _ hS => ?_)
                    obtain ⟨w8_57, w9_57, w10_57, w11_57, b0_57, rfl, rfl, rfl, rfl, p0_57⟩ := hq_57
                    show W p l e (gRm 3 69) s m args below meth c _ _ 0 0 Q (F0 m 139 ls [])
                    have hP : gWd D (mdT k ad) (va_up (va_up (va_up (va_up (va_up (va_up (va_up (va_up (va_up (va_up v 6 w6_51) 7 w7_51) 8 w8_57) 9 w9_57) 10 w10_57) 11 w11_57) 16 w16_55) 20 (w20_55 + 1)) 21 y21_10) 27 (y27_10 + 1)) (va_up (va_up (va_up f 11 a11_55) 12 a12_55) 17 (u1 c17_10 w20_55 (8 : Int))) (va_up g 0 b0_57) H := ⟨hP.1, (gF_up (V := mdV) (F := mdF) (gF_up (V := mdV) (F := mdF) (gF_up (V := mdV) (F := mdF) (gR_up (V := mdV) (F := mdF) (gR_up (V := mdV) (F := mdF) (gR_up (V := mdV) (F := mdF) (gR_up (V := mdV) (F := mdF) (gR_up (V := mdV) (F := mdF) (gR_up (V := mdV) (F := mdF) (gR_up (V := mdV) (F := mdF) (gR_up (V := mdV) (F := mdF) (gR_up (V := mdV) (F := mdF) (gR_up (V := mdV) (F := mdF) ⟨hok.1, hok.2⟩ 6 (hP.2.1 6)) 7 (hP.2.1 7)) 8 (hP.2.1 8)) 9 (hP.2.1 9)) 10 (hP.2.1 10)) 11 (hP.2.1 11)) 16 (hP.2.1 16)) 20 (hP.2.1 20)) 21 (hP.2.1 21)) 27 (hP.2.1 27)) 11 (hP.2.2 11)) 12 (hP.2.2 12)) 17 (hP.2.2 17))⟩
                    replace p0_57 : mAt B (v 3) w9_57 w10_57 w8_57 w11_57 (b0_57 0) (run bW B (v 3) y10_10) := p0_57
                    have rw8_57 : 0 ≤ w8_57 ∧ w8_57 ≤ 4 := hP.2.1 8
                    have rw9_57 : 0 ≤ w9_57 ∧ w9_57 ≤ 700 := hP.2.1 9
                    have rw10_57 : 0 ≤ w10_57 ∧ w10_57 ≤ 700 := hP.2.1 10
                    have rw11_57 : 0 ≤ w11_57 ∧ w11_57 ≤ 999999 := hP.2.1 11
                    have hN : mAt B (v 3) w9_57 w10_57 w8_57 w11_57 (b0_57 0) (tX B (v 3) qq) := by have h := p0_57; rw [hM.bh] at h; exact h
                    clear p0_57
                    have hu := tX_up (B := B) (n := (v 3)) (q := qq) (by have h9 := (not_congr (tK_end (B := B) (n := (v 3)) (q := qq))).mp (by omega); omega)
                    refine lv_iconst (v := iI 0) hx hb dX11_readExpression_139 rfl ?_
                    refine lv_istore_n (lv' := [(1, .int (iI 0)), (3, .int (iI 8)), (0, .ref (ad 0)), (2, .int (iI x2))]) hx hb dX11_readExpression_140 rfl hl (by decide) rfl (fun ls hl => ?_)
                    refine lv_goto (tgt := 198) hx hb dX11_readExpression_141 (by decide) ?_
                    refine lv_goto (tgt := 24) hx hb dX11_readExpression_198 (by decide) ?_
                    have hk9 : tK B (v 3) qq = 45 := by omega
                    have hy40 : y27_10 < 40 := by omega
                    have hw60 : w6_51 = 0 := by omega
                    clear p0_51 p1_51 p1_54 p2_54 p3_54
                    exact ih_24 0 x2 ((tX B (v 3) qq)) ((8 :: (rlS 8 S1 E1).1)) ((rlS 8 S1 E1).2) ((kk - 1)) w6_51 w7_51 w8_57 w9_57 w10_57 w11_57 w16_55 (w20_55 + 1) y21_10 (y27_10 + 1) a11_55 a12_55 (u1 c17_10 w20_55 (8 : Int)) b0_57 _ _ _ (by omega) (by omega) (by omega) hN (by exact (fun _ => xM_sg hro.1 (by decide) hro.2.2.2.2.2.1 hro.2.2.2.2.2.2 hro.2.1 hR0 hR1 (by omega) (by omega) (by omega) (by omega) hrv.1 hrv.2)) (by exact (fun h => by rw [← hO, show kk = (kk - 1) + 1 by omega]; exact (exF_sg _ (by omega) (by omega)).symm)) (by first | omega | exact hJ5.get) (by first | (intro h; exfalso; omega) | exact hJ6.get) (by omega) hP hS (lv_sub hl [2, 0, 3] rfl)
                  · exact g_vret hQ C hr hlocks hP hS dX11_readExpression_121 ⟨w6_51, w7_51, y8_10, y9_10, y10_10, y11_10, y16_10, y20_10, y21_10, (y27_10 + 1), c11_10, c12_10, c17_10, d0_10, rfl, rfl, rfl, rfl, ⟨(w6_51, qq), ⟨rfl, fun _ => by show w7_51 = qq; omega, hM⟩, by rw [← hO, show kk = (kk - 1) + 1 by omega, exF_sg3 _ (by omega) (by omega), show w6_51 = 3 by omega]⟩, (by intro h; exfalso; omega), (by intro h; exfalso; omega)⟩
            · have v_26 := p1_26.mp (show z_26 = 1 by omega)
              clear p1_26
              refine lv_bipush (v := iI 7) hx hb dX11_readExpression_71 (by decide) ?_
              refine lv_goto (tgt := 105) hx hb dX11_readExpression_73 (by decide) ?_
              refine lv_istore_n (lv' := [(3, .int (iI 7)), (0, .ref (ad 0)), (1, .int (iI x1)), (2, .int (iI x2))]) hx hb dX11_readExpression_105 rfl hl (by decide) rfl (fun ls hl => ?_)
              refine lv_iload_n hx hb dX11_readExpression_106 rfl (lv_at hl 0 rfl) ?_
              refine gi_zle (tgt := 144) hx hb dX11_readExpression_107 (by decide) (by decide) (fun c_58 => ?_) (fun c_58 => ?_)
              · exfalso; omega
              · refine lv_aload_n hx hb dX11_readExpression_110 rfl (lv_at hl 1 rfl) ?_
                refine g_cv (As := []) (rest := []) (n := 0) C hml (n_ctC l D k A ad hD (va_up (va_up (va_up (va_up (va_up (va_up (va_up (va_up (va_up (va_up v 6 y6_10) 7 y7_10) 8 y8_10) 9 y9_10) 10 y10_10) 11 y11_10) 16 y16_10) 20 y20_10) 21 y21_10) 27 y27_10) (va_up (va_up (va_up f 11 c11_10) 12 c12_10) 17 c17_10) (va_up g 0 d0_10) B qq (show mAt B (v 3) y9_10 y10_10 y8_10 y11_10 (d0_10 0) qq from hM) (show y27_10 ≤ 40 from by omega) (show y6_10 = 0 from by omega)) mM_X11_271 mI_X11_counts mE_X11_counts mN_X11 mC_X11_counts (by decide +kernel) 0 (ci := 11) rfl rfl hP hS (fun _ h => h) ⟨Nat.le_of_ble_eq_true rfl, Nat.le_of_ble_eq_true rfl⟩ ⟨Nat.zero_le _, Nat.zero_le _⟩ hl.1 rfl rfl (Nat.le_of_ble_eq_true rfl) dX11_readExpression_111 (fun r_59 v_59 f_59 g_59 H locs hq_59 hP _ hS => ?_)
                obtain ⟨w6_59, w7_59, rfl, rfl, rfl, rfl, p0_59, p1_59⟩ := hq_59
                show W p l e (gRm 3 69) s m args below meth c _ _ 0 0 Q (F0 m 114 ls [])
                have hP : gWd D (mdT k ad) (va_up (va_up (va_up (va_up (va_up (va_up (va_up (va_up (va_up (va_up v 6 w6_59) 7 w7_59) 8 y8_10) 9 y9_10) 10 y10_10) 11 y11_10) 16 y16_10) 20 y20_10) 21 y21_10) 27 (y27_10 + 1)) (va_up (va_up (va_up f 11 c11_10) 12 c12_10) 17 c17_10) (va_up g 0 d0_10) H := ⟨hP.1, (gF_up (V := mdV) (F := mdF) (gF_up (V := mdV) (F := mdF) (gF_up (V := mdV) (F := mdF) (gR_up (V := mdV) (F := mdF) (gR_up (V := mdV) (F := mdF) (gR_up (V := mdV) (F := mdF) (gR_up (V := mdV) (F := mdF) (gR_up (V := mdV) (F := mdF) (gR_up (V := mdV) (F := mdF) (gR_up (V := mdV) (F := mdF) (gR_up (V := mdV) (F := mdF) (gR_up (V := mdV) (F := mdF) (gR_up (V := mdV) (F := mdF) ⟨hok.1, hok.2⟩ 6 (hP.2.1 6)) 7 (hP.2.1 7)) 8 (hP.2.1 8)) 9 (hP.2.1 9)) 10 (hP.2.1 10)) 11 (hP.2.1 11)) 16 (hP.2.1 16)) 20 (hP.2.1 20)) 21 (hP.2.1 21)) 27 (hP.2.1 27)) 11 (hP.2.2 11)) 12 (hP.2.2 12)) 17 (hP.2.2 17))⟩
                replace p0_59 : y27_10 = 40 → w6_59 = 3 ∧ w7_59 = qq := p0_59
                replace p1_59 : y27_10 < 40 → w6_59 = 0 := p1_59
                have rw6_59 : 0 ≤ w6_59 ∧ w6_59 ≤ 5 := hP.2.1 6
                have rw7_59 : 0 ≤ w7_59 ∧ w7_59 ≤ 700 := hP.2.1 7
                refine lv_aload_n hx hb dX11_readExpression_114 rfl (lv_at hl 1 rfl) ?_
                refine mdG_bad C hP mF_X11_188 dX11_readExpression_115 ?_
                show W p l e (gRm 3 69) s m args below meth c _ _ 0 0 Q (F0 m 118 ls [.int (iI w6_59)])
                have r_60 : 0 ≤ w6_59 ∧ w6_59 ≤ 5 := hP.2.1 6
                refine gi_zle (tgt := 122) hx hb dX11_readExpression_118 (by decide) (by omega) (fun c_61 => ?_) (fun c_61 => ?_)
                · refine lv_aload_n hx hb dX11_readExpression_122 rfl (lv_at hl 1 rfl) ?_
                  refine lv_iload_n hx hb dX11_readExpression_123 rfl (lv_at hl 0 rfl) ?_
                  refine g_cs (As := [.int (iI 7)]) (rest := [.ref (ad 0)]) (n := 1) C hml (n_strong l D k A ad hD (va_up (va_up (va_up (va_up (va_up (va_up (va_up (va_up (va_up (va_up v 6 w6_59) 7 w7_59) 8 y8_10) 9 y9_10) 10 y10_10) 11 y11_10) 16 y16_10) 20 y20_10) 21 y21_10) 27 (y27_10 + 1)) (va_up (va_up (va_up f 11 c11_10) 12 c12_10) 17 c17_10) (va_up g 0 d0_10) 7 (by decide)) mM_X11_258 mS_X11_strong mN_X11 mC_X11_strong (by decide +kernel) hP hS (fun _ h => h) ⟨Nat.le_of_ble_eq_true rfl, Nat.le_of_ble_eq_true rfl⟩ ⟨Nat.zero_le _, Nat.zero_le _⟩ hl.1 rfl rfl (Nat.le_of_ble_eq_true rfl) dX11_readExpression_124 (fun r_62 v_62 f_62 g_62 H locs hq_62 hP _ hS => ?_)
                  obtain ⟨z_62, rfl, rfl, rfl, rfl, p0_62, p1_62, p2_62, p3_62⟩ := hq_62
                  show W p l e (gRm 3 69) s m args below meth c _ _ 0 0 Q (F0 m 127 ls [.int (iI z_62), .ref (ad 0)])
                  replace p0_62 : 0 ≤ z_62 ∧ z_62 ≤ 2 := p0_62
                  replace p1_62 : (7 : Int) = 9 → z_62 = 2 := p1_62
                  replace p2_62 : (7 : Int) < 9 → z_62 = 1 := p2_62
                  replace p3_62 : 9 < (7 : Int) → z_62 = 0 := p3_62
                  refine g_cv (As := [.int (iI z_62)]) (rest := []) (n := 1) C hml (n_reduce l D k A ad hD (va_up (va_up (va_up (va_up (va_up (va_up (va_up (va_up (va_up (va_up v 6 w6_59) 7 w7_59) 8 y8_10) 9 y9_10) 10 y10_10) 11 y11_10) 16 y16_10) 20 y20_10) 21 y21_10) 27 (y27_10 + 1)) (va_up (va_up (va_up f 11 c11_10) 12 c12_10) 17 c17_10) (va_up g 0 d0_10) z_62 S1 E1 7 (by omega) (show (z_62 = 1 ∧ 7 ≠ 9) ∨ (z_62 = 2 ∧ 7 = 9) from by omega) (show wfS S1 from hX1.1.1) (show hdS S1 ≠ 10 from hX1.1.2.1 rfl) (show rep S1 c17_10 y20_10 from hX1.1.2.2.1) (show repC mp E1 c11_10 c12_10 y16_10 ∧ (E1.length : Int) + cSg S1 ≤ 40 from ⟨hX1.1.2.2.2.1, by omega⟩)) mM_X11_274 mI_X11_reduce mE_X11_reduce mN_X11 mC_X11_reduce (by decide +kernel) 0 (ci := 11) rfl rfl hP hS (fun _ h => h) ⟨Nat.le_of_ble_eq_true rfl, Nat.le_of_ble_eq_true rfl⟩ ⟨Nat.zero_le _, Nat.zero_le _⟩ hl.1 rfl rfl (Nat.le_of_ble_eq_true rfl) dX11_readExpression_127 (fun r_63 v_63 f_63 g_63 H locs hq_63 hP _ hS => ?_)
                  obtain ⟨w16_63, w20_63, a11_63, a12_63, rfl, rfl, rfl, rfl, p0_63, p1_63⟩ := hq_63
                  show W p l e (gRm 3 69) s m args below meth c _ _ 0 0 Q (F0 m 130 ls [])
                  have hP : gWd D (mdT k ad) (va_up (va_up (va_up (va_up (va_up (va_up (va_up (va_up (va_up (va_up v 6 w6_59) 7 w7_59) 8 y8_10) 9 y9_10) 10 y10_10) 11 y11_10) 16 w16_63) 20 w20_63) 21 y21_10) 27 (y27_10 + 1)) (va_up (va_up (va_up f 11 a11_63) 12 a12_63) 17 c17_10) (va_up g 0 d0_10) H := ⟨hP.1, (gF_up (V := mdV) (F := mdF) (gF_up (V := mdV) (F := mdF) (gF_up (V := mdV) (F := mdF) (gR_up (V := mdV) (F := mdF) (gR_up (V := mdV) (F := mdF) (gR_up (V := mdV) (F := mdF) (gR_up (V := mdV) (F := mdF) (gR_up (V := mdV) (F := mdF) (gR_up (V := mdV) (F := mdF) (gR_up (V := mdV) (F := mdF) (gR_up (V := mdV) (F := mdF) (gR_up (V := mdV) (F := mdF) (gR_up (V := mdV) (F := mdF) ⟨hok.1, hok.2⟩ 6 (hP.2.1 6)) 7 (hP.2.1 7)) 8 (hP.2.1 8)) 9 (hP.2.1 9)) 10 (hP.2.1 10)) 11 (hP.2.1 11)) 16 (hP.2.1 16)) 20 (hP.2.1 20)) 21 (hP.2.1 21)) 27 (hP.2.1 27)) 11 (hP.2.2 11)) 12 (hP.2.2 12)) 17 (hP.2.2 17))⟩
                  replace p0_63 : rep (rlS 7 S1 E1).1 c17_10 w20_63 := p0_63
                  replace p1_63 : repC mp (rlS 7 S1 E1).2 a11_63 a12_63 w16_63 := p1_63
                  have rw16_63 : 0 ≤ w16_63 ∧ w16_63 ≤ 41 := hP.2.1 16
                  have rw20_63 : 0 ≤ w20_63 ∧ w20_63 ≤ 64 := hP.2.1 20
                  have hR0 := p0_63
                  have hR1 := p1_63
                  have hro := rlS_ok 7 S1 E1 hX1.1.1 (hX1.1.2.1 rfl)
                  have hrv := rlS_v 7 S1 E1 hX1.1.1 hX1.2.1 hX1.2.2
                  have hrl := rep_len _ _ _ hR0
                  have hwl := wfS_len _ hro.1
                  refine lv_aload_n hx hb dX11_readExpression_130 rfl (lv_at hl 1 rfl) ?_
                  refine lv_iload_n hx hb dX11_readExpression_131 rfl (lv_at hl 0 rfl) ?_
                  refine g_cv (As := [.int (iI 7)]) (rest := []) (n := 1) C hml (n_waitFor l D k A ad hD (va_up (va_up (va_up (va_up (va_up (va_up (va_up (va_up (va_up (va_up v 6 w6_59) 7 w7_59) 8 y8_10) 9 y9_10) 10 y10_10) 11 y11_10) 16 w16_63) 20 w20_63) 21 y21_10) 27 (y27_10 + 1)) (va_up (va_up (va_up f 11 a11_63) 12 a12_63) 17 c17_10) (va_up g 0 d0_10) 7 (by decide) (show w20_63 ≤ 63 from by omega) (show 0 ≤ (7 : Int) ∧ (7 : Int) ≤ 11 from by omega)) mM_X11_277 mI_X11_waitFor mE_X11_waitFor mN_X11 mC_X11_waitFor (by decide +kernel) 0 (ci := 11) rfl rfl hP hS (fun _ h => h) ⟨Nat.le_of_ble_eq_true rfl, Nat.le_of_ble_eq_true rfl⟩ ⟨Nat.zero_le _, Nat.zero_le _⟩ hl.1 rfl rfl (Nat.le_of_ble_eq_true rfl) dX11_readExpression_132 (fun r_64 v_64 f_64 g_64 H locs hq_64 hP _ hS => ?_)
                  obtain ⟨rfl, rfl, rfl, rfl⟩ := hq_64
                  show W p l e (gRm 3 69) s m args below meth c _ _ 0 0 Q (F0 m 135 ls [])
                  have hP : gWd D (mdT k ad) (va_up (va_up (va_up (va_up (va_up (va_up (va_up (va_up (va_up (va_up v 6 w6_59) 7 w7_59) 8 y8_10) 9 y9_10) 10 y10_10) 11 y11_10) 16 w16_63) 20 (w20_63 + 1)) 21 y21_10) 27 (y27_10 + 1)) (va_up (va_up (va_up f 11 a11_63) 12 a12_63) 17 (u1 c17_10 w20_63 (7 : Int))) (va_up g 0 d0_10) H := ⟨hP.1, (gF_up (V := mdV) (F := mdF) (gF_up (V := mdV) (F := mdF) (gF_up (V := mdV) (F := mdF) (gR_up (V := mdV) (F := mdF) (gR_up (V := mdV) (F := mdF) (gR_up (V := mdV) (F := mdF) (gR_up (V := mdV) (F := mdF) (gR_up (V := mdV) (F := mdF) (gR_up (V := mdV) (F := mdF) (gR_up (V := mdV) (F := mdF) (gR_up (V := mdV) (F := mdF) (gR_up (V := mdV) (F := mdF) (gR_up (V := mdV) (F := mdF) ⟨hok.1, hok.2⟩ 6 (hP.2.1 6)) 7 (hP.2.1 7)) 8 (hP.2.1 8)) 9 (hP.2.1 9)) 10 (hP.2.1 10)) 11 (hP.2.1 11)) 16 (hP.2.1 16)) 20 (hP.2.1 20)) 21 (hP.2.1 21)) 27 (hP.2.1 27)) 11 (hP.2.2 11)) 12 (hP.2.2 12)) 17 (hP.2.2 17))⟩
                  refine lv_aload_n hx hb dX11_readExpression_135 rfl (lv_at hl 1 rfl) ?_
                  refine g_cv (As := []) (rest := []) (n := 0) C hml (n_next l D k A ad hD (va_up (va_up (va_up (va_up (va_up (va_up (va_up (va_up (va_up (va_up v 6 w6_59) 7 w7_59) 8 y8_10) 9 y9_10) 10 y10_10) 11 y11_10) 16 w16_63) 20 (w20_63 + 1)) 21 y21_10) 27 (y27_10 + 1)) (va_up (va_up (va_up f 11 a11_63) 12 a12_63) 17 (u1 c17_10 w20_63 (7 : Int))) (va_up g 0 d0_10) B (show ∀ k, (f 0) k % 256 = B k from hB) (show 0 ≤ y10_10 ∧ y10_10 ≤ (v 3) from by omega)) mM_X11_201 mI_X11_next mE_X11_next mN_X11 mC_X11_next (by decide +kernel) 0 (ci := 11) rfl rfl hP hS (fun _ h => h) ⟨Nat.le_of_ble_eq_true rfl, Nat.le_of_ble_eq_true rfl⟩ ⟨Nat.zero_le _, Nat.zero_le _⟩ hl.1 rfl rfl (Nat.le_of_ble_eq_true rfl) dX11_readExpression_136 (fun r_65 v_65 f_65 g_65 H locs hq_65 hP _ hS => ?_)
                  obtain ⟨w8_65, w9_65, w10_65, w11_65, b0_65, rfl, rfl, rfl, rfl, p0_65⟩ := hq_65
                  show W p l e (gRm 3 69) s m args below meth c _ _ 0 0 Q (F0 m 139 ls [])
                  have hP : gWd D (mdT k ad) (va_up (va_up (va_up (va_up (va_up (va_up (va_up (va_up (va_up (va_up v 6 w6_59) 7 w7_59) 8 w8_65) 9 w9_65) 10 w10_65) 11 w11_65) 16 w16_63) 20 (w20_63 + 1)) 21 y21_10) 27 (y27_10 + 1)) (va_up (va_up (va_up f 11 a11_63) 12 a12_63) 17 (u1 c17_10 w20_63 (7 : Int))) (va_up g 0 b0_65) H := ⟨hP.1, (gF_up (V := mdV) (F := mdF) (gF_up (V := mdV) (F := mdF) (gF_up (V := mdV) (F := mdF) (gR_up (V := mdV) (F := mdF) (gR_up (V := mdV) (F := mdF) (gR_up (V := mdV) (F := mdF) (gR_up (V := mdV) (F := mdF) (gR_up (V := mdV) (F := mdF) (gR_up (V := mdV) (F := mdF) (gR_up (V := mdV) (F := mdF) (gR_up (V := mdV) (F := mdF) (gR_up (V := mdV) (F := mdF) (gR_up (V := mdV) (F := mdF) ⟨hok.1, hok.2⟩ 6 (hP.2.1 6)) 7 (hP.2.1 7)) 8 (hP.2.1 8)) 9 (hP.2.1 9)) 10 (hP.2.1 10)) 11 (hP.2.1 11)) 16 (hP.2.1 16)) 20 (hP.2.1 20)) 21 (hP.2.1 21)) 27 (hP.2.1 27)) 11 (hP.2.2 11)) 12 (hP.2.2 12)) 17 (hP.2.2 17))⟩
                  replace p0_65 : mAt B (v 3) w9_65 w10_65 w8_65 w11_65 (b0_65 0) (run bW B (v 3) y10_10) := p0_65
                  have rw8_65 : 0 ≤ w8_65 ∧ w8_65 ≤ 4 := hP.2.1 8
                  have rw9_65 : 0 ≤ w9_65 ∧ w9_65 ≤ 700 := hP.2.1 9
                  have rw10_65 : 0 ≤ w10_65 ∧ w10_65 ≤ 700 := hP.2.1 10
                  have rw11_65 : 0 ≤ w11_65 ∧ w11_65 ≤ 999999 := hP.2.1 11
                  have hN : mAt B (v 3) w9_65 w10_65 w8_65 w11_65 (b0_65 0) (tX B (v 3) qq) := by have h := p0_65; rw [hM.bh] at h; exact h
                  clear p0_65
                  have hu := tX_up (B := B) (n := (v 3)) (q := qq) (by have h9 := (not_congr (tK_end (B := B) (n := (v 3)) (q := qq))).mp (by omega); omega)
                  refine lv_iconst (v := iI 0) hx hb dX11_readExpression_139 rfl ?_
                  refine lv_istore_n (lv' := [(1, .int (iI 0)), (3, .int (iI 7)), (0, .ref (ad 0)), (2, .int (iI x2))]) hx hb dX11_readExpression_140 rfl hl (by decide) rfl (fun ls hl => ?_)
                  refine lv_goto (tgt := 198) hx hb dX11_readExpression_141 (by decide) ?_
                  refine lv_goto (tgt := 24) hx hb dX11_readExpression_198 (by decide) ?_
                  have hk9 : tK B (v 3) qq = 43 := by omega
                  have hy40 : y27_10 < 40 := by omega
                  have hw60 : w6_59 = 0 := by omega
                  clear p0_59 p1_59 p1_62 p2_62 p3_62
                  exact ih_24 0 x2 ((tX B (v 3) qq)) ((7 :: (rlS 7 S1 E1).1)) ((rlS 7 S1 E1).2) ((kk - 1)) w6_59 w7_59 w8_65 w9_65 w10_65 w11_65 w16_63 (w20_63 + 1) y21_10 (y27_10 + 1) a11_63 a12_63 (u1 c17_10 w20_63 (7 : Int)) b0_65 _ _ _ (by omega) (by omega) (by omega) hN (by exact (fun _ => xM_sg hro.1 (by decide) hro.2.2.2.2.2.1 hro.2.2.2.2.2.2 hro.2.1 hR0 hR1 (by omega) (by omega) (by omega) (by omega) hrv.1 hrv.2)) (by exact (fun h => by rw [← hO, show kk = (kk - 1) + 1 by omega]; exact (exF_sg _ (by omega) (by omega)).symm)) (by first | omega | exact hJ5.get) (by first | (intro h; exfalso; omega) | exact hJ6.get) (by omega) hP hS (lv_sub hl [2, 0, 3] rfl)
                · exact g_vret hQ C hr hlocks hP hS dX11_readExpression_121 ⟨w6_59, w7_59, y8_10, y9_10, y10_10, y11_10, y16_10, y20_10, y21_10, (y27_10 + 1), c11_10, c12_10, c17_10, d0_10, rfl, rfl, rfl, rfl, ⟨(w6_59, qq), ⟨rfl, fun _ => by show w7_59 = qq; omega, hM⟩, by rw [← hO, show kk = (kk - 1) + 1 by omega, exF_sg3 _ (by omega) (by omega), show w6_59 = 3 by omega]⟩, (by intro h; exfalso; omega), (by intro h; exfalso; omega)⟩
          · refine lv_aload_n hx hb dX11_readExpression_39 rfl (lv_at hl 0 rfl) ?_
            refine g_cv (As := []) (rest := []) (n := 0) C hml (n_readFactor l D k A ad hD (va_up (va_up (va_up (va_up (va_up (va_up (va_up (va_up (va_up (va_up v 6 y6_10) 7 y7_10) 8 y8_10) 9 y9_10) 10 y10_10) 11 y11_10) 16 y16_10) 20 y20_10) 21 y21_10) 27 y27_10) (va_up (va_up (va_up f 11 c11_10) 12 c12_10) 17 c17_10) (va_up g 0 d0_10) B qq S1 E1 (show ∀ k, (f 0) k % 256 = B k from hB) (show mAt B (v 3) y9_10 y10_10 y8_10 y11_10 (d0_10 0) qq from hM) (show y6_10 = 0 from by omega) (show xM 0 S1 E1 c17_10 y20_10 c11_10 c12_10 y16_10 y21_10 y27_10 0 from by have h := hJ3.get (by omega); rw [show x1 = 0 by omega] at h; exact h)) mM_X11_264 mI_X11_readFactor mE_X11_readFactor mN_X11 mC_X11_readFactor (by decide +kernel) 0 (ci := 11) rfl rfl hP hS (fun _ h => h) ⟨Nat.le_of_ble_eq_true rfl, Nat.le_of_ble_eq_true rfl⟩ ⟨Nat.zero_le _, Nat.zero_le _⟩ hl.1 rfl rfl (Nat.le_of_ble_eq_true rfl) dX11_readExpression_40 (fun r_66 v_66 f_66 g_66 H locs hq_66 hP _ hS => ?_)
            obtain ⟨z_66, w6_66, w7_66, w8_66, w9_66, w10_66, w11_66, w16_66, w20_66, w21_66, w27_66, a11_66, a12_66, a17_66, b0_66, rfl, rfl, rfl, rfl, p0_66, p1_66⟩ := hq_66
            show W p l e (gRm 3 69) s m args below meth c _ _ 0 0 Q (F0 m 43 ls [.int (iI z_66)])
            have hP : gWd D (mdT k ad) (va_up (va_up (va_up (va_up (va_up (va_up (va_up (va_up (va_up (va_up v 6 w6_66) 7 w7_66) 8 w8_66) 9 w9_66) 10 w10_66) 11 w11_66) 16 w16_66) 20 w20_66) 21 w21_66) 27 w27_66) (va_up (va_up (va_up f 11 a11_66) 12 a12_66) 17 a17_66) (va_up g 0 b0_66) H := ⟨hP.1, (gF_up (V := mdV) (F := mdF) (gF_up (V := mdV) (F := mdF) (gF_up (V := mdV) (F := mdF) (gR_up (V := mdV) (F := mdF) (gR_up (V := mdV) (F := mdF) (gR_up (V := mdV) (F := mdF) (gR_up (V := mdV) (F := mdF) (gR_up (V := mdV) (F := mdF) (gR_up (V := mdV) (F := mdF) (gR_up (V := mdV) (F := mdF) (gR_up (V := mdV) (F := mdF) (gR_up (V := mdV) (F := mdF) (gR_up (V := mdV) (F := mdF) ⟨hok.1, hok.2⟩ 6 (hP.2.1 6)) 7 (hP.2.1 7)) 8 (hP.2.1 8)) 9 (hP.2.1 9)) 10 (hP.2.1 10)) 11 (hP.2.1 11)) 16 (hP.2.1 16)) 20 (hP.2.1 20)) 21 (hP.2.1 21)) 27 (hP.2.1 27)) 11 (hP.2.2 11)) 12 (hP.2.2 12)) 17 (hP.2.2 17))⟩
            replace p0_66 : 0 ≤ z_66 ∧ z_66 ≤ 1 := p0_66
            replace p1_66 : (w6_66 = 0 ∧ ((tK B (v 3) qq) ≠ 256 ∧ (tK B (v 3) qq) ≠ 257) ∧ mAt B (v 3) w9_66 w10_66 w8_66 w11_66 (b0_66 0) (tX B (v 3) qq) ∧ ((z_66 = 1 ∧ ∃ cx vx, xM 0 S1 ((cx, vx) :: E1) a17_66 w20_66 a11_66 a12_66 w16_66 w21_66 w27_66 1 ∧ ∀ k : Nat, exF B (v 3) (k + 1) qq 0 S1 E1 = exF B (v 3) k (tX B (v 3) qq) 1 (rlN S1 ((cx, vx) :: E1)).1 (rlN S1 ((cx, vx) :: E1)).2) ∨ (z_66 = 0 ∧ ∃ Sx, xM 0 Sx E1 a17_66 w20_66 a11_66 a12_66 w16_66 w21_66 w27_66 0 ∧ ∀ k : Nat, exF B (v 3) (k + 1) qq 0 S1 E1 = exF B (v 3) k (tX B (v 3) qq) 0 Sx E1))) ∨ (w6_66 ≠ 0 ∧ w7_66 = qq ∧ mAt B (v 3) w9_66 w10_66 w8_66 w11_66 (b0_66 0) qq ∧ ∀ k : Nat, exF B (v 3) (k + 1) qq 0 S1 E1 = (w6_66, qq, E1)) := p1_66
            have rw6_66 : 0 ≤ w6_66 ∧ w6_66 ≤ 5 := hP.2.1 6
            have rw7_66 : 0 ≤ w7_66 ∧ w7_66 ≤ 700 := hP.2.1 7
            have rw8_66 : 0 ≤ w8_66 ∧ w8_66 ≤ 4 := hP.2.1 8
            have rw9_66 : 0 ≤ w9_66 ∧ w9_66 ≤ 700 := hP.2.1 9
            have rw10_66 : 0 ≤ w10_66 ∧ w10_66 ≤ 700 := hP.2.1 10
            have rw11_66 : 0 ≤ w11_66 ∧ w11_66 ≤ 999999 := hP.2.1 11
            have rw16_66 : 0 ≤ w16_66 ∧ w16_66 ≤ 41 := hP.2.1 16
            have rw20_66 : 0 ≤ w20_66 ∧ w20_66 ≤ 64 := hP.2.1 20
            have rw21_66 : 0 ≤ w21_66 ∧ w21_66 ≤ 9 := hP.2.1 21
            have rw27_66 : 0 ≤ w27_66 ∧ w27_66 ≤ 41 := hP.2.1 27
            have hRF := p1_66
            clear p1_66
            rcases hRF with ⟨hB0, hKK, hN, ⟨hz1, cx, vx, hX2, hEX⟩ | ⟨hz1, Sx, hX2, hEX⟩⟩ | ⟨hB1, hBA, hN, hEX⟩
            · refine lv_istore_n (lv' := [(1, .int (iI z_66)), (0, .ref (ad 0)), (2, .int (iI x2))]) hx hb dX11_readExpression_43 rfl hl (by decide) rfl (fun ls hl => ?_)
              have hu := tX_up (B := B) (n := (v 3)) (q := qq) (by have h9 := (not_congr (tK_end (B := B) (n := (v 3)) (q := qq))).mp (by omega); omega)
              refine lv_iload_n hx hb dX11_readExpression_44 rfl (lv_at hl 0 rfl) ?_
              refine gi_zeq (tgt := 24) hx hb dX11_readExpression_45 (by decide) (by omega) (fun c_67 => ?_) (fun c_67 => ?_)
              · exfalso; omega
              · refine lv_aload_n hx hb dX11_readExpression_48 rfl (lv_at hl 1 rfl) ?_
                refine mdG_bad C hP mF_X11_188 dX11_readExpression_49 ?_
                show W p l e (gRm 3 69) s m args below meth c _ _ 0 0 Q (F0 m 52 ls [.int (iI w6_66)])
                have r_68 : 0 ≤ w6_66 ∧ w6_66 ≤ 5 := hP.2.1 6
                refine gi_zne (tgt := 24) hx hb dX11_readExpression_52 (by decide) (by omega) (fun c_69 => ?_) (fun c_69 => ?_)
                · exfalso; omega
                · refine lv_aload_n hx hb dX11_readExpression_55 rfl (lv_at hl 1 rfl) ?_
                  refine g_cv (As := []) (rest := []) (n := 0) C hml (n_wholes l D k A ad hD (va_up (va_up (va_up (va_up (va_up (va_up (va_up (va_up (va_up (va_up v 6 w6_66) 7 w7_66) 8 w8_66) 9 w9_66) 10 w10_66) 11 w11_66) 16 w16_66) 20 w20_66) 21 w21_66) 27 w27_66) (va_up (va_up (va_up f 11 a11_66) 12 a12_66) 17 a17_66) (va_up g 0 b0_66) S1 ((cx, vx) :: E1) (show wfS S1 from hX2.1.1) (show rep S1 a17_66 w20_66 from hX2.1.2.2.1) (show w21_66 = cNs S1 from hX2.1.2.2.2.2.1) (show repC mp ((cx, vx) :: E1) a11_66 a12_66 w16_66 ∧ (((cx, vx) :: E1).length : Int) + cSg S1 ≤ 40 from ⟨hX2.1.2.2.2.1, by have := xM_rng hX2; omega⟩)) mM_X11_268 mI_X11_wholes mE_X11_wholes mN_X11 mC_X11_wholes (by decide +kernel) 0 (ci := 11) rfl rfl hP hS (fun _ h => h) ⟨Nat.le_of_ble_eq_true rfl, Nat.le_of_ble_eq_true rfl⟩ ⟨Nat.zero_le _, Nat.zero_le _⟩ hl.1 rfl rfl (Nat.le_of_ble_eq_true rfl) dX11_readExpression_56 (fun r_70 v_70 f_70 g_70 H locs hq_70 hP _ hS => ?_)
                  obtain ⟨w16_70, w20_70, w21_70, a11_70, a12_70, rfl, rfl, rfl, rfl, p0_70, p1_70, p2_70⟩ := hq_70
                  show W p l e (gRm 3 69) s m args below meth c _ _ 0 0 Q (F0 m 59 ls [])
                  have hP : gWd D (mdT k ad) (va_up (va_up (va_up (va_up (va_up (va_up (va_up (va_up (va_up (va_up v 6 w6_66) 7 w7_66) 8 w8_66) 9 w9_66) 10 w10_66) 11 w11_66) 16 w16_70) 20 w20_70) 21 w21_70) 27 w27_66) (va_up (va_up (va_up f 11 a11_70) 12 a12_70) 17 a17_66) (va_up g 0 b0_66) H := ⟨hP.1, (gF_up (V := mdV) (F := mdF) (gF_up (V := mdV) (F := mdF) (gF_up (V := mdV) (F := mdF) (gR_up (V := mdV) (F := mdF) (gR_up (V := mdV) (F := mdF) (gR_up (V := mdV) (F := mdF) (gR_up (V := mdV) (F := mdF) (gR_up (V := mdV) (F := mdF) (gR_up (V := mdV) (F := mdF) (gR_up (V := mdV) (F := mdF) (gR_up (V := mdV) (F := mdF) (gR_up (V := mdV) (F := mdF) (gR_up (V := mdV) (F := mdF) ⟨hok.1, hok.2⟩ 6 (hP.2.1 6)) 7 (hP.2.1 7)) 8 (hP.2.1 8)) 9 (hP.2.1 9)) 10 (hP.2.1 10)) 11 (hP.2.1 11)) 16 (hP.2.1 16)) 20 (hP.2.1 20)) 21 (hP.2.1 21)) 27 (hP.2.1 27)) 11 (hP.2.2 11)) 12 (hP.2.2 12)) 17 (hP.2.2 17))⟩
                  replace p0_70 : rep (rlN S1 ((cx, vx) :: E1)).1 a17_66 w20_70 := p0_70
                  replace p1_70 : w21_70 = cNs (rlN S1 ((cx, vx) :: E1)).1 := p1_70
                  replace p2_70 : repC mp (rlN S1 ((cx, vx) :: E1)).2 a11_70 a12_70 w16_70 := p2_70
                  have rw16_70 : 0 ≤ w16_70 ∧ w16_70 ≤ 41 := hP.2.1 16
                  have rw20_70 : 0 ≤ w20_70 ∧ w20_70 ≤ 64 := hP.2.1 20
                  have rw21_70 : 0 ≤ w21_70 ∧ w21_70 ≤ 9 := hP.2.1 21
                  have hX3 := xM_whole hX2 p0_70 p2_70 p1_70
                  refine lv_goto (tgt := 24) hx hb dX11_readExpression_59 (by decide) ?_
                  exact ih_24 z_66 x2 ((tX B (v 3) qq)) ((rlN S1 ((cx, vx) :: E1)).1) ((rlN S1 ((cx, vx) :: E1)).2) ((kk - 1)) w6_66 w7_66 w8_66 w9_66 w10_66 w11_66 w16_70 w20_70 w21_70 w27_66 a11_70 a12_70 a17_66 b0_66 _ _ _ (by omega) (by omega) (by omega) hN (by exact (fun _ => by rw [show z_66 = 1 by omega]; exact hX3)) (by exact (fun h => by rw [← hJ4.get (by omega), show kk = (kk - 1) + 1 by omega, show x1 = 0 by omega, show z_66 = 1 by omega]; exact (hEX _).symm)) (by first | omega | exact hJ5.get) (by first | (intro h; exfalso; omega) | exact hJ6.get) (by omega) hP hS (lv_sub hl [1, 0, 2] rfl)
            · refine lv_istore_n (lv' := [(1, .int (iI z_66)), (0, .ref (ad 0)), (2, .int (iI x2))]) hx hb dX11_readExpression_43 rfl hl (by decide) rfl (fun ls hl => ?_)
              have hu := tX_up (B := B) (n := (v 3)) (q := qq) (by have h9 := (not_congr (tK_end (B := B) (n := (v 3)) (q := qq))).mp (by omega); omega)
              refine lv_iload_n hx hb dX11_readExpression_44 rfl (lv_at hl 0 rfl) ?_
              refine gi_zeq (tgt := 24) hx hb dX11_readExpression_45 (by decide) (by omega) (fun c_71 => ?_) (fun c_71 => ?_)
              · exact ih_24 z_66 x2 ((tX B (v 3) qq)) (Sx) (E1) ((kk - 1)) w6_66 w7_66 w8_66 w9_66 w10_66 w11_66 w16_66 w20_66 w21_66 w27_66 a11_66 a12_66 a17_66 b0_66 _ _ _ (by omega) (by omega) (by omega) hN (by exact (fun _ => by rw [hz1]; exact hX2)) (by exact (fun h => by rw [← hJ4.get (by omega), show kk = (kk - 1) + 1 by omega, show x1 = 0 by omega, hz1]; exact (hEX _).symm)) (by first | omega | exact hJ5.get) (by first | (intro h; exfalso; omega) | exact hJ6.get) (by omega) hP hS (lv_sub hl [1, 0, 2] rfl)
              · exfalso; omega
            · refine lv_istore_n (lv' := [(1, .int (iI z_66)), (0, .ref (ad 0)), (2, .int (iI x2))]) hx hb dX11_readExpression_43 rfl hl (by decide) rfl (fun ls hl => ?_)
              refine lv_iload_n hx hb dX11_readExpression_44 rfl (lv_at hl 0 rfl) ?_
              refine gi_zeq (tgt := 24) hx hb dX11_readExpression_45 (by decide) (by omega) (fun c_72 => ?_) (fun c_72 => ?_)
              · exact ih_24 z_66 x2 (qq) (S1) (E1) (kk) w6_66 w7_66 w8_66 w9_66 w10_66 w11_66 w16_66 w20_66 w21_66 w27_66 a11_66 a12_66 a17_66 b0_66 _ _ _ (by omega) (by omega) (by omega) hN (by exact (fun h => absurd h hB1)) (by exact (fun h => absurd h hB1)) (by first | omega | exact hJ5.get) (by first | (intro h; exfalso; omega) | exact (fun _ => ⟨hBA, by rw [← hJ4.get (by omega), show kk = (kk - 1) + 1 by omega, show x1 = 0 by omega]; exact hEX _⟩)) (by omega) hP hS (lv_sub hl [1, 0, 2] rfl)
              · refine lv_aload_n hx hb dX11_readExpression_48 rfl (lv_at hl 1 rfl) ?_
                refine mdG_bad C hP mF_X11_188 dX11_readExpression_49 ?_
                show W p l e (gRm 3 69) s m args below meth c _ _ 0 0 Q (F0 m 52 ls [.int (iI w6_66)])
                have r_73 : 0 ≤ w6_66 ∧ w6_66 ≤ 5 := hP.2.1 6
                refine gi_zne (tgt := 24) hx hb dX11_readExpression_52 (by decide) (by omega) (fun c_74 => ?_) (fun c_74 => ?_)
                · exact ih_24 z_66 x2 (qq) (S1) (E1) (kk) w6_66 w7_66 w8_66 w9_66 w10_66 w11_66 w16_66 w20_66 w21_66 w27_66 a11_66 a12_66 a17_66 b0_66 _ _ _ (by omega) (by omega) (by omega) hN (by exact (fun h => absurd h hB1)) (by exact (fun h => absurd h hB1)) (by first | omega | exact hJ5.get) (by first | (intro h; exfalso; omega) | exact (fun _ => ⟨hBA, by rw [← hJ4.get (by omega), show kk = (kk - 1) + 1 by omega, show x1 = 0 by omega]; exact hEX _⟩)) (by omega) hP hS (lv_sub hl [1, 0, 2] rfl)
                · exfalso; omega
  exact L_10 8000 0 1 (pp) ([]) ([]) (702) (v 6) (v 7) (v 8) (v 9) (v 10) (v 11) 0 0 0 0 (f 11) (f 12) (f 17) (g 0) _ _ _ (by omega) (by omega) (by omega) hc (fun _ => ⟨⟨trivial, fun h => absurd h (by decide), rfl, rfl, rfl, rfl, by decide, by decide⟩, trivial, rfl⟩) (fun _ => rfl) (by omega) (by omega) (by have := hc.of; omega) hP hS (lv_sub hl [2, 1, 0] rfl)
end
