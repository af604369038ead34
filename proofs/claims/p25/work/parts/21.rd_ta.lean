section
theorem dJ7_fill_d0a16_0 : decode cJ7_fill_d0a16 0 = .ok (.iconst 0, 1) := by decide +kernel
theorem dJ7_fill_d0a16_1 : decode cJ7_fill_d0a16 1 = .ok (.istore_n 3, 1) := by decide +kernel
theorem dJ7_fill_d0a16_2 : decode cJ7_fill_d0a16 2 = .ok (.aload_n 0, 1) := by decide +kernel
theorem dJ7_fill_d0a16_3 : decode cJ7_fill_d0a16 3 = .ok (.arraylength, 1) := by decide +kernel
theorem dJ7_fill_d0a16_4 : decode cJ7_fill_d0a16 4 = .ok (.istore 4, 2) := by decide +kernel
theorem dJ7_fill_d0a16_6 : decode cJ7_fill_d0a16 6 = .ok (.iload_n 3, 1) := by decide +kernel
theorem dJ7_fill_d0a16_7 : decode cJ7_fill_d0a16 7 = .ok (.iload 4, 2) := by decide +kernel
theorem dJ7_fill_d0a16_9 : decode cJ7_fill_d0a16 9 = .ok (.if_icmp .ge 13, 3) := by decide +kernel
theorem dJ7_fill_d0a16_12 : decode cJ7_fill_d0a16 12 = .ok (.aload_n 0, 1) := by decide +kernel
theorem dJ7_fill_d0a16_13 : decode cJ7_fill_d0a16 13 = .ok (.iload_n 3, 1) := by decide +kernel
theorem dJ7_fill_d0a16_14 : decode cJ7_fill_d0a16 14 = .ok (.lload_n 1, 1) := by decide +kernel
theorem dJ7_fill_d0a16_15 : decode cJ7_fill_d0a16 15 = .ok (.lastore, 1) := by decide +kernel
theorem dJ7_fill_d0a16_16 : decode cJ7_fill_d0a16 16 = .ok (.iinc 3 1, 3) := by decide +kernel
theorem dJ7_fill_d0a16_19 : decode cJ7_fill_d0a16 19 = .ok (.goto (-13), 3) := by decide +kernel
theorem dJ7_fill_d0a16_22 : decode cJ7_fill_d0a16 22 = .ok (.return_, 1) := by decide +kernel
theorem dJ7_fill_53178_0 : decode cJ7_fill_53178 0 = .ok (.iconst 0, 1) := by decide +kernel
theorem dJ7_fill_53178_1 : decode cJ7_fill_53178 1 = .ok (.istore_n 2, 1) := by decide +kernel
theorem dJ7_fill_53178_2 : decode cJ7_fill_53178 2 = .ok (.aload_n 0, 1) := by decide +kernel
theorem dJ7_fill_53178_3 : decode cJ7_fill_53178 3 = .ok (.arraylength, 1) := by decide +kernel
theorem dJ7_fill_53178_4 : decode cJ7_fill_53178 4 = .ok (.istore_n 3, 1) := by decide +kernel
theorem dJ7_fill_53178_5 : decode cJ7_fill_53178 5 = .ok (.iload_n 2, 1) := by decide +kernel
theorem dJ7_fill_53178_6 : decode cJ7_fill_53178 6 = .ok (.iload_n 3, 1) := by decide +kernel
theorem dJ7_fill_53178_7 : decode cJ7_fill_53178 7 = .ok (.if_icmp .ge 13, 3) := by decide +kernel
theorem dJ7_fill_53178_10 : decode cJ7_fill_53178 10 = .ok (.aload_n 0, 1) := by decide +kernel
theorem dJ7_fill_53178_11 : decode cJ7_fill_53178 11 = .ok (.iload_n 2, 1) := by decide +kernel
theorem dJ7_fill_53178_12 : decode cJ7_fill_53178 12 = .ok (.iload_n 1, 1) := by decide +kernel
theorem dJ7_fill_53178_13 : decode cJ7_fill_53178 13 = .ok (.iastore, 1) := by decide +kernel
theorem dJ7_fill_53178_14 : decode cJ7_fill_53178 14 = .ok (.iinc 2 1, 3) := by decide +kernel
theorem dJ7_fill_53178_17 : decode cJ7_fill_53178 17 = .ok (.goto (-12), 3) := by decide +kernel
theorem dJ7_fill_53178_20 : decode cJ7_fill_53178 20 = .ok (.return_, 1) := by decide +kernel
/-- the first n places of a row filled, copied -/
def gfill (a : Int → Int) (n x : Int) : Int → Int := fun k => if 0 ≤ k ∧ k < n then x else a k
theorem gfill_0 (a : Int → Int) (x : Int) : gfill a 0 x = a := by
  funext k
  unfold gfill
  exact if_neg (by omega)
theorem gfill_s (a : Int → Int) {i : Int} (x : Int) (h : 0 ≤ i) : u1 (gfill a i x) i x = gfill a (i + 1) x := by
  funext k
  unfold u1 gfill
  by_cases hk : k = i
  · rw [if_pos hk, if_pos (by omega)]
  · rw [if_neg hk]
    by_cases h2 : 0 ≤ k ∧ k < i
    · rw [if_pos h2, if_pos (by omega)]
    · rw [if_neg h2, if_neg (by omega)]
theorem gfill_rng {r : Int × Int} {a : Int → Int} {n x : Int} (h : ∀ k, rng r (a k)) (hx : rng r x) : ∀ k, rng r (gfill a n x k) := fun k => by
  unfold gfill
  by_cases hk : 0 ≤ k ∧ k < n
  · rw [if_pos hk]; exact hx
  · rw [if_neg hk]; exact h k
def gcpy (n : Int) (a b : Int → Int) : Int → Int := fun k => if 0 ≤ k ∧ k < n then a k else b k
theorem gcpy_rng {r : Int × Int} {a b : Int → Int} {n : Int} (h : ∀ k, rng r (a k)) (h2 : ∀ k, rng r (b k)) : ∀ k, rng r (gcpy n a b k) := fun k => by
  unfold gcpy
  by_cases hk : 0 ≤ k ∧ k < n
  · rw [if_pos hk]; exact h k
  · rw [if_neg hk]; exact h2 k
theorem iI_nat (n : Nat) : Int32.ofNat n = iI (n : Int) := (Int32.ofInt_eq_ofNat).symm
section G3
variable {p : Program} {l : Launch} {e : Env} {R : Room} {s : State} {m : MethodId} {args : Array Value} {below : List Frame} {meth : Method} {c : Code} {H H0 : Heap} {locs : List Loc} {cells slots : Nat} {Q : State → Prop}
variable {cc : ByteArray} {pc idx nL : Nat} {ls : Array Slot} {rest : List Value} {own : String} {D : va_G} {k : Nat → ClassId} {A : Nat → Prop} {ws ws' : va_W} {a0 a1 n : Nat} {r0 r1 : Int → Int}
theorem g_copy (C : gC D k p s m args c cc own) (hml : c.maxLocals = nL) (hsz : ls.size = nL) (hP : va_P D vwCl ws H) (hD : va_D A ws) (hS : va_S A H0 H locs) (q0 q1 : Nat) (ha0 : ws[q0]? = some (a0, rI (k 0) n r0)) (ha1 : ws[q1]? = some (a1, rI (k 0) n r1)) (hm : Cond.methodLink own idx arraycopyName ∈ gWs) (hw : ws.set q1 (a1, rI (k 0) n (gcpy n r0 r1)) = ws') (hn : n ≤ 1000000) {N : Int} (hN : N = (n : Int)) (hfr : 1 ≤ R.frames) (hlo : (rest.map fun v => v.category).sum + (nativeFrameWords "java/lang/System" "arraycopy" 5 + 11) ≤ R.locals) (hdg : decode cc pc = .ok (.invokestatic idx, 3))
    (kk : ∀ (H1 : Heap) (locs1 : List Loc), va_P D vwCl ws' H1 → va_S A H0 H1 locs1 → W p l e R s m args below meth c H1 locs1 cells slots Q (F0 m (pc + 3) ls rest)) : W p l e R s m args below meth c H locs cells slots Q (F0 m pc ls (.int (iI N) :: .int (iI 0) :: .ref a1 :: .int (iI 0) :: .ref a0 :: rest)) := by
  subst hN
  have h0 : (iI 0).toNatClampNeg = 0 := by decide
  have hc : (iI (n : Int)).toNatClampNeg = n := by
    have := iI_cl (a := (n : Int)) (by omega) (by omega)
    omega
  have hz : ¬ (iI (n : Int)) < 0 := by
    rw [iI_zero, iI_lt ⟨by omega, by omega⟩ (by decide)]
    omega
  refine va_copyi (D := D) C.1 C.2.1 (hml.trans hsz.symm) C.2.2.2.1 (C.2.2.1 _ hm) (C.2.2.1 _ mV_java_lang_System_arraycopy__Ljava_lang_Object_ILjava_lang_Object_II_V) (C.2.2.1 _ mS_java_lang_System_arraycopy__Ljava_lang_Object_ILjava_lang_Object_II_V) (C.2.2.1 _ mN_J10) C.2.2.2.2 hP hD hS q0 q1 0 0 ha0 ha1 rfl rfl rfl (by decide) (by decide) hz (by rw [h0, hc]; omega) (by rw [h0, hc]; omega) (fun _ _ => rfl) hfr hlo hdg (fun H1 locs1 hP1 _ hS1 => kk H1 locs1 ?_ hS1)
  rw [← hw]
  have e1 : va_cpy (fun (k : Nat) => iI (r0 (k : Int))) (fun (k : Nat) => iI (r1 (k : Int))) (iI 0).toNatClampNeg (iI 0).toNatClampNeg (iI (n : Int)).toNatClampNeg = fun (k : Nat) => iI (gcpy n r0 r1 (k : Int)) := by
    funext j
    rw [h0, hc]
    unfold va_cpy gcpy
    by_cases hj : j < n
    · rw [if_pos (by omega), if_pos (by omega), Nat.zero_add, Nat.sub_zero]
    · rw [if_neg (by omega), if_neg (by omega)]
  rw [e1] at hP1
  exact hP1
end G3
set_option maxHeartbeats 4000000 in
/-- Arrays.fill(int[], int) -/
theorem c_fillI (l : Launch) (D : va_G) (k : Nat → ClassId) (A : Nat → Prop) (Wd : gWt) (a q j n : Nat) (hq : ∀ v f g, (Wd.1 v f g)[q]? = some (a, rI (k 0) n (f j))) (hs : ∀ v f g r, (Wd.1 v f g).set q (a, rI (k 0) n r) = Wd.1 v (va_up f j r) g) (hDw : ∀ v f g, va_D A (Wd.1 v f g)) (hn : n ≤ 1000000) (v : gV) (f g : gF) (x : Int) (h_x : inR x) (h_r : rng (Wd.2.2 j) x) : GM l D k A Wd yJ7_fill_53178 cJ7_fill_53178 4 none 0 0 [.ref a, .int (iI x)] v f g (fun r v1 f1 g1 => r = none ∧ v = v1 ∧ va_up f j (gfill (f j) n x) = f1 ∧ g = g1) := by
  refine GM.of (by decide) (Nat.le_of_ble_eq_true rfl) ?_
  intro p e s m args below meth c Q ls hQ C hml hr hlocks hP hl
  have hx := C.1
  have hb := C.2.1
  have hok := hP.2
  have hS : va_S A s.heap s.heap [] := va_S.rf
  have hl : lv_has ls 4 [(0, .ref a), (1, .int (iI x))] := hl
  refine lv_iconst (v := iI 0) hx hb dJ7_fill_53178_0 rfl ?_
  refine lv_istore_n (lv' := [(2, .int (iI 0)), (0, .ref a), (1, .int (iI x))]) hx hb dJ7_fill_53178_1 rfl hl (by decide) rfl (fun ls hl => ?_)
  refine lv_aload_n hx hb dJ7_fill_53178_2 rfl (lv_at hl 1 rfl) ?_
  refine va_alen (D := D) C.1 C.2.1 C.2.2.2.2 hP.1 q 0 (hq v f g) rfl (v := iI (n : Int)) (iI_nat n) dJ7_fill_53178_3 ?_
  refine lv_istore_n (lv' := [(3, .int (iI (n : Int))), (2, .int (iI 0)), (0, .ref a), (1, .int (iI x))]) hx hb dJ7_fill_53178_4 rfl hl (by decide) rfl (fun ls hl => ?_)
  have L_1 : ∀ (t : Nat) (i : Int) (H : Heap) (locs : List Loc) (ls : Array Slot), (n : Int) - i < (t : Int) → 0 ≤ i → i ≤ n → gWd D Wd v (va_up f j (gfill (f j) i x)) g H → va_S A s.heap H locs → lv_has ls 4 [(0, .ref a), (1, .int (iI x)), (2, .int (iI i)), (3, .int (iI (n : Int)))] → W p l e (gRm 0 0) s m args below meth c H locs 0 0 Q (F0 m 5 ls []) := by
    intro t
    induction t with
    | zero =>
      intro i H locs ls h1 h2 h3 hP hS hl
      exfalso; omega
    | succ t ih =>
      intro i H locs ls h1 h2 h3 hP hS hl
      refine lv_iload_n hx hb dJ7_fill_53178_5 rfl (lv_at hl 2 rfl) ?_
      refine lv_iload_n hx hb dJ7_fill_53178_6 rfl (lv_at hl 3 rfl) ?_
      refine gi_cge (tgt := 20) hx hb dJ7_fill_53178_7 (by decide) (by omega) (by omega) (fun c_1 => ?_) (fun c_1 => ?_)
      · have e1 : i = n := by omega
        subst e1
        exact g_vret hQ C hr hlocks hP hS dJ7_fill_53178_20 ⟨rfl, rfl, rfl, rfl⟩
      · refine lv_aload_n hx hb dJ7_fill_53178_10 rfl (lv_at hl 0 rfl) ?_
        refine lv_iload_n hx hb dJ7_fill_53178_11 rfl (lv_at hl 2 rfl) ?_
        refine lv_iload_n hx hb dJ7_fill_53178_12 rfl (lv_at hl 1 rfl) ?_
        have hq1 := hq v (va_up f j (gfill (f j) i x)) g
        rw [va_up_self] at hq1
        refine g_iast (ws' := Wd.1 v (va_up f j (gfill (f j) (i + 1) x)) g) C hP.1 (hDw _ _ _) hS q hq1 (by omega) h2 c_1 ?_ dJ7_fill_53178_13 (fun H locs hP1 hS => ?_)
        · rw [hs, bx_uu, gfill_s _ _ h2]
        · refine lv_iinc (v := iI (i + 1)) (lv' := [(2, .int (iI (i + 1))), (0, .ref a), (1, .int (iI x)), (3, .int (iI (n : Int)))]) hx hb dJ7_fill_53178_14 hl (k := 2) rfl (by show iI _ + iI 1 = _; rw [iI_add]) (by decide) rfl (fun ls hl => ?_)
          refine lv_goto (tgt := 5) hx hb dJ7_fill_53178_17 (by decide) ?_
          exact ih (i + 1) _ _ _ (by omega) (by omega) (by omega) ⟨hP1, gF_up hok j (gfill_rng (hok.2 j) h_r)⟩ hS (lv_sub hl [1, 2, 0, 3] rfl)
  refine L_1 (n + 1) 0 _ _ _ (by omega) (by omega) (by omega) ?_ hS (lv_sub hl [2, 3, 1, 0] rfl)
  rw [gfill_0]
  have e1 : va_up f j (f j) = f := by
    funext j2
    unfold va_up
    by_cases h : j2 = j
    · rw [if_pos h, h]
    · rw [if_neg h]
  rw [e1]
  exact hP
set_option maxHeartbeats 4000000 in
/-- Arrays.fill(long[], long) -/
theorem c_fillL (l : Launch) (D : va_G) (k : Nat → ClassId) (A : Nat → Prop) (Wd : gWt) (a q j n : Nat) (hq : ∀ v f g, (Wd.1 v f g)[q]? = some (a, rL (k 1) n (g j))) (hs : ∀ v f g r, (Wd.1 v f g).set q (a, rL (k 1) n r) = Wd.1 v f (va_up g j r)) (hDw : ∀ v f g, va_D A (Wd.1 v f g)) (hn : n ≤ 1000000) (v : gV) (f g : gF) (x : Int) : GM l D k A Wd yJ7_fill_d0a16 cJ7_fill_d0a16 5 none 0 0 [.ref a, .long (iL x)] v f g (fun r v1 f1 g1 => r = none ∧ v = v1 ∧ f = f1 ∧ va_up g j (gfill (g j) n x) = g1) := by
  refine GM.of (by decide) (Nat.le_of_ble_eq_true rfl) ?_
  intro p e s m args below meth c Q ls hQ C hml hr hlocks hP hl
  have hx := C.1
  have hb := C.2.1
  have hok := hP.2
  have hS : va_S A s.heap s.heap [] := va_S.rf
  have hl : lv_has ls 5 [(0, .ref a), (1, .long (iL x))] := hl
  refine lv_iconst (v := iI 0) hx hb dJ7_fill_d0a16_0 rfl ?_
  refine lv_istore_n (lv' := [(3, .int (iI 0)), (0, .ref a), (1, .long (iL x))]) hx hb dJ7_fill_d0a16_1 rfl hl (by decide) rfl (fun ls hl => ?_)
  refine lv_aload_n hx hb dJ7_fill_d0a16_2 rfl (lv_at hl 1 rfl) ?_
  refine va_alen (D := D) C.1 C.2.1 C.2.2.2.2 hP.1 q 1 (hq v f g) rfl (v := iI (n : Int)) (iI_nat n) dJ7_fill_d0a16_3 ?_
  refine lv_istore (lv' := [(4, .int (iI (n : Int))), (3, .int (iI 0)), (0, .ref a), (1, .long (iL x))]) hx hb dJ7_fill_d0a16_4 hl (by decide) rfl (fun ls hl => ?_)
  have L_1 : ∀ (t : Nat) (i : Int) (H : Heap) (locs : List Loc) (ls : Array Slot), (n : Int) - i < (t : Int) → 0 ≤ i → i ≤ n → gWd D Wd v f (va_up g j (gfill (g j) i x)) H → va_S A s.heap H locs → lv_has ls 5 [(0, .ref a), (1, .long (iL x)), (3, .int (iI i)), (4, .int (iI (n : Int)))] → W p l e (gRm 0 0) s m args below meth c H locs 0 0 Q (F0 m 6 ls []) := by
    intro t
    induction t with
    | zero =>
      intro i H locs ls h1 h2 h3 hP hS hl
      exfalso; omega
    | succ t ih =>
      intro i H locs ls h1 h2 h3 hP hS hl
      refine lv_iload_n hx hb dJ7_fill_d0a16_6 rfl (lv_at hl 2 rfl) ?_
      refine lv_iload hx hb dJ7_fill_d0a16_7 (lv_at hl 3 rfl) ?_
      refine gi_cge (tgt := 22) hx hb dJ7_fill_d0a16_9 (by decide) (by omega) (by omega) (fun c_1 => ?_) (fun c_1 => ?_)
      · have e1 : i = n := by omega
        subst e1
        exact g_vret hQ C hr hlocks hP hS dJ7_fill_d0a16_22 ⟨rfl, rfl, rfl, rfl⟩
      · refine lv_aload_n hx hb dJ7_fill_d0a16_12 rfl (lv_at hl 0 rfl) ?_
        refine lv_iload_n hx hb dJ7_fill_d0a16_13 rfl (lv_at hl 2 rfl) ?_
        refine lv_lload_n hx hb dJ7_fill_d0a16_14 rfl (lv_at hl 1 rfl) ?_
        have hq1 := hq v f (va_up g j (gfill (g j) i x))
        rw [va_up_self] at hq1
        refine g_last (ws' := Wd.1 v f (va_up g j (gfill (g j) (i + 1) x))) C hP.1 (hDw _ _ _) hS q hq1 (by omega) h2 c_1 ?_ dJ7_fill_d0a16_15 (fun H locs hP1 hS => ?_)
        · rw [hs, bx_uu, gfill_s _ _ h2]
        · refine lv_iinc (v := iI (i + 1)) (lv' := [(3, .int (iI (i + 1))), (0, .ref a), (1, .long (iL x)), (4, .int (iI (n : Int)))]) hx hb dJ7_fill_d0a16_16 hl (k := 2) rfl (by show iI _ + iI 1 = _; rw [iI_add]) (by decide) rfl (fun ls hl => ?_)
          refine lv_goto (tgt := 6) hx hb dJ7_fill_d0a16_19 (by decide) ?_
          exact ih (i + 1) _ _ _ (by omega) (by omega) (by omega) ⟨hP1, hok⟩ hS (lv_sub hl [1, 2, 0, 3] rfl)
  refine L_1 (n + 1) 0 _ _ _ (by omega) (by omega) (by omega) ?_ hS (lv_sub hl [2, 3, 1, 0] rfl)
  rw [gfill_0]
  have e1 : va_up g j (g j) = g := by
    funext j2
    unfold va_up
    by_cases h : j2 = j
    · rw [if_pos h, h]
    · rw [if_neg h]
  rw [e1]
  exact hP
end

section
/-! constructors: what a new object is -/
def gNest (U : State) : Prop := va_Nw (.methodLinkNest RX10 15 yX4_init RX10) U ∧ va_Nw (.methodLinkNest RX10 22 yX3_init RX10) U ∧ va_Nw (.methodLinkNest RX3 11 yX6_init RX10) U ∧ va_Nw (.methodLinkNest RX3 20 yX4_init RX10) U ∧ va_Nw (.methodLinkNest RX3 27 yX1_init RX10) U ∧ va_Nw (.methodLinkNest RX10 29 yX8_init RX10) U ∧ va_Nw (.methodLinkNest RX10 36 yX2_init RX10) U ∧ va_Nw (.methodLinkNest RX10 43 yX7_init RX10) U ∧ va_Nw (.methodLinkNest RX10 50 yX0_init RX10) U ∧ va_Nw (.methodLinkNest RX10 57 yX9_init RX10) U
theorem gNest.same {u U : State} (h : u.vm = U.vm) (q : gNest u) : gNest U := ⟨(q.1).same rfl h, (q.2.1).same rfl h, (q.2.2.1).same rfl h, (q.2.2.2.1).same rfl h, (q.2.2.2.2.1).same rfl h, (q.2.2.2.2.2.1).same rfl h, (q.2.2.2.2.2.2.1).same rfl h, (q.2.2.2.2.2.2.2.1).same rfl h, (q.2.2.2.2.2.2.2.2.1).same rfl h, (q.2.2.2.2.2.2.2.2.2).same rfl h⟩
theorem gNest.warm {s U : State} (hW : s.WarmedH U.vm) (q : gNest s) : gNest U := ⟨va_Nw.warmM hW (q.1), va_Nw.warmM hW (q.2.1), va_Nw.warmM hW (q.2.2.1), va_Nw.warmM hW (q.2.2.2.1), va_Nw.warmM hW (q.2.2.2.2.1), va_Nw.warmM hW (q.2.2.2.2.2.1), va_Nw.warmM hW (q.2.2.2.2.2.2.1), va_Nw.warmM hW (q.2.2.2.2.2.2.2.1), va_Nw.warmM hW (q.2.2.2.2.2.2.2.2.1), va_Nw.warmM hW (q.2.2.2.2.2.2.2.2.2)⟩
theorem gN_X10_15 {U : State} (q : gNest U) : va_Nw (.methodLinkNest RX10 15 yX4_init RX10) U := q.1
theorem gN_X10_22 {U : State} (q : gNest U) : va_Nw (.methodLinkNest RX10 22 yX3_init RX10) U := q.2.1
theorem gN_X3_11 {U : State} (q : gNest U) : va_Nw (.methodLinkNest RX3 11 yX6_init RX10) U := q.2.2.1
theorem gN_X3_20 {U : State} (q : gNest U) : va_Nw (.methodLinkNest RX3 20 yX4_init RX10) U := q.2.2.2.1
theorem gN_X3_27 {U : State} (q : gNest U) : va_Nw (.methodLinkNest RX3 27 yX1_init RX10) U := q.2.2.2.2.1
theorem gN_X10_29 {U : State} (q : gNest U) : va_Nw (.methodLinkNest RX10 29 yX8_init RX10) U := q.2.2.2.2.2.1
theorem gN_X10_36 {U : State} (q : gNest U) : va_Nw (.methodLinkNest RX10 36 yX2_init RX10) U := q.2.2.2.2.2.2.1
theorem gN_X10_43 {U : State} (q : gNest U) : va_Nw (.methodLinkNest RX10 43 yX7_init RX10) U := q.2.2.2.2.2.2.2.1
theorem gN_X10_50 {U : State} (q : gNest U) : va_Nw (.methodLinkNest RX10 50 yX0_init RX10) U := q.2.2.2.2.2.2.2.2.1
theorem gN_X10_57 {U : State} (q : gNest U) : va_Nw (.methodLinkNest RX10 57 yX9_init RX10) U := q.2.2.2.2.2.2.2.2.2
def gIPre (D : va_G) (k : Nat → ClassId) (w0 : va_W) (sz : Nat) (av : List Value) : Array Value → State → Prop := va_Pc av (fun U => U.heap.size = sz ∧ va_P D vwCl w0 U.heap ∧ va_K D vwCl (gT k) U ∧ va_D (fun _ => True) w0 ∧ gNest U)
theorem gIPre_blind {D : va_G} {k : Nat → ClassId} {w0 : va_W} {sz : Nat} {av : List Value} : FrameBlind (gIPre D k w0 sz av) := fun a U gg mk q => by
  obtain ⟨q0, q1, q2, q3, q4, q5⟩ := q
  exact ⟨q0, q1, q2, va_K.moved (u := U) (U := U.calling gg mk a) (Vm.Alike.refl U.vm) q3, q4, gNest.same rfl q5⟩
def gIPost (D : va_G) (w0 : va_W) (sz : Nat) (Wn : (Nat → Nat) → va_W) : Array Value → State → Outcome → State → Prop := fun _ st oc t => (∃ u : Nat → Nat, oc = .returned none ∧ va_P D vwCl (Wn u) t.heap ∧ va_D (va_A w0 sz) (Wn u)) ∧ va_F (va_A w0 sz) st t
abbrev gRi (fr lo mc ms : Nat) : Room := { frames := fr, cells := mc, slots := ms, locals := lo }
def GI (l : Launch) (D : va_G) (k : Nat → ClassId) (y : MethodName) (cc : ByteArray) (maxL fr lo mc ms : Nat) (av : List Value) (w0 : va_W) (sz : Nat) (Wn : (Nat → Nat) → va_W) : Prop :=
  Met l y (Cond.code y cc maxL none :: gWs) (gRi fr lo mc ms) (gIPre D k w0 sz av) (gIPost D w0 sz Wn) mc ms (va_A w0 sz)
section GIs
variable {l : Launch} {D : va_G} {k : Nat → ClassId} {y : MethodName} {cc : ByteArray} {maxL fr lo mc ms sz : Nat} {av : List Value} {w0 : va_W} {Wn : (Nat → Nat) → va_W}
theorem GI.of (hy : plainName y.cls = true) (hn : (lg_sl av).length ≤ maxL) (hy2 : y.name = "<init>")
    (body : ∀ (p : Program) (e : Env) (s : State) (m : MethodId) (args : Array Value) (below : List Frame) (meth : Method) (c : Code) (Q : State → Prop) (ls : Array Slot) (A : Nat → Prop), A = va_A w0 sz → Q = MQ below (gIPost D w0 sz Wn) args s mc ms A → gC D k p s m args c cc y.cls → c.maxLocals = maxL → meth.sig.returnType = none → meth.locks = false → meth.name = "<init>" → gNest s → va_P D vwCl w0 s.heap → va_D A w0 → (∀ q : Nat, s.heap.size ≤ q → A q) → lv_has ls maxL (lv_args 0 av) →
      W p l e (gRi fr lo mc ms) s m args below meth c s.heap [] 0 0 Q (F0 m 0 ls [])) : GI l D k y cc maxL fr lo mc ms av w0 sz Wn := by
  refine Met.ofW (cc := cc) (maxL := maxL) (ret := none) hy rfl ?_
  intro p e s m args below meth c s₁ B hml hv
  obtain ⟨rfl, hsz, hP, hK, hD, hN⟩ := hv
  have hts := atoms_spec (ws := Cond.code y cc maxL none :: gWs) B.pre
  have hl := lv_entry av hn
  rw [lg_entry_eq]
  exact body p e s m _ below meth c _ _ _ rfl rfl ⟨B.exec, B.bytes, fun w h => hts w (List.mem_cons_of_mem _ h), findClass_of_methodNamed B.named, hK⟩ hml B.returns B.notSynchronized ((name_of_methodNamed B.named B.method).1.trans hy2) hN hP hD.self (fun q h => Or.inr (by rw [← hsz]; exact h)) hl
variable {p : Program} {e : Env} {R : Room} {s : State} {m : MethodId} {args : Array Value} {below : List Frame} {meth : Method} {c : Code} {H H0 : Heap} {locs : List Loc} {cells slots : Nat} {Q : State → Prop}
variable {pc nL n idx : Nat} {ls : Array Slot} {rest st0 As : List Value} {own host : String} {A : Nat → Prop} {c1 : ByteArray} {b : Nat} {e0 : va_E} {ws wr : va_W}
theorem g_iend {u : Nat → Nat} (hA : A = va_A w0 sz) (hQ : Q = MQ below (gIPost D w0 sz Wn) args s mc ms A) (C : gC D k p s m args c cc own) (hr : meth.sig.returnType = none) (hlocks : meth.locks = false) (hP : va_P D vwCl (Wn u) H) (hD : va_D A (Wn u)) (hS : va_S A s.heap H locs) (hdg : decode cc pc = .ok (.return_, 1)) : W p l e R s m args below meth c H locs mc ms Q (F0 m pc ls []) := by
  subst hQ; subst hA
  exact W.vret C.1 C.2.1 hr (fun t ht _ => ⟨⟨u, rfl, by rw [ht]; exact hP, hD⟩, hS.F ht⟩) hS.2.2 hdg hlocks
theorem g_cret {a : Array Value} (hr : va_Run p l e R s m args below meth c H locs cells slots mc ms (F0 m pc ls st0) rest (gIPost D [(b, e0)] H.size Wn a) (va_A [(b, e0)] H.size)) (hP : va_P D vwCl ws H) (hD : va_D A ws) (hS : va_S A H0 H locs) (hA : ∀ q : Nat, H0.size ≤ q → A q) (q0 : Nat) (isR : List Nat) (hC : [q0].map (fun i => ws[i]?) = [(b, e0)].map some) (hR : isR.map (fun i => ws[i]?) = wr.map some) (hn1 : va_nd isR = true) (hdis : ∀ i ∈ isR, i ∉ [q0])
    (kk : ∀ (u : Nat → Nat) (H1 : Heap) (locs1 : List Loc), va_P D vwCl (wr ++ Wn u) H1 → va_D A (wr ++ Wn u) → va_S A H0 H1 locs1 → W p l e R s m args below meth c H1 locs1 (cells + mc) (slots + ms) Q (F0 m (pc + 3) ls rest)) : W p l e R s m args below meth c H locs cells slots Q (F0 m pc ls st0) := by
  have hF := va_free (wc := [(b, e0)]) hD hS hA [q0] hC
  refine va_callv (post := fun _ : Nat → Nat => True) (B := fun u t => va_P D vwCl (Wn u) t.heap ∧ va_D (va_A [(b, e0)] H.size) (Wn u)) (A1 := va_A [(b, e0)] H.size) (mc := mc) (ms := ms) (a := a) (rest := rest) ?_ hS (fun q _ h => hF q h) hF (fun u t H1 locs1 ht _ _ hB _ hk1 hS1 => ?_)
  · intro T hT X
    obtain ⟨v, st₀, t, T', L, h0, X', hL, e1, e2, ⟨⟨u, hv, hp, hb⟩, hf⟩, st⟩ := hr T hT X
    exact ⟨v, st₀, t, T', L, h0, X', hL, e1, e2, ⟨⟨u, hv, trivial, hp, hb⟩, hf⟩, st⟩
  · obtain ⟨hP1, hD1⟩ := hB
    rw [ht] at hP1
    obtain ⟨hP2, hD2⟩ := va_join (wr := wr) (w1 := Wn u) hP hD [q0] isR hC hR hn1 hdis hk1 hF hP1 hD1
    exact kk u H1 locs1 hP2 hD2 hS1
/-- a constructor of a nest mate -/
theorem g_cin (C : gC D k p s m args c c1 own) (hml : c.maxLocals = nL) (hM : ∀ sz, GI l D k y cc maxL fr lo mc ms [.ref b] [(b, e0)] sz Wn) (hl : va_Nw (.methodLinkNest own idx y host) s) (m2 : Cond.instanceMethod y ∈ gWs) (m4 : Cond.initialized y.cls ∈ gWs) (m5 : Cond.code y cc maxL none ∈ gWs)
    (hd : y.cls ≠ "java/lang/invoke/MethodHandle" ∧ y.cls ≠ "java/lang/invoke/VarHandle" ∧ (parseMethodDescriptor y.desc).map (fun d => d.parameters.length) = some 0) (hy : y.name = "<init>") (hN : gNest s)
    (hP : va_P D vwCl ws H) (hD : va_D A ws) (hS : va_S A H0 H locs) (hA : ∀ q : Nat, H0.size ≤ q → A q) (q0 : Nat) (isR : List Nat) (hC : [q0].map (fun i => ws[i]?) = [(b, e0)].map some) (hR : isR.map (fun i => ws[i]?) = wr.map some) (hn1 : va_nd isR = true) (hdis : ∀ i ∈ isR, i ∉ [q0])
    (hRm : fr + 1 ≤ R.frames ∧ 8 + (maxL + 11) + lo ≤ R.locals) (hcs : cells + mc ≤ R.cells ∧ slots + ms ≤ R.slots) (hsz : ls.size = nL) (hW : (rest.map fun v => v.category).sum ≤ 8) (hdg : decode c1 pc = .ok (.invokespecial idx, 3))
    (kk : ∀ (u : Nat → Nat) (H1 : Heap) (locs1 : List Loc), va_P D vwCl (wr ++ Wn u) H1 → va_D A (wr ++ Wn u) → va_S A H0 H1 locs1 → W p l e R s m args below meth c H1 locs1 (cells + mc) (slots + ms) Q (F0 m (pc + 3) ls rest)) : W p l e R s m args below meth c H locs cells slots Q (F0 m pc ls (.ref b :: rest)) := by
  have hPc : va_P D vwCl [(b, e0)] H := fun i q hq => by
    match i, hq with
    | 0, hq =>
      cases hq
      have := congrArg (fun l => l[0]?) hC
      simp at this
      exact hP q0 _ this
    | i + 1, hq => simp at hq
  have hDc : va_D (fun _ => True) [(b, e0)] := ⟨fun i j x y hi hj _ => by
    match i, j, hi, hj with
    | 0, 0, _, _ => rfl
    | i + 1, _, hi, _ => simp at hi
    | _, j + 1, _, hj => simp at hj, fun _ _ _ => trivial⟩
  refine g_cret (va_runIN (As := []) (rest := rest) (n := 0) ⟨C.1, C.2.1, hml, C.2.2.2.1, C.2.2.1⟩ (hM H.size) ⟨va_cnB 0 C.2.2.1 (gWs_GoodIn m5) rfl rfl rfl hl (C.2.2.1 _ m4) hd hRm, hy, C.2.2.1 _ m2⟩ ⟨gIPre_blind, fun U hU hW => ⟨rfl, by rw [hU], by rw [hU]; exact hPc, va_K.moved hW.alike C.2.2.2.2, hDc, gNest.warm hW hN⟩⟩ rfl rfl hsz rfl (lv_room hW) hdg hcs) hP hD hS hA q0 isR hC hR hn1 hdis kk
/-- any other constructor -/
theorem g_cio (C : gC D k p s m args c c1 own) (hml : c.maxLocals = nL) (hM : ∀ sz, GI l D k y cc maxL fr lo mc ms (.ref b :: As) [(b, e0)] sz Wn) (m1 : Cond.methodLink own idx y ∈ gWs) (m2 : Cond.instanceMethod y ∈ gWs) (m4 : Cond.initialized y.cls ∈ gWs) (m5 : Cond.code y cc maxL none ∈ gWs)
    (hd : y.cls ≠ "java/lang/invoke/MethodHandle" ∧ y.cls ≠ "java/lang/invoke/VarHandle" ∧ (parseMethodDescriptor y.desc).map (fun d => d.parameters.length) = some n) (hy : y.name = "<init>") (hN : gNest s)
    (hP : va_P D vwCl ws H) (hD : va_D A ws) (hS : va_S A H0 H locs) (hA : ∀ q : Nat, H0.size ≤ q → A q) (q0 : Nat) (isR : List Nat) (hC : [q0].map (fun i => ws[i]?) = [(b, e0)].map some) (hR : isR.map (fun i => ws[i]?) = wr.map some) (hn1 : va_nd isR = true) (hdis : ∀ i ∈ isR, i ∉ [q0])
    (hRm : fr + 1 ≤ R.frames ∧ 8 + (maxL + 11) + lo ≤ R.locals) (hcs : cells + mc ≤ R.cells ∧ slots + ms ≤ R.slots) (hsz : ls.size = nL) (hn : As.length = n) (hst : st0 = As.reverse ++ .ref b :: rest) (hW : (rest.map fun v => v.category).sum ≤ 8) (hdg : decode c1 pc = .ok (.invokespecial idx, 3))
    (kk : ∀ (u : Nat → Nat) (H1 : Heap) (locs1 : List Loc), va_P D vwCl (wr ++ Wn u) H1 → va_D A (wr ++ Wn u) → va_S A H0 H1 locs1 → W p l e R s m args below meth c H1 locs1 (cells + mc) (slots + ms) Q (F0 m (pc + 3) ls rest)) : W p l e R s m args below meth c H locs cells slots Q (F0 m pc ls st0) := by
  have hPc : va_P D vwCl [(b, e0)] H := fun i q hq => by
    match i, hq with
    | 0, hq =>
      cases hq
      have := congrArg (fun l => l[0]?) hC
      simp at this
      exact hP q0 _ this
    | i + 1, hq => simp at hq
  have hDc : va_D (fun _ => True) [(b, e0)] := ⟨fun i j x y hi hj _ => by
    match i, j, hi, hj with
    | 0, 0, _, _ => rfl
    | i + 1, _, hi, _ => simp at hi
    | _, j + 1, _, hj => simp at hj, fun _ _ _ => trivial⟩
  refine g_cret (va_runI (As := As) (rest := rest) (n := n) ⟨C.1, C.2.1, hml, C.2.2.2.1, C.2.2.1⟩ (hM H.size) (cwI n C.2.2.1 (gWs_GoodIn m5) rfl rfl rfl (C.2.2.1 _ m4) (C.2.2.1 _ m1) (C.2.2.1 _ m2) hy hd hRm) ⟨gIPre_blind, fun U hU hW => ⟨rfl, by rw [hU], by rw [hU]; exact hPc, va_K.moved hW.alike C.2.2.2.2, hDc, gNest.warm hW hN⟩⟩ rfl hn hsz hst (lv_room hW) hdg hcs) hP hD hS hA q0 isR hC hR hn1 hdis kk
end GIs
theorem va_D_fst {A : Nat → Prop} {ws ws' : va_W} (h : ws.map (fun q => q.1) = ws'.map (fun q => q.1)) (hD : va_D A ws) : va_D A ws' := by
  have key : ∀ (i : Nat) (q : Nat × va_E), ws'[i]? = some q → ∃ q0, ws[i]? = some q0 ∧ q0.1 = q.1 := by
    intro i q hq
    have h1 := congrArg (fun l => l[i]?) h
    simp only [List.getElem?_map, hq] at h1
    cases hw : ws[i]? with
    | none => rw [hw] at h1; cases h1
    | some q0 => rw [hw] at h1; exact ⟨q0, rfl, Option.some.inj h1⟩
  refine ⟨fun i j x y hi hj hxy => ?_, fun i q hq => ?_⟩
  · obtain ⟨x0, h1, h2⟩ := key i x hi
    obtain ⟨y0, h3, h4⟩ := key j y hj
    exact hD.1 i j x0 y0 h1 h3 (h2.trans (hxy.trans h4.symm))
  · obtain ⟨q0, h1, h2⟩ := key i q hq
    rw [← h2]
    exact hD.2 i q0 h1
end

section
theorem mS_math_max : Cond.static Lib.Math.max.name ∈ gWs := mS_J9_max_7cf53
theorem mC_math_max : Cond.code Lib.Math.max.name Lib.Math.max.code 2 (some .int) ∈ gWs := mC_J9_max_7cf53
theorem mS_math_min : Cond.static Lib.Math.min.name ∈ gWs := mS_J9_min_7cf53
theorem mC_math_min : Cond.code Lib.Math.min.name Lib.Math.min.code 2 (some .int) ∈ gWs := mC_J9_min_7cf53
theorem mS_math_maxl : Cond.static Lib.MathLoose.max_long.x ∈ gWs := mS_J9_max_f86c9
theorem mC_math_maxl : Cond.code Lib.MathLoose.max_long.x Lib.MathLoose.max_long.code 4 (some .long) ∈ gWs := mC_J9_max_f86c9
theorem mS_math_minl : Cond.static Lib.MathLoose.min_long.x ∈ gWs := mS_J9_min_f86c9
theorem mC_math_minl : Cond.code Lib.MathLoose.min_long.x Lib.MathLoose.min_long.code 4 (some .long) ∈ gWs := mC_J9_min_f86c9
/-- a low mask -/
theorem gAnd (a : Int) (m : Int) (k : Nat) (hm : (iI m).toBitVec.toNat = 2 ^ k - 1) (hk : k ≤ 30) : ∃ z : Int, iI a &&& iI m = iI z ∧ 0 ≤ z ∧ z ≤ 2 ^ k - 1 := by
  obtain ⟨j, hj, ej⟩ := pk_andE (iI a) (m := iI m) k hm
  refine ⟨(j : Int), ej.trans (iI_nat j), by omega, ?_⟩
  have h2 : ((2 ^ k : Nat) : Int) = (2 : Int) ^ k := by norm_cast
  omega
theorem gB8r {a z : Int} (h : (iI a).toInt8.toInt32 = iI z) (hz : inR z := by omega) : -128 ≤ z ∧ z ≤ 127 := by
  have h1 := congrArg Int32.toInt h
  rw [iI_toInt hz] at h1
  have h2 := (iI a).toInt8.le_toInt
  have h3 := (iI a).toInt8.toInt_lt
  rw [Int8.toInt_toInt32] at h1
  omega
section GL
variable {p : Program} {l : Launch} {e : Env} {R : Room} {s : State} {m : MethodId} {args : Array Value} {below : List Frame} {meth : Method} {c : Code} {H : Heap} {locs : List Loc} {cells slots : Nat} {Q : State → Prop}
variable {cc : ByteArray} {pc nL idx : Nat} {ls : Array Slot} {rest : List Value} {a b z : Int} {own : String} {D : va_G} {k : Nat → ClassId}
theorem gl_add (hx : p.tables.exec = Jvm.exec) (hb : c.code = cc) (hdg : decode cc pc = .ok (.ladd, 1)) (hz : a + b = z) (k : W p l e R s m args below meth c H locs cells slots Q (F0 m (pc + 1) ls (.long (iL z) :: rest))) : W p l e R s m args below meth c H locs cells slots Q (F0 m pc ls (.long (iL b) :: .long (iL a) :: rest)) := by
  refine lv_ladd hx hb hdg ?_
  rw [show iL a + iL b = iL z from by rw [← hz]; exact (Int64.ofInt_add a b).symm]; exact k
theorem gl_sub (hx : p.tables.exec = Jvm.exec) (hb : c.code = cc) (hdg : decode cc pc = .ok (.lsub, 1)) (hz : a - b = z) (k : W p l e R s m args below meth c H locs cells slots Q (F0 m (pc + 1) ls (.long (iL z) :: rest))) : W p l e R s m args below meth c H locs cells slots Q (F0 m pc ls (.long (iL b) :: .long (iL a) :: rest)) := by
  refine lv_lsub hx hb hdg ?_
  rw [show iL a - iL b = iL z from by rw [← hz]; exact (Int64.ofInt_sub a b).symm]; exact k
theorem gl_mul (hx : p.tables.exec = Jvm.exec) (hb : c.code = cc) (hdg : decode cc pc = .ok (.lmul, 1)) (hz : a * b = z) (k : W p l e R s m args below meth c H locs cells slots Q (F0 m (pc + 1) ls (.long (iL z) :: rest))) : W p l e R s m args below meth c H locs cells slots Q (F0 m pc ls (.long (iL b) :: .long (iL a) :: rest)) := by
  refine lv_lmul hx hb hdg ?_
  rw [show iL a * iL b = iL z from by rw [← hz]; exact (Int64.ofInt_mul a b).symm]; exact k
theorem gl_neg (hx : p.tables.exec = Jvm.exec) (hb : c.code = cc) (hdg : decode cc pc = .ok (.lneg, 1)) (hz : -a = z) (k : W p l e R s m args below meth c H locs cells slots Q (F0 m (pc + 1) ls (.long (iL z) :: rest))) : W p l e R s m args below meth c H locs cells slots Q (F0 m pc ls (.long (iL a) :: rest)) := by
  refine lv_lneg hx hb hdg ?_
  rw [show -iL a = iL z from by rw [← hz]; exact (Int64.ofInt_neg a).symm]; exact k
theorem lg_cmp_rng (x y : Int64) : (lg_cmp x y).toInt = -1 ∨ (lg_cmp x y).toInt = 0 ∨ (lg_cmp x y).toInt = 1 := by
  unfold lg_cmp
  split
  · exact Or.inr (Or.inr rfl)
  · split
    · exact Or.inr (Or.inl rfl)
    · exact Or.inl rfl
theorem gl_cmp (hx : p.tables.exec = Jvm.exec) (hb : c.code = cc) (hdg : decode cc pc = .ok (.lcmp, 1)) (k : ∀ z : Int, -1 ≤ z ∧ z ≤ 1 → W p l e R s m args below meth c H locs cells slots Q (F0 m (pc + 1) ls (.int (iI z) :: rest))) : W p l e R s m args below meth c H locs cells slots Q (F0 m pc ls (.long (iL b) :: .long (iL a) :: rest)) := by
  refine W.lcmp hx hb hdg ?_
  rw [← iI_of (lg_cmp (iL a) (iL b))]
  exact k _ (by rcases lg_cmp_rng (iL a) (iL b) with h | h | h <;> rw [h] <;> decide)
theorem gl_l2i (hx : p.tables.exec = Jvm.exec) (hb : c.code = cc) (hdg : decode cc pc = .ok (.l2i, 1)) (k : ∀ z : Int, (iL a).toInt32 = iI z → inR z → W p l e R s m args below meth c H locs cells slots Q (F0 m (pc + 1) ls (.int (iI z) :: rest))) : W p l e R s m args below meth c H locs cells slots Q (F0 m pc ls (.long (iL a) :: rest)) := by
  refine lv_l2i (v := iI ((iL a).toInt32).toInt) hx hb hdg (iI_of _).symm ?_
  exact k _ (iI_of _).symm (iI_rng _)
theorem gi_max (C : gC D k p s m args c cc own) (hml : c.maxLocals = nL) (hsz : ls.size = nL) (hm : Cond.methodLink own idx Lib.Math.max.name ∈ gWs) (ha : inR a) (hb2 : inR b) (hfr : 1 ≤ R.frames) (hlo : (rest.map fun v => v.category).sum + 13 ≤ R.locals) (hdg : decode cc pc = .ok (.invokestatic idx, 3)) (kk : ∀ z : Int, (z = a ∨ z = b) ∧ a ≤ z ∧ b ≤ z → W p l e R s m args below meth c H locs 0 0 Q (F0 m (pc + 3) ls (.int (iI z) :: rest))) : W p l e R s m args below meth c H locs 0 0 Q (F0 m pc ls (.int (iI b) :: .int (iI a) :: rest)) := by
  refine va_mmax C.1 C.2.1 (hml.trans hsz.symm) C.2.2.2.1 (C.2.2.1 _ hm) (C.2.2.1 _ mS_math_max) (C.2.2.1 _ mN_J9) (C.2.2.1 _ mC_math_max) hfr hlo (Nat.zero_le _) (Nat.zero_le _) hdg ?_
  by_cases h : a < b
  · rw [if_pos ((iI_lt ha hb2).mpr h)]; exact kk b ⟨Or.inr rfl, by omega, by omega⟩
  · rw [if_neg (fun q => h ((iI_lt ha hb2).mp q))]; exact kk a ⟨Or.inl rfl, by omega, by omega⟩
theorem gi_min (C : gC D k p s m args c cc own) (hml : c.maxLocals = nL) (hsz : ls.size = nL) (hm : Cond.methodLink own idx Lib.Math.min.name ∈ gWs) (ha : inR a) (hb2 : inR b) (hfr : 1 ≤ R.frames) (hlo : (rest.map fun v => v.category).sum + 13 ≤ R.locals) (hdg : decode cc pc = .ok (.invokestatic idx, 3)) (kk : ∀ z : Int, (z = a ∨ z = b) ∧ z ≤ a ∧ z ≤ b → W p l e R s m args below meth c H locs 0 0 Q (F0 m (pc + 3) ls (.int (iI z) :: rest))) : W p l e R s m args below meth c H locs 0 0 Q (F0 m pc ls (.int (iI b) :: .int (iI a) :: rest)) := by
  refine va_mmin C.1 C.2.1 (hml.trans hsz.symm) C.2.2.2.1 (C.2.2.1 _ hm) (C.2.2.1 _ mS_math_min) (C.2.2.1 _ mN_J9) (C.2.2.1 _ mC_math_min) hfr hlo (Nat.zero_le _) (Nat.zero_le _) hdg ?_
  by_cases h : b < a
  · rw [if_pos ((iI_lt hb2 ha).mpr h)]; exact kk b ⟨Or.inr rfl, by omega, by omega⟩
  · rw [if_neg (fun q => h ((iI_lt hb2 ha).mp q))]; exact kk a ⟨Or.inl rfl, by omega, by omega⟩
theorem gl_max (C : gC D k p s m args c cc own) (hml : c.maxLocals = nL) (hsz : ls.size = nL) (hm : Cond.methodLink own idx Lib.MathLoose.max_long.x ∈ gWs) (hfr : 1 ≤ R.frames) (hlo : (rest.map fun v => v.category).sum + 15 ≤ R.locals) (hdg : decode cc pc = .ok (.invokestatic idx, 3)) (kk : ∀ z : Int, (if iL b < iL a then iL a else iL b) = iL z → W p l e R s m args below meth c H locs 0 0 Q (F0 m (pc + 3) ls (.long (iL z) :: rest))) : W p l e R s m args below meth c H locs 0 0 Q (F0 m pc ls (.long (iL b) :: .long (iL a) :: rest)) := by
  refine va_mmax_long C.1 C.2.1 (hml.trans hsz.symm) C.2.2.2.1 (C.2.2.1 _ hm) (C.2.2.1 _ mS_math_maxl) (C.2.2.1 _ mN_J9) (C.2.2.1 _ mC_math_maxl) hfr hlo (Nat.zero_le _) (Nat.zero_le _) hdg ?_
  have h := kk (if iL b < iL a then iL a else iL b).toInt (iL_of _).symm
  rw [iL_of] at h
  exact h
theorem gl_min (C : gC D k p s m args c cc own) (hml : c.maxLocals = nL) (hsz : ls.size = nL) (hm : Cond.methodLink own idx Lib.MathLoose.min_long.x ∈ gWs) (hfr : 1 ≤ R.frames) (hlo : (rest.map fun v => v.category).sum + 15 ≤ R.locals) (hdg : decode cc pc = .ok (.invokestatic idx, 3)) (kk : ∀ z : Int, (if iL b < iL a then iL b else iL a) = iL z → W p l e R s m args below meth c H locs 0 0 Q (F0 m (pc + 3) ls (.long (iL z) :: rest))) : W p l e R s m args below meth c H locs 0 0 Q (F0 m pc ls (.long (iL b) :: .long (iL a) :: rest)) := by
  refine va_mmin_long C.1 C.2.1 (hml.trans hsz.symm) C.2.2.2.1 (C.2.2.1 _ hm) (C.2.2.1 _ mS_math_minl) (C.2.2.1 _ mN_J9) (C.2.2.1 _ mC_math_minl) hfr hlo (Nat.zero_le _) (Nat.zero_le _) hdg ?_
  have h := kk (if iL b < iL a then iL b else iL a).toInt (iL_of _).symm
  rw [iL_of] at h
  exact h
end GL
end

section
/-- what a round's law tells is as it must be -/
def shOk (n : Int) (a : Int → Int) : Prop := ∀ r, 0 ≤ r → r < n → (1 ≤ a (r * 4) ∧ a (r * 4) ≤ 5) ∧ (1 ≤ a (r * 4 + 1) ∧ a (r * 4 + 1) ≤ 9) ∧ (10 ≤ a (r * 4 + 2) ∧ a (r * 4 + 2) ≤ 999) ∧ (0 ≤ a (r * 4 + 3) ∧ a (r * 4 + 3) ≤ 999)
theorem sh0 {n r z : Int} {a : Int → Int} (hs : shOk n a) (h : z = (if (0 ≤ r ∧ r < n) ∧ 0 ≤ (0 : Int) ∧ (0 : Int) < 4 then a (r * 4 + (0 : Int)) else 0)) : 0 ≤ z ∧ z ≤ 5 := by
  rw [h]
  split
  · rename_i q
    have := (hs r q.1.1 q.1.2).1
    rw [Int.add_zero]
    omega
  · omega
theorem sh2 {n r z : Int} {a : Int → Int} (hs : shOk n a) (h : z = (if (0 ≤ r ∧ r < n) ∧ 0 ≤ (2 : Int) ∧ (2 : Int) < 4 then a (r * 4 + (2 : Int)) else 0)) : 0 ≤ z ∧ z ≤ 999 := by
  rw [h]
  split
  · rename_i q
    have := (hs r q.1.1 q.1.2).2.2.1
    omega
  · omega
theorem sh3 {n r z : Int} {a : Int → Int} (hs : shOk n a) (h : z = (if (0 ≤ r ∧ r < n) ∧ 0 ≤ (3 : Int) ∧ (3 : Int) < 4 then a (r * 4 + (3 : Int)) else 0)) : 0 ≤ z ∧ z ≤ 999 := by
  rw [h]
  split
  · rename_i q
    have := (hs r q.1.1 q.1.2).2.2.2
    omega
  · omega
theorem shR {n r b : Int} {a : Int → Int} (hs : shOk n a) (h : (0 ≤ r ∧ r < n) ∧ 0 ≤ b ∧ b < a (r * 4)) : b ≤ 4 := by
  have := (hs r h.1.1 h.1.2).1
  omega
theorem cntUp {a : Int → Int} {e n i : Int} (h : ∀ k, 0 ≤ k → k < n → a k ≤ i) (he : a e ≤ i) : ∀ k, 0 ≤ k → k < n → u1 a e (a e + 1) k ≤ i + 1 := fun k h0 h1 => by
  have := h k h0 h1
  unfold u1
  split <;> omega
theorem cntKeep {a : Int → Int} {n i : Int} (h : ∀ k, 0 ≤ k → k < n → a k ≤ i) : ∀ k, 0 ≤ k → k < n → a k ≤ i + 1 := fun k h0 h1 => by
  have := h k h0 h1
  omega
theorem gShl1 (r : Int) (h : 0 ≤ r ∧ r ≤ 5) : ∃ z : Int, iI 1 <<< (iI r &&& 31) = iI z ∧ 1 ≤ z ∧ z ≤ 32 := by
  rcases (show r = 0 ∨ r = 1 ∨ r = 2 ∨ r = 3 ∨ r = 4 ∨ r = 5 by omega) with rfl | rfl | rfl | rfl | rfl | rfl
  · exact ⟨1, by decide, by decide, by decide⟩
  · exact ⟨2, by decide, by decide, by decide⟩
  · exact ⟨4, by decide, by decide, by decide⟩
  · exact ⟨8, by decide, by decide, by decide⟩
  · exact ⟨16, by decide, by decide, by decide⟩
  · exact ⟨32, by decide, by decide, by decide⟩
end

section
/-- how deep the pile is behind i items of a code -/
def rdp (a : Int → Int) : Nat → Int
  | 0 => 0
  | i + 1 => rdp a i + (if a (i : Int) < 7 then 1 else if a (i : Int) = 10 then 0 else -1)
/-- a code that can be worked: each item finds what it needs -/
def rpOk (n : Int) (a : Int → Int) : Prop := (1 ≤ rdp a n.toNat) ∧ ∀ i : Nat, (i : Int) < n → (a (i : Int) = 10 → 1 ≤ rdp a i) ∧ (7 ≤ a (i : Int) → a (i : Int) ≠ 10 → 2 ≤ rdp a i)
theorem rpStep {n : Int} {a : Int → Int} (h : rpOk n a) (i : Int) (h0 : 0 ≤ i) (h1 : i < n) : (a i < 7 → rdp a (i + 1).toNat = rdp a i.toNat + 1) ∧ (a i = 10 → 1 ≤ rdp a i.toNat ∧ rdp a (i + 1).toNat = rdp a i.toNat) ∧ ((7 ≤ a i ∧ a i ≠ 10) → 2 ≤ rdp a i.toNat ∧ rdp a (i + 1).toNat = rdp a i.toNat - 1) := by
  obtain ⟨j, rfl⟩ : ∃ j : Nat, i = (j : Int) := ⟨i.toNat, by omega⟩
  have e1 : ((j : Int) + 1).toNat = j + 1 := by omega
  have e2 : ((j : Int)).toNat = j := by omega
  rw [e1, e2]
  have e3 : rdp a (j + 1) = rdp a j + (if a (j : Int) < 7 then 1 else if a (j : Int) = 10 then 0 else -1) := rfl
  have h2 := h.2 j h1
  refine ⟨fun q => ?_, fun q => ?_, fun q => ?_⟩
  · rw [e3, if_pos q]
  · refine ⟨h2.1 q, ?_⟩
    rw [e3, if_neg (by omega), if_pos q]
    omega
  · refine ⟨h2.2 q.1 q.2, ?_⟩
    rw [e3, if_neg (by omega), if_neg q.2]
    omega
end

section
/-- how many of the first m -/
def cn (p : Int → Bool) : Nat → Int
  | 0 => 0
  | m + 1 => cn p m + (if p (m : Int) then 1 else 0)
theorem cn_rng (p : Int → Bool) : ∀ m : Nat, 0 ≤ cn p m ∧ cn p m ≤ m
  | 0 => ⟨Int.le_refl 0, Int.le_refl 0⟩
  | m + 1 => by
    have h := cn_rng p m
    show 0 ≤ cn p m + (if p (m : Int) then 1 else 0) ∧ cn p m + (if p (m : Int) then 1 else 0) ≤ ((m + 1 : Nat) : Int)
    split <;> omega
theorem cn_congr {p q : Int → Bool} : ∀ m : Nat, (∀ j : Nat, j < m → p (j : Int) = q (j : Int)) → cn p m = cn q m
  | 0, _ => rfl
  | m + 1, h => by
    show cn p m + (if p (m : Int) then 1 else 0) = cn q m + (if q (m : Int) then 1 else 0)
    rw [cn_congr m (fun j hj => h j (by omega)), h m (by omega)]
theorem cn_zero {p : Int → Bool} : ∀ m : Nat, (∀ j : Nat, j < m → p (j : Int) = false) → cn p m = 0
  | 0, _ => rfl
  | m + 1, h => by
    show cn p m + (if p (m : Int) then 1 else 0) = 0
    rw [cn_zero m (fun j hj => h j (by omega)), h m (by omega)]
    rfl
theorem cn_hit {p q : Int → Bool} (c : Nat) (hp : p (c : Int) = false) (hq : q (c : Int) = true) (h : ∀ j : Nat, j ≠ c → p (j : Int) = q (j : Int)) : ∀ m : Nat, c < m → cn q m = cn p m + 1 ∧ cn p m ≤ m - 1
  | 0, hm => absurd hm (Nat.not_lt_zero c)
  | m + 1, hm => by
    show cn q m + (if q (m : Int) then 1 else 0) = cn p m + (if p (m : Int) then 1 else 0) + 1 ∧ cn p m + (if p (m : Int) then 1 else 0) ≤ ((m + 1 : Nat) : Int) - 1
    rcases Nat.lt_or_ge c m with hc | hc
    · have ih := cn_hit c hp hq h m hc
      rw [h m (by omega)]
      split <;> omega
    · have e1 : m = c := by omega
      subst e1
      have e2 : cn p m = cn q m := cn_congr m (fun j hj => h j (by omega))
      have e3 := cn_rng p m
      rw [hp, hq, e2]
      rw [e2] at e3
      simp
      omega
def cP (a : Int → Int) (r t c : Int) (j : Int) : Bool := decide ((r < a j ∧ a j ≤ t) ∨ (a j = r ∧ c < j))
theorem cP_hit {a : Int → Int} {r t c m : Int} (h0 : 0 ≤ c) (h1 : c < m) (ha : a c = r) : cn (cP a r t (c + (-1))) m.toNat = cn (cP a r t c) m.toNat + 1 ∧ cn (cP a r t c) m.toNat ≤ m - 1 := by
  obtain ⟨c0, rfl⟩ : ∃ j : Nat, c = (j : Int) := ⟨c.toNat, by omega⟩
  have h := cn_hit (p := cP a r t (c0 : Int)) (q := cP a r t ((c0 : Int) + (-1))) c0 (decide_eq_false (by omega)) (decide_eq_true (by omega)) (fun j hj => by
    unfold cP
    exact decide_eq_decide.mpr ⟨fun q => by omega, fun q => by omega⟩) m.toNat (by omega)
  omega
theorem cP_skip {a : Int → Int} {r t c : Int} (ha : a c ≠ r) (n : Nat) : cn (cP a r t (c + (-1))) n = cn (cP a r t c) n := by
  refine cn_congr n (fun j _ => ?_)
  unfold cP
  refine decide_eq_decide.mpr ⟨fun q => ?_, fun q => by omega⟩
  rcases q with q | q
  · exact Or.inl q
  · rcases (show (j : Int) = c ∨ c < (j : Int) by omega) with e | e
    · rw [e] at q; exact absurd q.1 ha
    · exact Or.inr ⟨q.1, e⟩
theorem cP_next {a : Int → Int} {r t m : Int} (hr : r ≤ t) : cn (cP a r t (-1)) m.toNat = cn (cP a (r + (-1)) t (m - 1)) m.toNat := by
  refine cn_congr _ (fun j hj => ?_)
  unfold cP
  exact decide_eq_decide.mpr ⟨fun q => by omega, fun q => by omega⟩
theorem cP_start (a : Int → Int) (t m : Int) : cn (cP a t t (m - 1)) m.toNat = 0 := by
  refine cn_zero _ (fun j hj => decide_eq_false ?_)
  omega
end

section
/-! an expression on its way into a code: what is laid, what waits -/
def rpPre (n : Int) (a : Int → Int) : Prop := ∀ i : Nat, (i : Int) < n → (a (i : Int) = 10 → 1 ≤ rdp a i) ∧ (7 ≤ a (i : Int) → a (i : Int) ≠ 10 → 2 ≤ rdp a i)
theorem rdp_congr {a b : Int → Int} : ∀ m : Nat, (∀ j : Nat, j < m → a (j : Int) = b (j : Int)) → rdp a m = rdp b m
  | 0, _ => rfl
  | m + 1, h => by
    show rdp a m + _ = rdp b m + _
    rw [rdp_congr m (fun j hj => h j (by omega)), h m (by omega)]
theorem rpPre_congr {n : Int} {a b : Int → Int} (h : ∀ j : Nat, (j : Int) < n → a (j : Int) = b (j : Int)) (hp : rpPre n a) : rpPre n b := fun i hi => by
  have e := rdp_congr (a := a) (b := b) i (fun j hj => h j (by omega))
  rw [← e, ← h i hi]
  exact hp i hi
theorem rpOk_congr {n : Int} {a b : Int → Int} (h : ∀ j : Nat, (j : Int) < n → a (j : Int) = b (j : Int)) (hp : rpOk n a) : rpOk n b := by
  refine ⟨?_, rpPre_congr h hp.2⟩
  rw [← rdp_congr (a := a) (b := b) n.toNat (fun j hj => h j (by omega))]
  exact hp.1
theorem rp_put {n : Int} {a : Int → Int} (h0 : 0 ≤ n) (h : rpPre n a) (x : Int) (hx : (x = 10 → 1 ≤ rdp a n.toNat) ∧ (7 ≤ x → x ≠ 10 → 2 ≤ rdp a n.toNat)) : rpPre (n + 1) (u1 a n x) ∧ rdp (u1 a n x) (n + 1).toNat = rdp a n.toNat + (if x < 7 then 1 else if x = 10 then 0 else -1) := by
  obtain ⟨m, rfl⟩ : ∃ m : Nat, n = (m : Int) := ⟨n.toNat, by omega⟩
  have e2 : ((m : Int)).toNat = m := by omega
  have e1 : ((m : Int) + 1).toNat = m + 1 := by omega
  rw [e2] at hx ⊢
  rw [e1]
  have lo : ∀ i : Nat, i ≤ m → rdp (u1 a (m : Int) x) i = rdp a i := fun i hi => rdp_congr i (fun j hj => u1_n (by omega))
  have hi : u1 a (m : Int) x (m : Int) = x := u1_s
  refine ⟨fun i hi2 => ?_, ?_⟩
  · rcases Nat.lt_or_ge i m with q | q
    · rw [lo i (by omega), u1_n (show (i : Int) ≠ (m : Int) by omega)]
      exact h i (by omega)
    · have e3 : i = m := by omega
      subst e3
      rw [lo i (Nat.le_refl i), hi]
      exact hx
  · show rdp (u1 a (m : Int) x) m + (if u1 a (m : Int) x (m : Int) < 7 then 1 else if u1 a (m : Int) x (m : Int) = 10 then 0 else -1) = _
    rw [lo m (Nat.le_refl m), hi]
def wB (w : Int → Int) (m : Int) : Int := cn (fun j => decide (w j ≤ 9)) m.toNat
def wN (w : Int → Int) (m : Int) : Int := cn (fun j => decide (w j = 10)) m.toNat
def wP (w : Int → Int) (m : Int) : Int := cn (fun j => decide (w j = 11)) m.toNat
theorem w_rng (w : Int → Int) {m : Int} (h : 0 ≤ m) : (0 ≤ wB w m ∧ wB w m ≤ m) ∧ (0 ≤ wN w m ∧ wN w m ≤ m) ∧ (0 ≤ wP w m ∧ wP w m ≤ m) := by
  have h1 := cn_rng (fun j => decide (w j ≤ 9)) m.toNat
  have h2 := cn_rng (fun j => decide (w j = 10)) m.toNat
  have h3 := cn_rng (fun j => decide (w j = 11)) m.toNat
  unfold wB wN wP
  omega
theorem w_push (w : Int → Int) {m : Int} (h : 0 ≤ m) (x : Int) : wB (u1 w m x) (m + 1) = wB w m + (if x ≤ 9 then 1 else 0) ∧ wN (u1 w m x) (m + 1) = wN w m + (if x = 10 then 1 else 0) ∧ wP (u1 w m x) (m + 1) = wP w m + (if x = 11 then 1 else 0) := by
  obtain ⟨k, rfl⟩ : ∃ k : Nat, m = (k : Int) := ⟨m.toNat, by omega⟩
  have e1 : ((k : Int) + 1).toNat = k + 1 := by omega
  have e2 : ((k : Int)).toNat = k := by omega
  have hi : u1 w (k : Int) x (k : Int) = x := u1_s
  unfold wB wN wP
  rw [e1, e2]
  refine ⟨?_, ?_, ?_⟩
  · show cn _ k + (if decide (u1 w (k : Int) x (k : Int) ≤ 9) = true then 1 else 0) = _
    rw [cn_congr k (q := fun j => decide (w j ≤ 9)) (fun j hj => by rw [u1_n (show (j : Int) ≠ (k : Int) by omega)]), hi]
    simp
  · show cn _ k + (if decide (u1 w (k : Int) x (k : Int) = 10) = true then 1 else 0) = _
    rw [cn_congr k (q := fun j => decide (w j = 10)) (fun j hj => by rw [u1_n (show (j : Int) ≠ (k : Int) by omega)]), hi]
    simp
  · show cn _ k + (if decide (u1 w (k : Int) x (k : Int) = 11) = true then 1 else 0) = _
    rw [cn_congr k (q := fun j => decide (w j = 11)) (fun j hj => by rw [u1_n (show (j : Int) ≠ (k : Int) by omega)]), hi]
    simp
theorem w_pop (w : Int → Int) {m : Int} (h : 1 ≤ m) : wB w m = wB w (m - 1) + (if w (m - 1) ≤ 9 then 1 else 0) ∧ wN w m = wN w (m - 1) + (if w (m - 1) = 10 then 1 else 0) ∧ wP w m = wP w (m - 1) + (if w (m - 1) = 11 then 1 else 0) := by
  obtain ⟨k, rfl⟩ : ∃ k : Nat, m = (k : Int) + 1 := ⟨(m - 1).toNat, by omega⟩
  have e1 : ((k : Int) + 1).toNat = k + 1 := by omega
  have e3 : (k : Int) + 1 - 1 = (k : Int) := by omega
  have e2 : ((k : Int)).toNat = k := by omega
  unfold wB wN wP
  rw [e3, e1, e2]
  refine ⟨?_, ?_, ?_⟩
  · show cn _ k + (if decide (w (k : Int) ≤ 9) = true then 1 else 0) = _
    simp
  · show cn _ k + (if decide (w (k : Int) = 10) = true then 1 else 0) = _
    simp
  · show cn _ k + (if decide (w (k : Int) = 11) = true then 1 else 0) = _
    simp
theorem w_all (w : Int → Int) (h : ∀ j, w j ≤ 11) : ∀ m : Nat, cn (fun j => decide (w j ≤ 9)) m + cn (fun j => decide (w j = 10)) m + cn (fun j => decide (w j = 11)) m = m
  | 0 => rfl
  | m + 1 => by
    have ih := w_all w h m
    have h1 := h (m : Int)
    show cn _ m + (if decide (w (m : Int) ≤ 9) = true then 1 else 0) + (cn _ m + (if decide (w (m : Int) = 10) = true then 1 else 0)) + (cn _ m + (if decide (w (m : Int) = 11) = true then 1 else 0)) = ((m + 1 : Nat) : Int)
    simp only [decide_eq_true_eq]
    split <;> split <;> split <;> omega
/-- np laid, cnt counted, dp deep, wt waiting; has: an operand is whole -/
def eOk (np cnt dp wt has : Int) (a w : Int → Int) : Prop := rpPre np a ∧ rdp a np.toNat = wB w wt + has ∧ np + wB w wt + wN w wt ≤ cnt ∧ cnt ≤ 40 ∧ dp = wN w wt + wP w wt ∧ dp ≤ 8 ∧ 0 ≤ np ∧ 0 ≤ wt ∧ (∀ j, w j ≤ 11) ∧ ∀ j, 0 ≤ j → j < wt → 7 ≤ w j
theorem eOk_rng {np cnt dp wt has : Int} {a w : Int → Int} (h : eOk np cnt dp wt has a w) : (0 ≤ np ∧ np ≤ 40) ∧ (0 ≤ wt ∧ wt ≤ 48) ∧ (0 ≤ dp ∧ dp ≤ 8) ∧ np ≤ cnt ∧ cnt ≤ 40 := by
  obtain ⟨h1, h2, h3, h4, h5, h6, h7, h8, h9, h10⟩ := h
  have r := w_rng w h8
  have q : wB w wt + wN w wt + wP w wt = wt := by
    have := w_all w h9 wt.toNat
    unfold wB wN wP
    omega
  omega
theorem eOk_num {np cnt dp wt x : Int} {a w : Int → Int} (h : eOk np cnt dp wt 0 a w) (hc : cnt < 40) (hx : x < 7) : eOk (np + 1) (cnt + 1) dp wt 1 (u1 a np x) w := by
  obtain ⟨h1, h2, h3, h4, h5, h6, h7, h8, h9, h10⟩ := h
  have p := rp_put h7 h1 x ⟨fun q => by omega, fun q => by omega⟩
  rw [if_pos hx] at p
  exact ⟨p.1, by omega, by omega, by omega, h5, h6, by omega, h8, h9, h10⟩
theorem eOk_wait {np cnt dp wt has x : Int} {a w : Int → Int} (h : eOk np cnt dp wt has a w) (hx : (x = 10 ∧ has = 0 ∧ cnt < 40 ∧ dp < 8) ∨ (x = 11 ∧ has = 0 ∧ dp < 8) ∨ (7 ≤ x ∧ x ≤ 9 ∧ has = 1 ∧ cnt < 40)) : eOk np (cnt + (if x = 11 then 0 else 1)) (dp + (if x ≤ 9 then 0 else 1)) (wt + 1) 0 a (u1 w wt x) := by
  obtain ⟨h1, h2, h3, h4, h5, h6, h7, h8, h9, h10⟩ := h
  obtain ⟨p1, p2, p3⟩ := w_push w h8 x
  have u9 : ∀ j, u1 w wt x j ≤ 11 := fun j => by
    have := h9 j
    unfold u1
    split <;> omega
  have u10 : ∀ j, 0 ≤ j → j < wt + 1 → 7 ≤ u1 w wt x j := fun j q1 q2 => by
    unfold u1
    split
    · omega
    · exact h10 j q1 (by omega)
  unfold eOk
  rw [p1, p2, p3]
  rcases hx with ⟨rfl, q1, q2, q3⟩ | ⟨rfl, q1, q2⟩ | ⟨q1, q2, q3, q4⟩
  · exact ⟨h1, by rw [if_neg (by decide)]; omega, by rw [if_neg (by decide), if_pos rfl, if_neg (by decide)]; omega, by rw [if_neg (by decide)]; omega, by rw [if_neg (by decide), if_pos rfl, if_neg (by decide)]; omega, by rw [if_neg (by decide)]; omega, h7, by omega, u9, u10⟩
  · exact ⟨h1, by rw [if_neg (by decide)]; omega, by rw [if_neg (by decide), if_neg (by decide), if_pos rfl]; omega, by rw [if_pos rfl]; omega, by rw [if_neg (by decide), if_neg (by decide), if_pos rfl]; omega, by rw [if_neg (by decide)]; omega, h7, by omega, u9, u10⟩
  · have n10 : ¬ x = 10 := by omega
    have n11 : ¬ x = 11 := by omega
    rw [if_pos q2, if_pos q2, if_neg n10, if_neg n11, if_neg n11]
    exact ⟨h1, by omega, by omega, by omega, by omega, by omega, h7, by omega, u9, u10⟩
theorem eOk_red {np cnt dp wt : Int} {a w : Int → Int} (h : eOk np cnt dp wt 1 a w) (hw : 0 < wt) (hx : w (wt - 1) < 10) : eOk (np + 1) cnt dp (wt - 1) 1 (u1 a np (w (wt - 1))) w ∧ wP w (wt - 1) = wP w wt := by
  obtain ⟨h1, h2, h3, h4, h5, h6, h7, h8, h9, h10⟩ := h
  obtain ⟨p1, p2, p3⟩ := w_pop w (show 1 ≤ wt by omega)
  have r := w_rng w (show 0 ≤ wt - 1 by omega)
  have h7x := h10 (wt - 1) (by omega) (by omega)
  rw [if_pos (by omega)] at p1
  rw [if_neg (by omega)] at p2 p3
  have p := rp_put h7 h1 (w (wt - 1)) ⟨fun q => by omega, fun q _ => by omega⟩
  rw [if_neg (by omega), if_neg (by omega)] at p
  exact ⟨⟨p.1, by omega, by omega, h4, by omega, h6, by omega, by omega, h9, fun j q1 q2 => h10 j q1 (by omega)⟩, by omega⟩
theorem eOk_whole {np cnt dp wt : Int} {a w : Int → Int} (h : eOk np cnt dp wt 1 a w) (hw : 0 < wt) (hx : w (wt - 1) = 10) : eOk (np + 1) cnt (dp - 1) (wt - 1) 1 (u1 a np 10) w := by
  obtain ⟨h1, h2, h3, h4, h5, h6, h7, h8, h9, h10⟩ := h
  obtain ⟨p1, p2, p3⟩ := w_pop w (show 1 ≤ wt by omega)
  have r := w_rng w (show 0 ≤ wt - 1 by omega)
  rw [if_neg (by omega)] at p1 p3
  rw [if_pos hx] at p2
  have p := rp_put h7 h1 10 ⟨fun q => by omega, fun _ q => absurd rfl q⟩
  rw [if_neg (by decide), if_pos rfl] at p
  exact ⟨p.1, by omega, by omega, h4, by omega, by omega, by omega, by omega, h9, fun j q1 q2 => h10 j q1 (by omega)⟩
theorem eOk_close {np cnt dp wt : Int} {a w : Int → Int} (h : eOk np cnt dp wt 1 a w) (hw : 0 < wt) (hx : 10 ≤ w (wt - 1)) : eOk np cnt (dp - 1) (wt - 1) 1 a w := by
  obtain ⟨h1, h2, h3, h4, h5, h6, h7, h8, h9, h10⟩ := h
  obtain ⟨p1, p2, p3⟩ := w_pop w (show 1 ≤ wt by omega)
  have h11 := h9 (wt - 1)
  rw [if_neg (by omega)] at p1
  have q : (if w (wt - 1) = 10 then (1 : Int) else 0) + (if w (wt - 1) = 11 then 1 else 0) = 1 := by
    split <;> split <;> omega
  have q2 : 0 ≤ (if w (wt - 1) = 10 then (1 : Int) else 0) := by split <;> omega
  exact ⟨h1, by omega, by omega, h4, by omega, by omega, h7, by omega, h9, fun j q1 q2 => h10 j q1 (by omega)⟩
theorem eOk_end {np cnt dp : Int} {a w : Int → Int} (h : eOk np cnt dp 0 1 a w) : rpOk np a ∧ np ≤ 40 := by
  have r := eOk_rng h
  obtain ⟨h1, h2, h3, h4, h5, h6, h7, h8, h9, h10⟩ := h
  have e : wB w 0 = 0 := rfl
  exact ⟨⟨by omega, h1⟩, by omega⟩
theorem eOk_start (a w : Int → Int) (h : ∀ j, w j ≤ 11) : eOk 0 0 0 0 0 a w := ⟨fun i hi => absurd hi (by omega), rfl, Int.le_refl 0, by decide, rfl, by decide, by decide, by decide, h, fun j h0 h1 => by omega⟩
theorem rp_default (a : Int → Int) : rpOk 5 (u1 (u1 (u1 (u1 (u1 a 0 0) 1 1) 2 9) 3 2) 4 7) := by
  have s0 : rpPre 0 a := fun i hi => absurd hi (by omega)
  have p0 := rp_put (by decide) s0 0 ⟨fun q => by omega, fun q => by omega⟩
  have p1 := rp_put (by decide) p0.1 1 ⟨fun q => by omega, fun q => by omega⟩
  have p2 := rp_put (by decide) p1.1 9 ⟨fun q => by omega, fun _ _ => by have a0 : rdp a 0 = 0 := rfl; have b0 := p0.2; have b1 := p1.2; simp at b0 b1 ⊢; omega⟩
  have p3 := rp_put (by decide) p2.1 2 ⟨fun q => by omega, fun q => by omega⟩
  have p4 := rp_put (by decide) p3.1 7 ⟨fun q => by omega, fun _ _ => by have a0 : rdp a 0 = 0 := rfl; have b0 := p0.2; have b1 := p1.2; have b2 := p2.2; have b3 := p3.2; simp at b0 b1 b2 b3 ⊢; omega⟩
  refine ⟨?_, p4.1⟩
  have a0 : rdp a 0 = 0 := rfl
  have b0 := p0.2; have b1 := p1.2; have b2 := p2.2; have b3 := p3.2; have b4 := p4.2
  simp at b0 b1 b2 b3 b4 ⊢
  omega
end

section
theorem gAnd255 {a : Int} (h : inR a) : iI a &&& iI 255 = iI (a % 256) := by
  rw [pk_and (iI a) (m := iI 255) 8 (by decide)]
  have e : ((iI a).toBitVec.toNat : Int) = a % 4294967296 := by
    show ((BitVec.ofInt 32 a).toNat : Int) = a % 4294967296
    rw [BitVec.toNat_ofInt]
    omega
  rw [show nI ((iI a).toBitVec.toNat % 2 ^ 8) = iI (((iI a).toBitVec.toNat % 2 ^ 8 : Nat) : Int) from iI_nat _]
  congr 1
  omega
theorem cn_pos {p : Int → Bool} (i : Nat) (hp : p (i : Int) = true) : ∀ m : Nat, i < m → 1 ≤ cn p m
  | 0, h => absurd h (Nat.not_lt_zero i)
  | m + 1, h => by
    have r := cn_rng p m
    show 1 ≤ cn p m + (if p (m : Int) then 1 else 0)
    rcases Nat.lt_or_ge i m with q | q
    · have ih := cn_pos i hp m q
      split <;> omega
    · have e : i = m := by omega
      subst e
      rw [if_pos hp]
      omega
theorem wP_pos {w : Int → Int} {i m : Int} (h0 : 0 ≤ i) (h1 : i < m) (h : w i = 11) : 1 ≤ wP w m := by
  obtain ⟨j, rfl⟩ : ∃ j : Nat, i = (j : Int) := ⟨i.toNat, by omega⟩
  exact cn_pos (p := fun j => decide (w j = 11)) j (decide_eq_true h) m.toNat (by omega)
end

section
theorem dJ0_length_8abf5_0 : decode cJ0_length_8abf5 0 = .ok (.aload_n 0, 1) := by decide +kernel
theorem dJ0_length_8abf5_1 : decode cJ0_length_8abf5 1 = .ok (.getfield 9, 3) := by decide +kernel
theorem dJ0_length_8abf5_4 : decode cJ0_length_8abf5 4 = .ok (.arraylength, 1) := by decide +kernel
theorem dJ0_length_8abf5_5 : decode cJ0_length_8abf5 5 = .ok (.aload_n 0, 1) := by decide +kernel
theorem dJ0_length_8abf5_6 : decode cJ0_length_8abf5 6 = .ok (.invokevirtual 335, 3) := by decide +kernel
theorem dJ0_length_8abf5_9 : decode cJ0_length_8abf5 9 = .ok (.ishr, 1) := by decide +kernel
theorem dJ0_length_8abf5_10 : decode cJ0_length_8abf5 10 = .ok (.ireturn, 1) := by decide +kernel
theorem dJ0_charAt_5068e_0 : decode cJ0_charAt_5068e 0 = .ok (.aload_n 0, 1) := by decide +kernel
theorem dJ0_charAt_5068e_1 : decode cJ0_charAt_5068e 1 = .ok (.invokevirtual 492, 3) := by decide +kernel
theorem dJ0_charAt_5068e_4 : decode cJ0_charAt_5068e 4 = .ok (.ifCond .eq 12, 3) := by decide +kernel
theorem dJ0_charAt_5068e_7 : decode cJ0_charAt_5068e 7 = .ok (.aload_n 0, 1) := by decide +kernel
theorem dJ0_charAt_5068e_8 : decode cJ0_charAt_5068e 8 = .ok (.getfield 9, 3) := by decide +kernel
theorem dJ0_charAt_5068e_11 : decode cJ0_charAt_5068e 11 = .ok (.iload_n 1, 1) := by decide +kernel
theorem dJ0_charAt_5068e_12 : decode cJ0_charAt_5068e 12 = .ok (.invokestatic 495, 3) := by decide +kernel
theorem dJ0_charAt_5068e_15 : decode cJ0_charAt_5068e 15 = .ok (.ireturn, 1) := by decide +kernel
theorem dJ0_charAt_5068e_16 : decode cJ0_charAt_5068e 16 = .ok (.aload_n 0, 1) := by decide +kernel
theorem dJ0_charAt_5068e_17 : decode cJ0_charAt_5068e 17 = .ok (.getfield 9, 3) := by decide +kernel
theorem dJ0_charAt_5068e_20 : decode cJ0_charAt_5068e 20 = .ok (.iload_n 1, 1) := by decide +kernel
theorem dJ0_charAt_5068e_21 : decode cJ0_charAt_5068e 21 = .ok (.invokestatic 498, 3) := by decide +kernel
theorem dJ0_charAt_5068e_24 : decode cJ0_charAt_5068e 24 = .ok (.ireturn, 1) := by decide +kernel
theorem dJ0_coder_7d493_0 : decode cJ0_coder_7d493 0 = .ok (.getstatic 38, 3) := by decide +kernel
theorem dJ0_coder_7d493_3 : decode cJ0_coder_7d493 3 = .ok (.ifCond .eq 10, 3) := by decide +kernel
theorem dJ0_coder_7d493_6 : decode cJ0_coder_7d493 6 = .ok (.aload_n 0, 1) := by decide +kernel
theorem dJ0_coder_7d493_7 : decode cJ0_coder_7d493 7 = .ok (.getfield 15, 3) := by decide +kernel
theorem dJ0_coder_7d493_10 : decode cJ0_coder_7d493 10 = .ok (.goto 4, 3) := by decide +kernel
theorem dJ0_coder_7d493_13 : decode cJ0_coder_7d493 13 = .ok (.iconst 1, 1) := by decide +kernel
theorem dJ0_coder_7d493_14 : decode cJ0_coder_7d493 14 = .ok (.ireturn, 1) := by decide +kernel
theorem dJ0_isLatin1_aae02_0 : decode cJ0_isLatin1_aae02 0 = .ok (.getstatic 38, 3) := by decide +kernel
theorem dJ0_isLatin1_aae02_3 : decode cJ0_isLatin1_aae02 3 = .ok (.ifCond .eq 14, 3) := by decide +kernel
theorem dJ0_isLatin1_aae02_6 : decode cJ0_isLatin1_aae02 6 = .ok (.aload_n 0, 1) := by decide +kernel
theorem dJ0_isLatin1_aae02_7 : decode cJ0_isLatin1_aae02 7 = .ok (.getfield 15, 3) := by decide +kernel
theorem dJ0_isLatin1_aae02_10 : decode cJ0_isLatin1_aae02 10 = .ok (.ifCond .ne 7, 3) := by decide +kernel
theorem dJ0_isLatin1_aae02_13 : decode cJ0_isLatin1_aae02 13 = .ok (.iconst 1, 1) := by decide +kernel
theorem dJ0_isLatin1_aae02_14 : decode cJ0_isLatin1_aae02 14 = .ok (.goto 4, 3) := by decide +kernel
theorem dJ0_isLatin1_aae02_17 : decode cJ0_isLatin1_aae02 17 = .ok (.iconst 0, 1) := by decide +kernel
theorem dJ0_isLatin1_aae02_18 : decode cJ0_isLatin1_aae02 18 = .ok (.ireturn, 1) := by decide +kernel
theorem dJ0_checkIndex_df160_0 : decode cJ0_checkIndex_df160 0 = .ok (.iload_n 0, 1) := by decide +kernel
theorem dJ0_checkIndex_df160_1 : decode cJ0_checkIndex_df160 1 = .ok (.iload_n 1, 1) := by decide +kernel
theorem dJ0_checkIndex_df160_2 : decode cJ0_checkIndex_df160 2 = .ok (.getstatic 1053, 3) := by decide +kernel
theorem dJ0_checkIndex_df160_5 : decode cJ0_checkIndex_df160 5 = .ok (.invokestatic 1059, 3) := by decide +kernel
theorem dJ0_checkIndex_df160_8 : decode cJ0_checkIndex_df160 8 = .ok (.pop, 1) := by decide +kernel
theorem dJ0_checkIndex_df160_9 : decode cJ0_checkIndex_df160 9 = .ok (.return_, 1) := by decide +kernel
theorem dJ1_charAt_3b067_0 : decode cJ1_charAt_3b067 0 = .ok (.iload_n 1, 1) := by decide +kernel
theorem dJ1_charAt_3b067_1 : decode cJ1_charAt_3b067 1 = .ok (.aload_n 0, 1) := by decide +kernel
theorem dJ1_charAt_3b067_2 : decode cJ1_charAt_3b067 2 = .ok (.arraylength, 1) := by decide +kernel
theorem dJ1_charAt_3b067_3 : decode cJ1_charAt_3b067 3 = .ok (.invokestatic 9, 3) := by decide +kernel
theorem dJ1_charAt_3b067_6 : decode cJ1_charAt_3b067 6 = .ok (.aload_n 0, 1) := by decide +kernel
theorem dJ1_charAt_3b067_7 : decode cJ1_charAt_3b067 7 = .ok (.iload_n 1, 1) := by decide +kernel
theorem dJ1_charAt_3b067_8 : decode cJ1_charAt_3b067 8 = .ok (.baload, 1) := by decide +kernel
theorem dJ1_charAt_3b067_9 : decode cJ1_charAt_3b067 9 = .ok (.sipush 255, 3) := by decide +kernel
theorem dJ1_charAt_3b067_12 : decode cJ1_charAt_3b067 12 = .ok (.iand, 1) := by decide +kernel
theorem dJ1_charAt_3b067_13 : decode cJ1_charAt_3b067 13 = .ok (.i2c, 1) := by decide +kernel
theorem dJ1_charAt_3b067_14 : decode cJ1_charAt_3b067 14 = .ok (.ireturn, 1) := by decide +kernel
theorem dJ3_checkIndex_8e157_0 : decode cJ3_checkIndex_8e157 0 = .ok (.iload_n 0, 1) := by decide +kernel
theorem dJ3_checkIndex_8e157_1 : decode cJ3_checkIndex_8e157 1 = .ok (.ifCond .lt 8, 3) := by decide +kernel
theorem dJ3_checkIndex_8e157_4 : decode cJ3_checkIndex_8e157 4 = .ok (.iload_n 0, 1) := by decide +kernel
theorem dJ3_checkIndex_8e157_5 : decode cJ3_checkIndex_8e157 5 = .ok (.iload_n 1, 1) := by decide +kernel
theorem dJ3_checkIndex_8e157_6 : decode cJ3_checkIndex_8e157 6 = .ok (.if_icmp .lt 10, 3) := by decide +kernel
theorem dJ3_checkIndex_8e157_9 : decode cJ3_checkIndex_8e157 9 = .ok (.aload_n 2, 1) := by decide +kernel
theorem dJ3_checkIndex_8e157_10 : decode cJ3_checkIndex_8e157 10 = .ok (.iload_n 0, 1) := by decide +kernel
theorem dJ3_checkIndex_8e157_11 : decode cJ3_checkIndex_8e157 11 = .ok (.iload_n 1, 1) := by decide +kernel
theorem dJ3_checkIndex_8e157_12 : decode cJ3_checkIndex_8e157 12 = .ok (.invokestatic 95, 3) := by decide +kernel
theorem dJ3_checkIndex_8e157_15 : decode cJ3_checkIndex_8e157 15 = .ok (.athrow, 1) := by decide +kernel
theorem dJ3_checkIndex_8e157_16 : decode cJ3_checkIndex_8e157 16 = .ok (.iload_n 0, 1) := by decide +kernel
theorem dJ3_checkIndex_8e157_17 : decode cJ3_checkIndex_8e157 17 = .ok (.ireturn, 1) := by decide +kernel
/-! what the class takes of constants: two static rows, one text -/
def gEtx : String := "round points keys ties back shared up down sum most tops zones top zone hold tries seconds flash "
def gEby : List Int32 := [114, 111, 117, 110, 100, 32, 112, 111, 105, 110, 116, 115, 32, 107, 101, 121, 115, 32, 116, 105, 101, 115, 32, 98, 97, 99, 107, 32, 115, 104, 97, 114, 101, 100, 32, 117, 112, 32, 100, 111, 119, 110, 32, 115, 117, 109, 32, 109, 111, 115, 116, 32, 116, 111, 112, 115, 32, 122, 111, 110, 101, 115, 32, 116, 111, 112, 32, 122, 111, 110, 101, 32, 104, 111, 108, 100, 32, 116, 114, 105, 101, 115, 32, 115, 101, 99, 111, 110, 100, 115, 32, 102, 108, 97, 115, 104, 32]
def gElo : Nat → Int := fun j => ([1, 1, 10, 0] : List Int).getD j 0
def gEhi : Nat → Int := fun j => ([5, 9, 999, 999] : List Int).getD j 0
def gEv (z : Nat → Nat) (A : Nat → Prop) (U : State) (H : Heap) : Prop :=
  va_Z "RouteWall" "SHAPE_LEAST" "[I" (.ref (z 0)) A U H ∧ va_T .int (z 0) 4 (fun j => .int (iI (gElo j))) A U H ∧ va_Z "RouteWall" "SHAPE_GREATEST" "[I" (.ref (z 1)) A U H ∧ va_T .int (z 1) 4 (fun j => .int (iI (gEhi j))) A U H ∧ va_Z "java/lang/String" "COMPACT_STRINGS" "Z" (.int (iI 1)) A U H ∧ vk_S 1 [97] [gEby] (fun _ => z 2) (fun _ => z 3) A U H ∧ va_Zq "jdk/internal/util/Preconditions" "SIOOBE_FORMATTER" "Ljava/util/function/BiFunction;" A U H ∧ vk_R "RouteWall$Tokens" 52 gEtx (z 2) U ∧ va_Nw (.fieldLinkNest "RouteWall$LawReader" 106 "RouteWall" "SHAPE_LEAST" "[I" "RouteWall") U ∧ va_Nw (.fieldLinkNest "RouteWall$LawReader" 110 "RouteWall" "SHAPE_GREATEST" "[I" "RouteWall") U
theorem gEv.p0 {z : Nat → Nat} {A : Nat → Prop} {U : State} {H : Heap} (h : gEv z A U H) : va_Z "RouteWall" "SHAPE_LEAST" "[I" (.ref (z 0)) A U H := h.1
theorem gEv.p1 {z : Nat → Nat} {A : Nat → Prop} {U : State} {H : Heap} (h : gEv z A U H) : va_T .int (z 0) 4 (fun j => .int (iI (gElo j))) A U H := h.2.1
theorem gEv.p2 {z : Nat → Nat} {A : Nat → Prop} {U : State} {H : Heap} (h : gEv z A U H) : va_Z "RouteWall" "SHAPE_GREATEST" "[I" (.ref (z 1)) A U H := h.2.2.1
theorem gEv.p3 {z : Nat → Nat} {A : Nat → Prop} {U : State} {H : Heap} (h : gEv z A U H) : va_T .int (z 1) 4 (fun j => .int (iI (gEhi j))) A U H := h.2.2.2.1
theorem gEv.p4 {z : Nat → Nat} {A : Nat → Prop} {U : State} {H : Heap} (h : gEv z A U H) : va_Z "java/lang/String" "COMPACT_STRINGS" "Z" (.int (iI 1)) A U H := h.2.2.2.2.1
theorem gEv.p5 {z : Nat → Nat} {A : Nat → Prop} {U : State} {H : Heap} (h : gEv z A U H) : vk_S 1 [97] [gEby] (fun _ => z 2) (fun _ => z 3) A U H := h.2.2.2.2.2.1
theorem gEv.p6 {z : Nat → Nat} {A : Nat → Prop} {U : State} {H : Heap} (h : gEv z A U H) : va_Zq "jdk/internal/util/Preconditions" "SIOOBE_FORMATTER" "Ljava/util/function/BiFunction;" A U H := h.2.2.2.2.2.2.1
theorem gEv.p7 {z : Nat → Nat} {A : Nat → Prop} {U : State} {H : Heap} (h : gEv z A U H) : vk_R "RouteWall$Tokens" 52 gEtx (z 2) U := h.2.2.2.2.2.2.2.1
theorem gEv.p8 {z : Nat → Nat} {A : Nat → Prop} {U : State} {H : Heap} (h : gEv z A U H) : va_Nw (.fieldLinkNest "RouteWall$LawReader" 106 "RouteWall" "SHAPE_LEAST" "[I" "RouteWall") U := h.2.2.2.2.2.2.2.2.1
theorem gEv.p9 {z : Nat → Nat} {A : Nat → Prop} {U : State} {H : Heap} (h : gEv z A U H) : va_Nw (.fieldLinkNest "RouteWall$LawReader" 110 "RouteWall" "SHAPE_GREATEST" "[I" "RouteWall") U := h.2.2.2.2.2.2.2.2.2
theorem gEv.kept {z : Nat → Nat} {A : Nat → Prop} {U : State} {H H1 : Heap} (h : gEv z A U H) (hq : ∀ a : Nat, a < H.size → ¬ A a → H1[a]? = H[a]?) : gEv z A U H1 :=
  ⟨h.p0.kept hq, h.p1.kept hq, h.p2.kept hq, h.p3.kept hq, h.p4.kept hq, h.p5.kept hq, h.p6.kept hq, h.p7, h.p8, h.p9⟩
theorem gEv.narrow {z : Nat → Nat} {A B : Nat → Prop} {U : State} {H : Heap} (h : gEv z A U H) (hq : ∀ a : Nat, B a → A a) : gEv z B U H :=
  ⟨h.p0.narrow hq, h.p1.narrow hq, h.p2.narrow hq, h.p3.narrow hq, h.p4.narrow hq, h.p5.narrow hq, h.p6.narrow hq, h.p7, h.p8, h.p9⟩
theorem gEv.warm {z : Nat → Nat} {A : Nat → Prop} {s U : State} {H : Heap} (hW : s.WarmedH U.vm) (h : gEv z A s H) : gEv z A U H :=
  ⟨h.p0.moved hW.alike, h.p1.moved hW.alike, h.p2.moved hW.alike, h.p3.moved hW.alike, h.p4.moved hW.alike, h.p5.moved hW.alike, h.p6.moved hW.alike, h.p7.warm hW, va_Nw.warmF hW h.p8, va_Nw.warmF hW h.p9⟩
theorem gEv.same {z : Nat → Nat} {A : Nat → Prop} {s U : State} {H : Heap} (hv : U.vm = s.vm) (h : gEv z A s H) : gEv z A U H := by
  have hW : s.vm.Alike U.vm := by rw [hv]; exact Vm.Alike.refl s.vm
  exact ⟨h.p0.moved hW, h.p1.moved hW, h.p2.moved hW, h.p3.moved hW, h.p4.moved hW, h.p5.moved hW, h.p6.moved hW, h.p7.same hv, h.p8.same rfl hv.symm, h.p9.same rfl hv.symm⟩
def gPreE (D : va_G) (k : Nat → ClassId) (z : Nat → Nat) (A : Nat → Prop) (Wd : gWt) (v : gV) (f g : gF) (av : List Value) : Array Value → State → Prop := va_Pc av (fun U => (gWd D Wd v f g U.heap ∧ va_K D vwCl (gT k) U) ∧ gEv z A U U.heap)
def GE (l : Launch) (D : va_G) (k : Nat → ClassId) (z : Nat → Nat) (A : Nat → Prop) (Wd : gWt) (y : MethodName) (cc : ByteArray) (maxL : Nat) (ret : Option FieldType) (fr lo : Nat) (av : List Value) (v : gV) (f g : gF) (post : Option Value → gV → gF → gF → Prop) : Prop :=
  Met l y (Cond.code y cc maxL ret :: gWs) (gRm fr lo) (gPreE D k z A Wd v f g av) (gPost D A Wd post) 0 0 A
theorem gPreE_blind {D : va_G} {k : Nat → ClassId} {z : Nat → Nat} {A : Nat → Prop} {Wd : gWt} {v : gV} {f g : gF} {av : List Value} : FrameBlind (gPreE D k z A Wd v f g av) := fun a U gg mk q => by
  obtain ⟨q0, ⟨q1, q2⟩, q3⟩ := q
  exact ⟨q0, ⟨q1, va_K.moved (u := U) (U := U.calling gg mk a) (Vm.Alike.refl U.vm) q2⟩, gEv.same (s := U) (U := U.calling gg mk a) rfl q3⟩
section GEs
variable {l : Launch} {D : va_G} {k : Nat → ClassId} {z : Nat → Nat} {A : Nat → Prop} {Wd : gWt} {y : MethodName} {cc : ByteArray} {maxL : Nat} {ret : Option FieldType} {fr lo : Nat} {av : List Value} {v : gV} {f g : gF} {post : Option Value → gV → gF → gF → Prop}
theorem GE.of (hy : plainName y.cls = true) (hn : (lg_sl av).length ≤ maxL)
    (body : ∀ (p : Program) (e : Env) (s : State) (m : MethodId) (args : Array Value) (below : List Frame) (meth : Method) (c : Code) (Q : State → Prop) (ls : Array Slot), Q = MQ below (gPost D A Wd post) args s 0 0 A → gC D k p s m args c cc y.cls → c.maxLocals = maxL → meth.sig.returnType = ret → meth.locks = false → gWd D Wd v f g s.heap → lv_has ls maxL (lv_args 0 av) → gEv z A s s.heap →
      W p l e (gRm fr lo) s m args below meth c s.heap [] 0 0 Q (F0 m 0 ls [])) : GE l D k z A Wd y cc maxL ret fr lo av v f g post := by
  refine Met.ofW (cc := cc) (maxL := maxL) (ret := ret) hy rfl ?_
  intro p e s m args below meth c s₁ B hml hv
  obtain ⟨rfl, ⟨hP, hK⟩, hE⟩ := hv
  have hts := atoms_spec (ws := Cond.code y cc maxL ret :: gWs) B.pre
  have hl := lv_entry av hn
  rw [lg_entry_eq]
  exact body p e s m _ below meth c _ _ rfl ⟨B.exec, B.bytes, fun w h => hts w (List.mem_cons_of_mem _ h), findClass_of_methodNamed B.named, hK⟩ hml B.returns B.notSynchronized hP hl hE
variable {p : Program} {e : Env} {R : Room} {s : State} {m : MethodId} {args : Array Value} {below : List Frame} {meth : Method} {c : Code} {H H0 : Heap} {locs : List Loc} {cells slots : Nat} {Q : State → Prop}
variable {pc nL n idx : Nat} {ls : Array Slot} {rest st0 As : List Value} {own C1 : String} {A0 : Nat → Prop} {c1 : ByteArray} {b : Nat}
/-- a call on any cell of a known class, of a method that takes constants -/
theorem g_cvX (C : gC D k p s m args c c1 own) (hE : gEv z A0 s s.heap) (hml : c.maxLocals = nL) (hM : GE l D k z A Wd y cc maxL ret fr lo (.ref b :: As) v f g post) (m1 : Cond.methodLink own idx y ∈ gWs) (m2 : Cond.instanceMethod y ∈ gWs) (m3 : Cond.selects C1 y y ∈ gWs) (m4 : Cond.initialized C1 ∈ gWs) (m5 : Cond.code y cc maxL ret ∈ gWs)
    (hd : y.cls = C1 ∧ y.cls ≠ "java/lang/invoke/MethodHandle" ∧ y.cls ≠ "java/lang/invoke/VarHandle" ∧ (parseMethodDescriptor y.desc).map (fun d => d.parameters.length) = some n) (hrc : ∃ cell : Cell, H[b]? = some cell ∧ cell.vm.isStatics = false ∧ s.vm.findClass C1 = some cell.cls)
    (hP : gWd D Wd v f g H) (hS : va_S A0 s.heap H locs) (hA : ∀ q, A q → A0 q) (hR : fr + 1 ≤ R.frames ∧ 8 + (maxL + 11) + lo ≤ R.locals) (hcs : cells ≤ R.cells ∧ slots ≤ R.slots) (hsz : ls.size = nL) (hn : As.length = n) (hst : st0 = As.reverse ++ .ref b :: rest) (hW : (rest.map fun v => v.category).sum ≤ 8) (hdg : decode c1 pc = .ok (.invokevirtual idx, 3))
    (kk : ∀ (r : Option Value) (v : gV) (f g : gF) (H1 : Heap) (locs1 : List Loc), post r v f g → gWd D Wd v f g H1 → (∀ q : Nat, q < H.size → ¬ A q → H1[q]? = H[q]?) → va_S A0 s.heap H1 locs1 → W p l e R s m args below meth c H1 locs1 cells slots Q (F0 m (pc + 3) ls (r.toList ++ rest))) : W p l e R s m args below meth c H locs cells slots Q (F0 m pc ls st0) := by
  refine g_call (va_runV (As := As) (rest := rest) (n := n) ⟨C.1, C.2.1, hml, C.2.2.2.1, C.2.2.1⟩ hM (cwV n C.2.2.1 ?_ rfl rfl rfl hd hR) ⟨gPreE_blind, hrc, fun U hU hW => ⟨rfl, ⟨by rw [hU]; exact hP, va_K.moved hW.alike C.2.2.2.2⟩, gEv.warm hW (by rw [hU]; exact (hE.kept hS.2.1).narrow hA)⟩⟩ rfl hn hsz hst (lv_room hW) hdg hcs) hS hA kk
  intro w hw
  unfold wsV at hw
  rcases List.mem_append.mp hw with h | h
  · have hg : w ∈ gWs := by
      simp only [List.mem_cons, List.not_mem_nil, or_false] at h
      rcases h with rfl | rfl | rfl | rfl <;> assumption
    exact ⟨hg, gWs_good hg⟩
  · exact gWs_GoodIn m5 w h
/-- the same on a cell of the world -/
theorem g_cvE (C : gC D k p s m args c c1 own) (hE : gEv z A0 s s.heap) (hml : c.maxLocals = nL) (hM : GE l D k z A Wd y cc maxL ret fr lo (.ref b :: As) v f g post) (m1 : Cond.methodLink own idx y ∈ gWs) (m2 : Cond.instanceMethod y ∈ gWs) (m3 : Cond.selects C1 y y ∈ gWs) (m4 : Cond.initialized C1 ∈ gWs) (m5 : Cond.code y cc maxL ret ∈ gWs)
    (hd : y.cls = C1 ∧ y.cls ≠ "java/lang/invoke/MethodHandle" ∧ y.cls ≠ "java/lang/invoke/VarHandle" ∧ (parseMethodDescriptor y.desc).map (fun d => d.parameters.length) = some n) (q0 : Nat) {ci : Nat} {T : u_T} {N : Nat} {fs : List Value} (hc : vwCl[ci]? = some (C1, T, N)) (he : (Wd.1 v f g)[q0]? = some (b, .inr (ci, fs)))
    (hP : gWd D Wd v f g H) (hS : va_S A0 s.heap H locs) (hA : ∀ q, A q → A0 q) (hR : fr + 1 ≤ R.frames ∧ 8 + (maxL + 11) + lo ≤ R.locals) (hcs : cells ≤ R.cells ∧ slots ≤ R.slots) (hsz : ls.size = nL) (hn : As.length = n) (hst : st0 = As.reverse ++ .ref b :: rest) (hW : (rest.map fun v => v.category).sum ≤ 8) (hdg : decode c1 pc = .ok (.invokevirtual idx, 3))
    (kk : ∀ (r : Option Value) (v : gV) (f g : gF) (H1 : Heap) (locs1 : List Loc), post r v f g → gWd D Wd v f g H1 → (∀ q : Nat, q < H.size → ¬ A q → H1[q]? = H[q]?) → va_S A0 s.heap H1 locs1 → W p l e R s m args below meth c H1 locs1 cells slots Q (F0 m (pc + 3) ls (r.toList ++ rest))) : W p l e R s m args below meth c H locs cells slots Q (F0 m pc ls st0) :=
  g_cvX C hE hml hM m1 m2 m3 m4 m5 hd (va_recv C.2.2.2.2 hP.1 hc he) hP hS hA hR hcs hsz hn hst hW hdg kk
theorem g_csE (C : gC D k p s m args c c1 own) (hE : gEv z A0 s s.heap) (hml : c.maxLocals = nL) (hM : GE l D k z A Wd y cc maxL ret fr lo As v f g post) (m1 : Cond.methodLink own idx y ∈ gWs) (m2 : Cond.static y ∈ gWs) (m4 : Cond.initialized y.cls ∈ gWs) (m5 : Cond.code y cc maxL ret ∈ gWs)
    (hd : y.cls ≠ "java/lang/invoke/MethodHandle" ∧ y.cls ≠ "java/lang/invoke/VarHandle" ∧ (parseMethodDescriptor y.desc).map (fun d => d.parameters.length) = some n)
    (hP : gWd D Wd v f g H) (hS : va_S A0 s.heap H locs) (hA : ∀ q, A q → A0 q) (hR : fr + 1 ≤ R.frames ∧ 8 + (maxL + 11) + lo ≤ R.locals) (hcs : cells ≤ R.cells ∧ slots ≤ R.slots) (hsz : ls.size = nL) (hn : As.length = n) (hst : st0 = As.reverse ++ rest) (hW : (rest.map fun v => v.category).sum ≤ 8) (hdg : decode c1 pc = .ok (.invokestatic idx, 3))
    (kk : ∀ (r : Option Value) (v : gV) (f g : gF) (H1 : Heap) (locs1 : List Loc), post r v f g → gWd D Wd v f g H1 → (∀ q : Nat, q < H.size → ¬ A q → H1[q]? = H[q]?) → va_S A0 s.heap H1 locs1 → W p l e R s m args below meth c H1 locs1 cells slots Q (F0 m (pc + 3) ls (r.toList ++ rest))) : W p l e R s m args below meth c H locs cells slots Q (F0 m pc ls st0) := by
  refine g_call (va_runS (As := As) (rest := rest) (n := n) ⟨C.1, C.2.1, hml, C.2.2.2.1, C.2.2.1⟩ hM ⟨callB_of n C.2.2.1 (gWs_GoodIn m5) rfl rfl rfl (C.2.2.1 _ m4) (C.2.2.1 _ m1) hd hR, C.2.2.1 _ m2⟩ ⟨gPreE_blind, fun U hU hW => ⟨rfl, ⟨by rw [hU]; exact hP, va_K.moved hW.alike C.2.2.2.2⟩, gEv.warm hW (by rw [hU]; exact (hE.kept hS.2.1).narrow hA)⟩⟩ rfl hn hsz hst (lv_room hW) hdg hcs) hS hA kk
/-- the ends of a byte, of a char -/
theorem g_nret (hQ : Q = MQ below (gPost D A Wd post) args s 0 0 A) (C : gC D k p s m args c cc own) {v1 : gV} {f1 g1 : gF} {z : Int} {ty : FieldType} (hr : meth.sig.returnType = some ty) (hlocks : meth.locks = false) (hz : narrow ty (.int (iI z)) = .int (iI z)) (hP : gWd D Wd v1 f1 g1 H) (hS : va_S A s.heap H locs) (hdg : decode cc pc = .ok (.ireturn, 1)) (hq : post (some (.int (iI z))) v1 f1 g1) : W p l e R s m args below meth c H locs 0 0 Q (F0 m pc ls [.int (iI z)]) := by
  subst hQ
  exact W.zret C.1 C.2.1 hr hz (fun t ht _ => ⟨⟨_, v1, f1, g1, rfl, hq, by rw [ht]; exact hP⟩, hS.F ht⟩) hS.2.2 hdg hlocks
end GEs
/-! the JDK's members over the text -/
def gEch (a : Int) : Int := (gEby.getD a.toNat 0).toInt
theorem gEby_ok : ∀ j : Nat, j < 97 → ((((gEby.getD j 0) &&& 255).toUInt32 % 65536).toInt32 = gEby.getD j 0 ∧ narrow .char (.int (gEby.getD j 0)) = .int (gEby.getD j 0) ∧ 32 ≤ (gEby.getD j 0).toInt ∧ (gEby.getD j 0).toInt ≤ 122) := by decide +kernel
def gEsp (a : Int) : Int := (((gEby.take a.toNat).filter (fun x => x == 32)).length : Int)
theorem gEsp_ok : ∀ j : Nat, j < 97 → ((((gEby.getD j 0).toInt = 32 ∧ ((gEby.take (j + 1)).filter (fun x => x == 32)).length = ((gEby.take j).filter (fun x => x == 32)).length + 1) ∨ ((gEby.getD j 0).toInt ≠ 32 ∧ ((gEby.take (j + 1)).filter (fun x => x == 32)).length = ((gEby.take j).filter (fun x => x == 32)).length)) ∧ ((gEby.take j).filter (fun x => x == 32)).length ≤ 17) := by decide +kernel
theorem gEsp_step {i : Int} (h0 : 0 ≤ i) (h1 : i < 97) : ((gEch i = 32 ∧ gEsp (i + 1) = gEsp i + 1) ∨ (gEch i ≠ 32 ∧ gEsp (i + 1) = gEsp i)) ∧ 0 ≤ gEsp i ∧ gEsp i ≤ 17 ∧ 32 ≤ gEch i ∧ gEch i ≤ 122 := by
  obtain ⟨j, rfl⟩ : ∃ j : Nat, i = (j : Int) := ⟨i.toNat, by omega⟩
  have h := gEsp_ok j (by omega)
  have h2 := gEby_ok j (by omega)
  have e1 : ((j : Int) + 1).toNat = j + 1 := by omega
  unfold gEsp gEch
  rw [e1, Int.toNat_natCast]
  exact ⟨by omega, by omega, by omega, h2.2.2.1, h2.2.2.2⟩
section GJ
variable {l : Launch} {D : va_G} {k : Nat → ClassId} {z : Nat → Nat} {A : Nat → Prop} {Wd : gWt} {v : gV} {f g : gF}
abbrev gJp (v : gV) (f g : gF) (r0 : Option Value) : Option Value → gV → gF → gF → Prop := fun r v1 f1 g1 => r = r0 ∧ v = v1 ∧ f = f1 ∧ g = g1
theorem j_pre {a n : Int} {X : Value} (hX : X = .null ∨ ∃ t : Nat, X = .ref t) (h0 : 0 ≤ a) (h1 : a < n) (h2 : n ≤ 2147483647) : GM l D k A Wd yJ3_checkIndex_8e157 cJ3_checkIndex_8e157 3 (some .int) 0 0 [.int (iI a), .int (iI n), X] v f g (gJp v f g (some (.int (iI a)))) := by
  rcases hX with rfl | ⟨t, rfl⟩
  · refine GM.of (by decide) (Nat.le_of_ble_eq_true rfl) ?_
    intro p e s m args below meth c Q ls hQ C hml hr hlocks hP hl
    have hx := C.1
    have hb := C.2.1
    have hS : va_S A s.heap s.heap [] := va_S.rf
    have hl : lv_has ls 3 [(0, .int (iI a)), (1, .int (iI n)), (2, .null)] := hl
    refine lv_iload_n hx hb dJ3_checkIndex_8e157_0 rfl (lv_at hl 0 rfl) ?_
    refine gi_zlt (tgt := 9) hx hb dJ3_checkIndex_8e157_1 (by decide) (by omega) (fun c_1 => ?_) (fun c_1 => ?_)
    · exfalso; omega
    refine lv_iload_n hx hb dJ3_checkIndex_8e157_4 rfl (lv_at hl 0 rfl) ?_
    refine lv_iload_n hx hb dJ3_checkIndex_8e157_5 rfl (lv_at hl 1 rfl) ?_
    refine gi_clt (tgt := 16) hx hb dJ3_checkIndex_8e157_6 (by decide) (by omega) (by omega) (fun c_2 => ?_) (fun c_2 => ?_)
    · refine lv_iload_n hx hb dJ3_checkIndex_8e157_16 rfl (lv_at hl 0 rfl) ?_
      exact g_iret hQ C hr hlocks hP hS dJ3_checkIndex_8e157_17 ⟨rfl, rfl, rfl, rfl⟩
    · exfalso; omega
  · refine GM.of (by decide) (Nat.le_of_ble_eq_true rfl) ?_
    intro p e s m args below meth c Q ls hQ C hml hr hlocks hP hl
    have hx := C.1
    have hb := C.2.1
    have hS : va_S A s.heap s.heap [] := va_S.rf
    have hl : lv_has ls 3 [(0, .int (iI a)), (1, .int (iI n)), (2, .ref t)] := hl
    refine lv_iload_n hx hb dJ3_checkIndex_8e157_0 rfl (lv_at hl 0 rfl) ?_
    refine gi_zlt (tgt := 9) hx hb dJ3_checkIndex_8e157_1 (by decide) (by omega) (fun c_1 => ?_) (fun c_1 => ?_)
    · exfalso; omega
    refine lv_iload_n hx hb dJ3_checkIndex_8e157_4 rfl (lv_at hl 0 rfl) ?_
    refine lv_iload_n hx hb dJ3_checkIndex_8e157_5 rfl (lv_at hl 1 rfl) ?_
    refine gi_clt (tgt := 16) hx hb dJ3_checkIndex_8e157_6 (by decide) (by omega) (by omega) (fun c_2 => ?_) (fun c_2 => ?_)
    · refine lv_iload_n hx hb dJ3_checkIndex_8e157_16 rfl (lv_at hl 0 rfl) ?_
      exact g_iret hQ C hr hlocks hP hS dJ3_checkIndex_8e157_17 ⟨rfl, rfl, rfl, rfl⟩
    · exfalso; omega
theorem j_chk {a n : Int} (h0 : 0 ≤ a) (h1 : a < n) (h2 : n ≤ 2147483647) : GE l D k z A Wd yJ0_checkIndex_df160 cJ0_checkIndex_df160 2 none 1 22 [.int (iI a), .int (iI n)] v f g (gJp v f g none) := by
  refine GE.of (by decide) (Nat.le_of_ble_eq_true rfl) ?_
  intro p e s m args below meth c Q ls hQ C hml hr hlocks hP hl hE
  have hx := C.1
  have hb := C.2.1
  have hS : va_S A s.heap s.heap [] := va_S.rf
  have hl : lv_has ls 2 [(0, .int (iI a)), (1, .int (iI n))] := hl
  refine lv_iload_n hx hb dJ0_checkIndex_df160_0 rfl (lv_at hl 0 rfl) ?_
  refine lv_iload_n hx hb dJ0_checkIndex_df160_1 rfl (lv_at hl 1 rfl) ?_
  rcases hE.p6 with hz | ⟨t, hz⟩
  · refine va_gets hx hb hz hS C.2.2.2.1 (C.2.2.1 _ mF_J0_1053) (fun _ h => h) dJ0_checkIndex_df160_2 ?_
    refine g_cs (As := [.int (iI a), .int (iI n), .null]) (rest := []) (n := 3) C hml (j_pre (Or.inl rfl) h0 h1 h2) mM_J0_1059 mS_J3_checkIndex_8e157 mN_J3 mC_J3_checkIndex_8e157 (by decide +kernel) hP hS (fun _ h => h) ⟨Nat.le_of_ble_eq_true rfl, Nat.le_of_ble_eq_true rfl⟩ ⟨Nat.zero_le _, Nat.zero_le _⟩ hl.1 rfl rfl (Nat.le_of_ble_eq_true rfl) dJ0_checkIndex_df160_5 (fun r v1 f1 g1 H locs hq hP _ hS => ?_)
    obtain ⟨rfl, rfl, rfl, rfl⟩ := hq
    refine lv_pop hx hb dJ0_checkIndex_df160_8 rfl ?_
    exact g_vret hQ C hr hlocks hP hS dJ0_checkIndex_df160_9 ⟨rfl, rfl, rfl, rfl⟩
  · refine va_gets hx hb hz hS C.2.2.2.1 (C.2.2.1 _ mF_J0_1053) (fun _ h => h) dJ0_checkIndex_df160_2 ?_
    refine g_cs (As := [.int (iI a), .int (iI n), .ref t]) (rest := []) (n := 3) C hml (j_pre (Or.inr ⟨t, rfl⟩) h0 h1 h2) mM_J0_1059 mS_J3_checkIndex_8e157 mN_J3 mC_J3_checkIndex_8e157 (by decide +kernel) hP hS (fun _ h => h) ⟨Nat.le_of_ble_eq_true rfl, Nat.le_of_ble_eq_true rfl⟩ ⟨Nat.zero_le _, Nat.zero_le _⟩ hl.1 rfl rfl (Nat.le_of_ble_eq_true rfl) dJ0_checkIndex_df160_5 (fun r v1 f1 g1 H locs hq hP _ hS => ?_)
    obtain ⟨rfl, rfl, rfl, rfl⟩ := hq
    refine lv_pop hx hb dJ0_checkIndex_df160_8 rfl ?_
    exact g_vret hQ C hr hlocks hP hS dJ0_checkIndex_df160_9 ⟨rfl, rfl, rfl, rfl⟩
theorem j_lat {a : Int} (h0 : 0 ≤ a) (h1 : a < 97) : GE l D k z A Wd yJ1_charAt_3b067 cJ1_charAt_3b067 2 (some .char) 2 43 [.ref (z 3), .int (iI a)] v f g (gJp v f g (some (.int (iI (gEch a))))) := by
  refine GE.of (by decide) (Nat.le_of_ble_eq_true rfl) ?_
  intro p e s m args below meth c Q ls hQ C hml hr hlocks hP hl hE
  have hx := C.1
  have hb := C.2.1
  have hS : va_S A s.heap s.heap [] := va_S.rf
  have hl : lv_has ls 2 [(0, .ref (z 3)), (1, .int (iI a))] := hl
  have hT : va_T .byte (z 3) 97 (fun j => .int (gEby.getD j 0)) A s s.heap := (hE.p5.1 0 (by decide)).2.2.2
  have hj : (iI a).toNatClampNeg = a.toNat := by
    have := iI_cl h0 (by omega)
    omega
  have q := gEby_ok a.toNat (by omega)
  refine lv_iload_n hx hb dJ1_charAt_3b067_0 rfl (lv_at hl 1 rfl) ?_
  refine lv_aload_n hx hb dJ1_charAt_3b067_1 rfl (lv_at hl 0 rfl) ?_
  refine va_tlen (v := iI 97) hx hb hT hS rfl dJ1_charAt_3b067_2 ?_
  refine g_csE (As := [.int (iI a), .int (iI 97)]) (rest := []) (n := 2) C hE hml (j_chk h0 h1 (by decide)) mM_J1_9 mS_J0_checkIndex_df160 mN_J0 mC_J0_checkIndex_df160 (by decide +kernel) hP hS (fun _ h => h) ⟨Nat.le_of_ble_eq_true rfl, Nat.le_of_ble_eq_true rfl⟩ ⟨Nat.zero_le _, Nat.zero_le _⟩ hl.1 rfl rfl (Nat.le_of_ble_eq_true rfl) dJ1_charAt_3b067_3 (fun r v1 f1 g1 H locs hq hP _ hS => ?_)
  obtain ⟨rfl, rfl, rfl, rfl⟩ := hq
  refine lv_aload_n hx hb dJ1_charAt_3b067_6 rfl (lv_at hl 0 rfl) ?_
  refine lv_iload_n hx hb dJ1_charAt_3b067_7 rfl (lv_at hl 1 rfl) ?_
  refine va_tb (v := .int (gEby.getD a.toNat 0)) hx hb hT hS (iI_in h0 h1 (by decide)) (by rw [hj]) dJ1_charAt_3b067_8 ?_
  refine lv_sipush (v := 255) hx hb dJ1_charAt_3b067_9 (by decide) ?_
  refine lv_iand hx hb dJ1_charAt_3b067_12 ?_
  refine lv_i2c (v := iI (gEch a)) hx hb dJ1_charAt_3b067_13 (by rw [q.1]; exact (iI_of _).symm) ?_
  exact g_nret hQ C hr hlocks (by show narrow .char (.int (iI (gEby.getD a.toNat 0).toInt)) = .int (iI (gEby.getD a.toNat 0).toInt); rw [iI_of]; exact q.2.1) hP hS dJ1_charAt_3b067_14 ⟨rfl, rfl, rfl, rfl⟩
theorem j_coder : GE l D k z A Wd yJ0_coder_7d493 cJ0_coder_7d493 1 (some .byte) 0 0 [.ref (z 2)] v f g (gJp v f g (some (.int (iI 0)))) := by
  refine GE.of (by decide) (Nat.le_of_ble_eq_true rfl) ?_
  intro p e s m args below meth c Q ls hQ C hml hr hlocks hP hl hE
  have hx := C.1
  have hb := C.2.1
  have hS : va_S A s.heap s.heap [] := va_S.rf
  have hl : lv_has ls 1 [(0, .ref (z 2))] := hl
  refine va_gets hx hb hE.p4 hS C.2.2.2.1 (C.2.2.1 _ mF_J0_38) (fun _ h => h) dJ0_coder_7d493_0 ?_
  refine gi_zeq (tgt := 13) hx hb dJ0_coder_7d493_3 (by decide) (by decide) (fun c_1 => ?_) (fun c_1 => ?_)
  · exfalso; omega
  refine lv_aload_n hx hb dJ0_coder_7d493_6 rfl (lv_at hl 0 rfl) ?_
  refine vk_getf (v := .int (iI 0)) hx hb (hE.p5.1 0 (by decide)).2.1 hS C.2.2.2.1 (C.2.2.1 _ mF_J0_15) (fun _ h => h) dJ0_coder_7d493_7 ?_
  refine lv_goto (tgt := 14) hx hb dJ0_coder_7d493_10 (by decide) ?_
  exact g_nret hQ C hr hlocks rfl hP hS dJ0_coder_7d493_14 ⟨rfl, rfl, rfl, rfl⟩
theorem j_isLatin1 : GE l D k z A Wd yJ0_isLatin1_aae02 cJ0_isLatin1_aae02 1 (some .boolean) 0 0 [.ref (z 2)] v f g (gJp v f g (some (.int (iI 1)))) := by
  refine GE.of (by decide) (Nat.le_of_ble_eq_true rfl) ?_
  intro p e s m args below meth c Q ls hQ C hml hr hlocks hP hl hE
  have hx := C.1
  have hb := C.2.1
  have hS : va_S A s.heap s.heap [] := va_S.rf
  have hl : lv_has ls 1 [(0, .ref (z 2))] := hl
  refine va_gets hx hb hE.p4 hS C.2.2.2.1 (C.2.2.1 _ mF_J0_38) (fun _ h => h) dJ0_isLatin1_aae02_0 ?_
  refine gi_zeq (tgt := 17) hx hb dJ0_isLatin1_aae02_3 (by decide) (by decide) (fun c_1 => ?_) (fun c_1 => ?_)
  · exfalso; omega
  refine lv_aload_n hx hb dJ0_isLatin1_aae02_6 rfl (lv_at hl 0 rfl) ?_
  refine vk_getf (v := .int (iI 0)) hx hb (hE.p5.1 0 (by decide)).2.1 hS C.2.2.2.1 (C.2.2.1 _ mF_J0_15) (fun _ h => h) dJ0_isLatin1_aae02_7 ?_
  refine gi_zne (tgt := 17) hx hb dJ0_isLatin1_aae02_10 (by decide) (by decide) (fun c_2 => ?_) (fun c_2 => ?_)
  · exfalso; omega
  refine lv_iconst (v := iI 1) hx hb dJ0_isLatin1_aae02_13 rfl ?_
  refine lv_goto (tgt := 18) hx hb dJ0_isLatin1_aae02_14 (by decide) ?_
  exact g_nret hQ C hr hlocks rfl hP hS dJ0_isLatin1_aae02_18 ⟨rfl, rfl, rfl, rfl⟩
theorem j_len : GE l D k z A Wd yJ0_length_8abf5 cJ0_length_8abf5 1 (some .int) 1 20 [.ref (z 2)] v f g (gJp v f g (some (.int (iI 97)))) := by
  refine GE.of (by decide) (Nat.le_of_ble_eq_true rfl) ?_
  intro p e s m args below meth c Q ls hQ C hml hr hlocks hP hl hE
  have hx := C.1
  have hb := C.2.1
  have hS : va_S A s.heap s.heap [] := va_S.rf
  have hl : lv_has ls 1 [(0, .ref (z 2))] := hl
  have hT : va_T .byte (z 3) 97 (fun j => .int (gEby.getD j 0)) A s s.heap := (hE.p5.1 0 (by decide)).2.2.2
  refine lv_aload_n hx hb dJ0_length_8abf5_0 rfl (lv_at hl 0 rfl) ?_
  refine vk_getf (v := .ref (z 3)) hx hb (hE.p5.1 0 (by decide)).2.2.1 hS C.2.2.2.1 (C.2.2.1 _ mF_J0_9) (fun _ h => h) dJ0_length_8abf5_1 ?_
  refine va_tlen (v := iI 97) hx hb hT hS rfl dJ0_length_8abf5_4 ?_
  refine lv_aload_n hx hb dJ0_length_8abf5_5 rfl (lv_at hl 0 rfl) ?_
  refine g_cvX (As := []) (rest := [.int (iI 97)]) (n := 0) C hE hml j_coder mM_J0_335 mI_J0_coder_7d493 mE_J0_coder_7d493 mN_J0 mC_J0_coder_7d493 (by decide +kernel) (vk_recv (adK := fun _ => z 2) (i := 0) hE.p5 (by decide) hS) hP hS (fun _ h => h) ⟨Nat.le_of_ble_eq_true rfl, Nat.le_of_ble_eq_true rfl⟩ ⟨Nat.zero_le _, Nat.zero_le _⟩ hl.1 rfl rfl (Nat.le_of_ble_eq_true rfl) dJ0_length_8abf5_6 (fun r v1 f1 g1 H locs hq hP _ hS => ?_)
  obtain ⟨rfl, rfl, rfl, rfl⟩ := hq
  refine gi_shr (z := 97) (a := 97) (b := 0) hx hb dJ0_length_8abf5_9 rfl ?_
  exact g_iret hQ C hr hlocks hP hS dJ0_length_8abf5_10 ⟨rfl, rfl, rfl, rfl⟩
theorem j_cat {a : Int} (h0 : 0 ≤ a) (h1 : a < 97) : GE l D k z A Wd yJ0_charAt_5068e cJ0_charAt_5068e 2 (some .char) 3 64 [.ref (z 2), .int (iI a)] v f g (gJp v f g (some (.int (iI (gEch a))))) := by
  refine GE.of (by decide) (Nat.le_of_ble_eq_true rfl) ?_
  intro p e s m args below meth c Q ls hQ C hml hr hlocks hP hl hE
  have hx := C.1
  have hb := C.2.1
  have hS : va_S A s.heap s.heap [] := va_S.rf
  have hl : lv_has ls 2 [(0, .ref (z 2)), (1, .int (iI a))] := hl
  have q := gEby_ok a.toNat (by omega)
  refine lv_aload_n hx hb dJ0_charAt_5068e_0 rfl (lv_at hl 0 rfl) ?_
  refine g_cvX (As := []) (rest := []) (n := 0) C hE hml j_isLatin1 mM_J0_492 mI_J0_isLatin1_aae02 mE_J0_isLatin1_aae02 mN_J0 mC_J0_isLatin1_aae02 (by decide +kernel) (vk_recv (adK := fun _ => z 2) (i := 0) hE.p5 (by decide) hS) hP hS (fun _ h => h) ⟨Nat.le_of_ble_eq_true rfl, Nat.le_of_ble_eq_true rfl⟩ ⟨Nat.zero_le _, Nat.zero_le _⟩ hl.1 rfl rfl (Nat.le_of_ble_eq_true rfl) dJ0_charAt_5068e_1 (fun r v1 f1 g1 H locs hq hP _ hS => ?_)
  obtain ⟨rfl, rfl, rfl, rfl⟩ := hq
  refine gi_zeq (a := 1) (tgt := 16) hx hb dJ0_charAt_5068e_4 (by decide) (by decide) (fun c_1 => ?_) (fun c_1 => ?_)
  · exfalso; omega
  refine lv_aload_n hx hb dJ0_charAt_5068e_7 rfl (lv_at hl 0 rfl) ?_
  refine vk_getf (v := .ref (z 3)) hx hb (hE.p5.1 0 (by decide)).2.2.1 hS C.2.2.2.1 (C.2.2.1 _ mF_J0_9) (fun _ h => h) dJ0_charAt_5068e_8 ?_
  refine lv_iload_n hx hb dJ0_charAt_5068e_11 rfl (lv_at hl 1 rfl) ?_
  refine g_csE (As := [.ref (z 3), .int (iI a)]) (rest := []) (n := 2) C hE hml (j_lat h0 h1) mM_J0_495 mS_J1_charAt_3b067 mN_J1 mC_J1_charAt_3b067 (by decide +kernel) hP hS (fun _ h => h) ⟨Nat.le_of_ble_eq_true rfl, Nat.le_of_ble_eq_true rfl⟩ ⟨Nat.zero_le _, Nat.zero_le _⟩ hl.1 rfl rfl (Nat.le_of_ble_eq_true rfl) dJ0_charAt_5068e_12 (fun r v1 f1 g1 H locs hq hP _ hS => ?_)
  obtain ⟨rfl, rfl, rfl, rfl⟩ := hq
  exact g_nret hQ C hr hlocks (by show narrow .char (.int (iI (gEby.getD a.toNat 0).toInt)) = .int (iI (gEby.getD a.toNat 0).toInt); rw [iI_of]; exact q.2.1) hP hS dJ0_charAt_5068e_15 ⟨rfl, rfl, rfl, rfl⟩
end GJ
end

section
/-! bytes and tokens of a text, as numbers -/
abbrev pL (c : Int) : Prop := 97 ≤ c ∧ c ≤ 122
abbrev pD (c : Int) : Prop := 48 ≤ c ∧ c ≤ 57
abbrev pW (c : Int) : Prop := c = 32 ∨ c = 10
abbrev pS (c : Int) : Prop := c = 43 ∨ c = 45 ∨ c = 42 ∨ c = 40 ∨ c = 41 ∨ c = 44 ∨ c = 59
def bL (c : Int) : Bool := decide (pL c)
def bD (c : Int) : Bool := decide (pD c)
def bW (c : Int) : Bool := decide (pW c)
def runN (P : Int → Bool) (B : Int → Int) (n : Int) : Nat → Int → Int
  | 0, p => p
  | k + 1, p => if p < n ∧ P (B p) = true then runN P B n k (p + 1) else p
def run (P : Int → Bool) (B : Int → Int) (n p : Int) : Int := runN P B n (n - p).toNat p
theorem runN_eq {P : Int → Bool} {B : Int → Int} {n : Int} : ∀ (k : Nat) (p q : Int), p ≤ q → (n - p).toNat ≤ k → (∀ j, p ≤ j → j < q → j < n ∧ P (B j) = true) → (n ≤ q ∨ P (B q) = false) → runN P B n k p = q := by
  intro k
  induction k with
  | zero =>
    intro p q h0 h1 h2 h3
    by_cases e : p = q
    · subst e; rfl
    · have := (h2 p (by omega) (by omega)).1
      omega
  | succ k ih =>
    intro p q h0 h1 h2 h3
    unfold runN
    by_cases e : p = q
    · subst e
      rw [if_neg]
      rintro ⟨a, b⟩
      rcases h3 with h | h
      · omega
      · rw [b] at h; cases h
    · have g := h2 p (by omega) (by omega)
      rw [if_pos g]
      exact ih (p + 1) q (by omega) (by omega) (fun j a b => h2 j (by omega) b) h3
theorem runN_spec {P : Int → Bool} {B : Int → Int} {n : Int} : ∀ (k : Nat) (p : Int), (n - p).toNat ≤ k → p ≤ runN P B n k p ∧ (p ≤ n → runN P B n k p ≤ n) ∧ (∀ j, p ≤ j → j < runN P B n k p → j < n ∧ P (B j) = true) ∧ (n ≤ runN P B n k p ∨ P (B (runN P B n k p)) = false) := by
  intro k
  induction k with
  | zero =>
    intro p h
    unfold runN
    exact ⟨by omega, fun h => h, fun j a b => by omega, Or.inl (by omega)⟩
  | succ k ih =>
    intro p h
    unfold runN
    by_cases e : p < n ∧ P (B p) = true
    · rw [if_pos e]
      obtain ⟨a1, a2, a3, a4⟩ := ih (p + 1) (by omega)
      refine ⟨by omega, fun _ => a2 (by omega), fun j b1 b2 => ?_, a4⟩
      by_cases ej : j = p
      · subst ej; exact e
      · exact a3 j (by omega) b2
    · rw [if_neg e]
      refine ⟨by omega, fun h => h, fun j a b => by omega, ?_⟩
      by_cases e2 : n ≤ p
      · exact Or.inl e2
      · right
        cases hp : P (B p) with
        | false => rfl
        | true => exact absurd ⟨by omega, hp⟩ e
section TK
variable {B : Int → Int} {n p q : Int}
theorem run_spec {P : Int → Bool} (B : Int → Int) (n p : Int) : p ≤ run P B n p ∧ (p ≤ n → run P B n p ≤ n) ∧ (∀ j, p ≤ j → j < run P B n p → j < n ∧ P (B j) = true) ∧ (n ≤ run P B n p ∨ P (B (run P B n p)) = false) := runN_spec _ p (Nat.le_refl _)
theorem runL_eq (h0 : p ≤ q) (h1 : ∀ j, p ≤ j → j < q → j < n ∧ pL (B j)) (h2 : n ≤ q ∨ ¬ pL (B q)) : run bL B n p = q :=
  runN_eq _ p q h0 (Nat.le_refl _) (fun j a b => ⟨(h1 j a b).1, decide_eq_true (h1 j a b).2⟩) (h2.elim Or.inl (fun h => Or.inr (decide_eq_false h)))
theorem runD_eq (h0 : p ≤ q) (h1 : ∀ j, p ≤ j → j < q → j < n ∧ pD (B j)) (h2 : n ≤ q ∨ ¬ pD (B q)) : run bD B n p = q :=
  runN_eq _ p q h0 (Nat.le_refl _) (fun j a b => ⟨(h1 j a b).1, decide_eq_true (h1 j a b).2⟩) (h2.elim Or.inl (fun h => Or.inr (decide_eq_false h)))
theorem runW_eq (h0 : p ≤ q) (h1 : ∀ j, p ≤ j → j < q → j < n ∧ pW (B j)) (h2 : n ≤ q ∨ ¬ pW (B q)) : run bW B n p = q :=
  runN_eq _ p q h0 (Nat.le_refl _) (fun j a b => ⟨(h1 j a b).1, decide_eq_true (h1 j a b).2⟩) (h2.elim Or.inl (fun h => Or.inr (decide_eq_false h)))
theorem runL_spec (B : Int → Int) (n p : Int) : p ≤ run bL B n p ∧ (p ≤ n → run bL B n p ≤ n) ∧ (∀ j, p ≤ j → j < run bL B n p → j < n ∧ pL (B j)) ∧ (n ≤ run bL B n p ∨ ¬ pL (B (run bL B n p))) := by
  obtain ⟨a1, a2, a3, a4⟩ := run_spec (P := bL) B n p
  exact ⟨a1, a2, fun j b1 b2 => ⟨(a3 j b1 b2).1, of_decide_eq_true (a3 j b1 b2).2⟩, a4.elim Or.inl (fun h => Or.inr (of_decide_eq_false h))⟩
theorem runD_spec (B : Int → Int) (n p : Int) : p ≤ run bD B n p ∧ (p ≤ n → run bD B n p ≤ n) ∧ (∀ j, p ≤ j → j < run bD B n p → j < n ∧ pD (B j)) ∧ (n ≤ run bD B n p ∨ ¬ pD (B (run bD B n p))) := by
  obtain ⟨a1, a2, a3, a4⟩ := run_spec (P := bD) B n p
  exact ⟨a1, a2, fun j b1 b2 => ⟨(a3 j b1 b2).1, of_decide_eq_true (a3 j b1 b2).2⟩, a4.elim Or.inl (fun h => Or.inr (of_decide_eq_false h))⟩
theorem runW_spec (B : Int → Int) (n p : Int) : p ≤ run bW B n p ∧ (p ≤ n → run bW B n p ≤ n) ∧ (∀ j, p ≤ j → j < run bW B n p → j < n ∧ pW (B j)) ∧ (n ≤ run bW B n p ∨ ¬ pW (B (run bW B n p))) := by
  obtain ⟨a1, a2, a3, a4⟩ := run_spec (P := bW) B n p
  exact ⟨a1, a2, fun j b1 b2 => ⟨(a3 j b1 b2).1, of_decide_eq_true (a3 j b1 b2).2⟩, a4.elim Or.inl (fun h => Or.inr (of_decide_eq_false h))⟩
theorem runL_step (hq : q < n) (hl : pL (B q)) : run bL B n q = run bL B n (q + 1) := by
  obtain ⟨a1, a2, a3, a4⟩ := runL_spec B n (q + 1)
  refine runL_eq (by omega) (fun j b1 b2 => ?_) a4
  by_cases e : j = q
  · subst e; exact ⟨hq, hl⟩
  · exact a3 j (by omega) b2
theorem runD_step (hq : q < n) (hl : pD (B q)) : run bD B n q = run bD B n (q + 1) := by
  obtain ⟨a1, a2, a3, a4⟩ := runD_spec B n (q + 1)
  refine runD_eq (by omega) (fun j b1 b2 => ?_) a4
  by_cases e : j = q
  · subst e; exact ⟨hq, hl⟩
  · exact a3 j (by omega) b2
theorem runW_step (hq : q < n) (hl : pW (B q)) : run bW B n q = run bW B n (q + 1) := by
  obtain ⟨a1, a2, a3, a4⟩ := runW_spec B n (q + 1)
  refine runW_eq (by omega) (fun j b1 b2 => ?_) a4
  by_cases e : j = q
  · subst e; exact ⟨hq, hl⟩
  · exact a3 j (by omega) b2
theorem runL_stop (h : n ≤ q ∨ ¬ pL (B q)) : run bL B n q = q := runL_eq (Int.le_refl q) (fun j a b => by omega) h
theorem runD_stop (h : n ≤ q ∨ ¬ pD (B q)) : run bD B n q = q := runD_eq (Int.le_refl q) (fun j a b => by omega) h
theorem runW_stop (h : n ≤ q ∨ ¬ pW (B q)) : run bW B n q = q := runW_eq (Int.le_refl q) (fun j a b => by omega) h
end TK
/-! the words -/
def gEt : List Int := [114, 111, 117, 110, 100, 32, 112, 111, 105, 110, 116, 115, 32, 107, 101, 121, 115, 32, 116, 105, 101, 115, 32, 98, 97, 99, 107, 32, 115, 104, 97, 114, 101, 100, 32, 117, 112, 32, 100, 111, 119, 110, 32, 115, 117, 109, 32, 109, 111, 115, 116, 32, 116, 111, 112, 115, 32, 122, 111, 110, 101, 115, 32, 116, 111, 112, 32, 122, 111, 110, 101, 32, 104, 111, 108, 100, 32, 116, 114, 105, 101, 115, 32, 115, 101, 99, 111, 110, 100, 115, 32, 102, 108, 97, 115, 104, 32]
def gWl : List (List Int) := [[114, 111, 117, 110, 100], [112, 111, 105, 110, 116, 115], [107, 101, 121, 115], [116, 105, 101, 115], [98, 97, 99, 107], [115, 104, 97, 114, 101, 100], [117, 112], [100, 111, 119, 110], [115, 117, 109], [109, 111, 115, 116], [116, 111, 112, 115], [122, 111, 110, 101, 115], [116, 111, 112], [122, 111, 110, 101], [104, 111, 108, 100], [116, 114, 105, 101, 115], [115, 101, 99, 111, 110, 100, 115], [102, 108, 97, 115, 104]]
theorem gEt_ch : ∀ j : Nat, j < 97 → gEt.drop j = (gEby.getD j 0).toInt :: gEt.drop (j + 1) := by decide +kernel
def wl (B : Int → Int) (q e : Int) : List Int → Int → Int → Int → Int
  | [], _, _, _ => 259
  | c :: T, k, a, s => if c ≠ 32 then wl B q e T k (a + 1) (if s ≠ 0 ∧ a < e ∧ B a = c then 1 else 0) else if s ≠ 0 ∧ a = e then k else wl B q e T (k + 1) q 1
def wK (B : Int → Int) (q e : Int) : Int := wl B q e gEt 260 q 1
def eqW (B : Int → Int) : List Int → Int → Int → Prop
  | [], a, e => a = e
  | c :: w, a, e => a < e ∧ B a = c ∧ eqW B w (a + 1) e
theorem eqW_iff {B : Int → Int} : ∀ (w : List Int) (a e : Int), eqW B w a e ↔ (e = a + (w.length : Int) ∧ ∀ j : Nat, j < w.length → B (a + (j : Int)) = w.getD j 0) := by
  intro w
  induction w with
  | nil => intro a e; simp [eqW]; omega
  | cons c w ih =>
    intro a e
    unfold eqW
    rw [ih (a + 1) e]
    constructor
    · rintro ⟨h1, h2, h3, h4⟩
      refine ⟨by simp only [List.length_cons]; omega, fun j hj => ?_⟩
      cases j with
      | zero => simpa using h2
      | succ j =>
        have := h4 j (by simp only [List.length_cons] at hj; omega)
        have e1 : a + ((j + 1 : Nat) : Int) = a + 1 + (j : Int) := by omega
        rw [e1, this]
        simp
    · rintro ⟨h1, h2⟩
      simp only [List.length_cons] at h1 h2
      refine ⟨by omega, ?_, by omega, fun j hj => ?_⟩
      · have := h2 0 (by omega)
        simpa using this
      · have := h2 (j + 1) (by omega)
        have e1 : a + ((j + 1 : Nat) : Int) = a + 1 + (j : Int) := by omega
        rw [e1] at this
        rw [this]
        simp
theorem wl_word {B : Int → Int} {q e : Int} : ∀ (w T : List Int) (k a s : Int), (∀ c ∈ w, c ≠ 32) → ((s ≠ 0 ∧ eqW B w a e) → wl B q e (w ++ 32 :: T) k a s = k) ∧ (¬ (s ≠ 0 ∧ eqW B w a e) → wl B q e (w ++ 32 :: T) k a s = wl B q e T (k + 1) q 1) := by
  intro w
  induction w with
  | nil =>
    intro T k a s _
    constructor
    · rintro ⟨h1, h2⟩
      show wl B q e (32 :: T) k a s = k
      unfold wl
      rw [if_neg (by decide), if_pos ⟨h1, h2⟩]
    · intro h
      show wl B q e (32 :: T) k a s = _
      conv => lhs; unfold wl
      rw [if_neg (by decide), if_neg (show ¬ (s ≠ 0 ∧ a = e) from h)]
  | cons c w ih =>
    intro T k a s hc
    have hc0 : c ≠ 32 := hc c (List.mem_cons_self)
    have e0 : wl B q e ((c :: w) ++ 32 :: T) k a s = wl B q e (w ++ 32 :: T) k (a + 1) (if s ≠ 0 ∧ a < e ∧ B a = c then 1 else 0) := by
      show wl B q e (c :: (w ++ 32 :: T)) k a s = _
      conv => lhs; unfold wl
      rw [if_pos hc0]
    rw [e0]
    obtain ⟨i1, i2⟩ := ih T k (a + 1) (if s ≠ 0 ∧ a < e ∧ B a = c then 1 else 0) (fun x hx => hc x (List.mem_cons_of_mem _ hx))
    by_cases h : s ≠ 0 ∧ a < e ∧ B a = c
    · rw [if_pos h] at i1 i2 ⊢
      constructor
      · rintro ⟨h1, h2⟩
        exact i1 ⟨by decide, h2.2.2⟩
      · intro h1
        exact i2 (fun h2 => h1 ⟨h.1, h.2.1, h.2.2, h2.2⟩)
    · rw [if_neg h] at i1 i2 ⊢
      constructor
      · rintro ⟨h1, h2⟩
        exact absurd ⟨h1, h2.1, h2.2.1⟩ h
      · intro h1
        exact i2 (fun h2 => absurd rfl h2.1)
/-- the first of the words that fits, from number k on -/
def fw (B : Int → Int) (q e : Int) : List (List Int) → Int → Int → Prop
  | [], _, z => z = 259
  | w :: ws, k, z => (eqW B w q e ∧ z = k) ∨ (¬ eqW B w q e ∧ fw B q e ws (k + 1) z)
theorem wl_fw {B : Int → Int} {q e : Int} : ∀ (ws : List (List Int)) (k : Int), (∀ w ∈ ws, ∀ c ∈ w, c ≠ 32) → fw B q e ws k (wl B q e (ws.flatMap (fun w => w ++ [32])) k q 1) := by
  intro ws
  induction ws with
  | nil => intro k _; rfl
  | cons w ws ih =>
    intro k h
    have e0 : (w :: ws).flatMap (fun w => w ++ [32]) = w ++ 32 :: ws.flatMap (fun w => w ++ [32]) := by simp
    rw [e0]
    obtain ⟨i1, i2⟩ := wl_word (B := B) (q := q) (e := e) w (ws.flatMap (fun w => w ++ [32])) k q 1 (h w List.mem_cons_self)
    by_cases hw : eqW B w q e
    · exact Or.inl ⟨hw, i1 ⟨by decide, hw⟩⟩
    · refine Or.inr ⟨hw, ?_⟩
      rw [i2 (fun x => hw x.2)]
      exact ih (k + 1) (fun w hw => h w (List.mem_cons_of_mem _ hw))
theorem wK_fw (B : Int → Int) (q e : Int) : fw B q e gWl 260 (wK B q e) := by
  have e0 : gEt = gWl.flatMap (fun w => w ++ [32]) := by decide +kernel
  unfold wK
  rw [e0]
  exact wl_fw gWl 260 (by decide +kernel)
/-- digits of a word, base 32 -/
def hsN (a : Nat → Int) : Nat → Int
  | 0 => 0
  | k + 1 => 32 * hsN a k + a k - 96
theorem hsN_pos {a : Nat → Int} : ∀ k, (∀ j, j < k → pL (a j)) → 0 ≤ hsN a k := by
  intro k
  induction k with
  | zero => intro _; exact Int.le_refl 0
  | succ k ih =>
    intro h
    have h1 := ih (fun j hj => h j (by omega))
    have h2 := h k (by omega)
    unfold hsN
    omega
theorem hsN_inj {a b : Nat → Int} : ∀ k l, (∀ j, j < k → pL (a j)) → (∀ j, j < l → pL (b j)) → hsN a k = hsN b l → k = l ∧ ∀ j, j < k → a j = b j := by
  intro k
  induction k with
  | zero =>
    intro l ha hb h
    cases l with
    | zero => exact ⟨rfl, fun j hj => by omega⟩
    | succ l =>
      have h1 := hsN_pos l (fun j hj => hb j (by omega))
      have h2 := hb l (by omega)
      unfold hsN at h
      omega
  | succ k ih =>
    intro l ha hb h
    cases l with
    | zero =>
      have h1 := hsN_pos k (fun j hj => ha j (by omega))
      have h2 := ha k (by omega)
      unfold hsN at h
      omega
    | succ l =>
      have h1 := ha k (by omega)
      have h2 := hb l (by omega)
      unfold hsN at h
      have h3 : hsN a k = hsN b l := by omega
      have h4 : a k = b l := by omega
      obtain ⟨e1, e2⟩ := ih l (fun j hj => ha j (by omega)) (fun j hj => hb j (by omega)) h3
      subst e1
      refine ⟨rfl, fun j hj => ?_⟩
      by_cases ej : j = k
      · subst ej; exact h4
      · exact e2 j (by omega)
theorem hsN_congr {a b : Nat → Int} : ∀ k, (∀ j, j < k → a j = b j) → hsN a k = hsN b k := by
  intro k
  induction k with
  | zero => intro _; rfl
  | succ k ih =>
    intro h
    unfold hsN
    rw [ih (fun j hj => h j (by omega)), h k (by omega)]
def hs (B : Int → Int) (q : Int) (k : Nat) : Int := if k ≤ 12 then hsN (fun j => B (q + (j : Int))) k else -1
def hW (i : Nat) : Int := hsN (fun j => (gWl.getD i []).getD j 0) (gWl.getD i []).length
theorem hs_word {B : Int → Int} {q e : Int} (h0 : q ≤ e) (hl : ∀ j, q ≤ j → j < e → pL (B j)) (i : Nat) (hi : i < 18) : hs B q (e - q).toNat = hW i ↔ eqW B (gWl.getD i []) q e := by
  have hb : ∀ i : Nat, i < 18 → (gWl.getD i []).length ≤ 12 ∧ (∀ j : Nat, j < (gWl.getD i []).length → pL ((gWl.getD i []).getD j 0)) := by decide +kernel
  obtain ⟨b1, b2⟩ := hb i hi
  rw [eqW_iff]
  unfold hs hW
  by_cases hk : (e - q).toNat ≤ 12
  · rw [if_pos hk]
    constructor
    · intro h
      obtain ⟨c1, c2⟩ := hsN_inj _ _ (fun j hj => hl (q + (j : Int)) (by omega) (by omega)) b2 h
      exact ⟨by omega, fun j hj => c2 j (by omega)⟩
    · rintro ⟨c1, c2⟩
      have e1 : (e - q).toNat = (gWl.getD i []).length := by omega
      rw [e1]
      exact hsN_congr _ (fun j hj => c2 j hj)
  · rw [if_neg hk]
    have hp := hsN_pos _ b2
    constructor
    · intro h; omega
    · rintro ⟨c1, c2⟩; omega
theorem eqW_only {B : Int → Int} {q e : Int} {i j : Nat} (hi : i < 18) (hj : j < 18) (h1 : eqW B (gWl.getD i []) q e) (h2 : eqW B (gWl.getD j []) q e) : i = j := by
  have hd : ∀ i : Nat, i < 18 → ∀ j : Nat, j < 18 → i ≠ j → (gWl.getD i []).length ≠ (gWl.getD j []).length ∨ ∃ x : Nat, x < (gWl.getD i []).length ∧ (gWl.getD i []).getD x 0 ≠ (gWl.getD j []).getD x 0 := by decide +kernel
  by_cases e : i = j
  · exact e
  · rw [eqW_iff] at h1 h2
    rcases hd i hi j hj e with h | ⟨x, hx, h⟩
    · exact absurd (by omega) h
    · exact absurd ((h1.2 x hx).symm.trans (h2.2 x (by omega))) h
theorem fw_at {B : Int → Int} {q e : Int} : ∀ (ws : List (List Int)) (k z : Int), fw B q e ws k z → (z = 259 ∧ ∀ i : Nat, i < ws.length → ¬ eqW B (ws.getD i []) q e) ∨ ∃ i : Nat, i < ws.length ∧ z = k + (i : Int) ∧ eqW B (ws.getD i []) q e := by
  intro ws
  induction ws with
  | nil => intro k z h; exact Or.inl ⟨h, fun i hi => absurd hi (Nat.not_lt_zero i)⟩
  | cons w ws ih =>
    intro k z h
    rcases h with ⟨h1, h2⟩ | ⟨h1, h2⟩
    · exact Or.inr ⟨0, by simp, by omega, by simpa using h1⟩
    · rcases ih (k + 1) z h2 with ⟨a1, a2⟩ | ⟨i, a1, a2, a3⟩
      · refine Or.inl ⟨a1, fun i hi => ?_⟩
        cases i with
        | zero => simpa using h1
        | succ i => simpa using a2 i (by simpa using hi)
      · exact Or.inr ⟨i + 1, by simpa using a1, by omega, by simpa using a3⟩
theorem wK_rng (B : Int → Int) (q e : Int) : 259 ≤ wK B q e ∧ wK B q e ≤ 277 := by
  rcases fw_at gWl 260 _ (wK_fw B q e) with ⟨h, -⟩ | ⟨i, h1, h2, -⟩
  · omega
  · have : gWl.length = 18 := by decide
    omega
/-- a word's number by its digits -/
theorem wK_hs {B : Int → Int} {q e : Int} (h0 : q ≤ e) (hl : ∀ j, q ≤ j → j < e → pL (B j)) (i : Nat) (hi : i < 18) : wK B q e = 260 + (i : Int) ↔ hs B q (e - q).toNat = hW i := by
  rw [hs_word h0 hl i hi]
  have hn : gWl.length = 18 := by decide
  rcases fw_at gWl 260 _ (wK_fw B q e) with ⟨h, h2⟩ | ⟨j, h1, h2, h3⟩
  · constructor
    · intro h3; omega
    · intro h3; exact absurd h3 (h2 i (by omega))
  · constructor
    · intro h4
      have : i = j := by omega
      subst this
      exact h3
    · intro h4
      have := eqW_only hi (by omega) h4 h3
      omega
end

section
/-! tokens by their first place -/
def tE (B : Int → Int) (n q : Int) : Int := if q < n then (if pL (B q) then run bL B n q else if pD (B q) then run bD B n q else q + 1) else q
def tX (B : Int → Int) (n q : Int) : Int := run bW B n (tE B n q)
def nV (B : Int → Int) (q : Int) : Nat → Int
  | 0 => 0
  | k + 1 => if k < 6 then 10 * nV B q k + B (q + (k : Int)) - 48 else nV B q k
def tV (B : Int → Int) (n q : Int) : Int := if q < n ∧ pD (B q) then nV B q (run bD B n q - q).toNat else 0
def tK (B : Int → Int) (n q : Int) : Int := if q < n then (if pL (B q) then wK B q (run bL B n q) else if pD (B q) then (if 6 < run bD B n q - q then 257 else 258) else if pS (B q) then B q else 257) else 256
section TT
variable {B : Int → Int} {n q : Int}
theorem tE_L (h : q < n) (hl : pL (B q)) : tE B n q = run bL B n q := by unfold tE; rw [if_pos h, if_pos hl]
theorem tE_D (h : q < n) (hl : pD (B q)) : tE B n q = run bD B n q := by unfold tE; rw [if_pos h, if_neg (by omega), if_pos hl]
theorem tE_S (h : q < n) (h1 : ¬ pL (B q)) (h2 : ¬ pD (B q)) : tE B n q = q + 1 := by unfold tE; rw [if_pos h, if_neg h1, if_neg h2]
theorem tE_N (h : n ≤ q) : tE B n q = q := by unfold tE; rw [if_neg (by omega)]
theorem tE_up (h : q < n) : q + 1 ≤ tE B n q ∧ tE B n q ≤ n := by
  by_cases h1 : pL (B q)
  · rw [tE_L h h1, runL_step h h1]
    have := runL_spec B n (q + 1)
    exact ⟨this.1, this.2.1 (by omega)⟩
  · by_cases h2 : pD (B q)
    · rw [tE_D h h2, runD_step h h2]
      have := runD_spec B n (q + 1)
      exact ⟨this.1, this.2.1 (by omega)⟩
    · rw [tE_S h h1 h2]
      omega
theorem tX_up (h : q < n) : q + 1 ≤ tX B n q ∧ tX B n q ≤ n := by
  have h1 := tE_up (B := B) h
  have h2 := runW_spec B n (tE B n q)
  unfold tX
  exact ⟨by omega, h2.2.1 h1.2⟩
theorem tX_W (h : q ≤ n) : n ≤ tX B n q ∨ ¬ pW (B (tX B n q)) := (runW_spec B n (tE B n q)).2.2.2
theorem tK_L (h : q < n) (hl : pL (B q)) : tK B n q = wK B q (run bL B n q) := by unfold tK; rw [if_pos h, if_pos hl]
theorem tK_D (h : q < n) (hl : pD (B q)) : tK B n q = if 6 < run bD B n q - q then 257 else 258 := by unfold tK; rw [if_pos h, if_neg (by omega), if_pos hl]
theorem tK_S (h : q < n) (h3 : pS (B q)) : tK B n q = B q := by unfold tK; rw [if_pos h, if_neg (by omega), if_neg (by omega), if_pos h3]
theorem tK_B (h : q < n) (h1 : ¬ pL (B q)) (h2 : ¬ pD (B q)) (h3 : ¬ pS (B q)) : tK B n q = 257 := by unfold tK; rw [if_pos h, if_neg h1, if_neg h2, if_neg h3]
theorem tK_N (h : n ≤ q) : tK B n q = 256 := by unfold tK; rw [if_neg (by omega)]
theorem tV_D (h : q < n) (hl : pD (B q)) : tV B n q = nV B q (run bD B n q - q).toNat := by unfold tV; rw [if_pos ⟨h, hl⟩]
theorem tV_0 (h : ¬ (q < n ∧ pD (B q))) : tV B n q = 0 := by unfold tV; rw [if_neg h]
theorem tK_rng (B : Int → Int) (n q : Int) : 40 ≤ tK B n q ∧ tK B n q ≤ 277 := by
  by_cases h : q < n
  · by_cases h1 : pL (B q)
    · rw [tK_L h h1]
      have := wK_rng B q (run bL B n q)
      omega
    · by_cases h2 : pD (B q)
      · rw [tK_D h h2]
        split <;> omega
      · by_cases h3 : pS (B q)
        · rw [tK_S h h3]
          omega
        · rw [tK_B h h1 h2 h3]
          omega
  · rw [tK_N (by omega)]
    omega
theorem tK_end : tK B n q = 256 ↔ n ≤ q := by
  constructor
  · intro h
    by_cases h0 : q < n
    · exfalso
      by_cases h1 : pL (B q)
      · rw [tK_L h0 h1] at h
        have := wK_rng B q (run bL B n q)
        omega
      · by_cases h2 : pD (B q)
        · rw [tK_D h0 h2] at h
          split at h <;> omega
        · by_cases h3 : pS (B q)
          · rw [tK_S h0 h3] at h
            omega
          · rw [tK_B h0 h1 h2 h3] at h
            omega
    · omega
  · exact tK_N
theorem nV_rng {B : Int → Int} {q : Int} : ∀ k : Nat, (∀ j : Nat, j < k → pD (B (q + (j : Int)))) → 0 ≤ nV B q k ∧ nV B q k ≤ 999999 ∧ (k = 0 → nV B q k = 0) ∧ (k ≤ 1 → nV B q k ≤ 9) ∧ (k ≤ 2 → nV B q k ≤ 99) ∧ (k ≤ 3 → nV B q k ≤ 999) ∧ (k ≤ 4 → nV B q k ≤ 9999) ∧ (k ≤ 5 → nV B q k ≤ 99999) := by
  intro k
  induction k with
  | zero => intro _; simp [nV]
  | succ k ih =>
    intro h
    have h1 := ih (fun j hj => h j (by omega))
    have h2 := h k (by omega)
    unfold nV
    by_cases hk : k < 6
    · rw [if_pos hk]
      rcases (show k = 0 ∨ k = 1 ∨ k = 2 ∨ k = 3 ∨ k = 4 ∨ k = 5 by omega) with e | e | e | e | e | e <;> subst e <;> omega
    · rw [if_neg hk]
      omega
theorem tV_rng (B : Int → Int) (n q : Int) : 0 ≤ tV B n q ∧ tV B n q ≤ 999999 := by
  by_cases h : q < n ∧ pD (B q)
  · rw [tV_D h.1 h.2]
    have h1 := runD_spec B n q
    have := nV_rng (B := B) (q := q) (run bD B n q - q).toNat (fun j hj => (h1.2.2.1 (q + (j : Int)) (by omega) (by omega)).2)
    omega
  · rw [tV_0 h]
    omega
end TT
/-! the class's row of tokens -/
def tPre (B : Int → Int) (n : Int) (K P V : Int → Int) (m x : Int) : Prop :=
  (∀ j, 0 ≤ j → j < m → (0 ≤ P j ∧ P j < n) ∧ K j = tK B n (P j) ∧ V j = tV B n (P j) ∧ K j ≠ 256 ∧ K j ≠ 257) ∧ (∀ j, 0 ≤ j → j + 1 < m → P (j + 1) = tX B n (P j)) ∧ (0 < m → P 0 = run bW B n 0) ∧ run bW B n x = (if 0 < m then tX B n (P (m - 1)) else run bW B n 0)
def tRow (B : Int → Int) (n : Int) (K P V : Int → Int) (m : Int) : Prop :=
  1 ≤ m ∧ P 0 = run bW B n 0 ∧ (∀ j, 0 ≤ j → j < m → (0 ≤ P j ∧ P j ≤ n) ∧ K j = tK B n (P j) ∧ V j = tV B n (P j)) ∧ (∀ j, 0 ≤ j → j + 1 < m → P (j + 1) = tX B n (P j)) ∧ (K (m - 1) = 256 ∨ K (m - 1) = 257)
section TR
variable {B : Int → Int} {n : Int} {K P V : Int → Int} {m x y a b : Int}
theorem tPre0 : tPre B n K P V 0 0 := ⟨fun j h0 h1 => by omega, fun j h0 h1 => by omega, fun h => by omega, by rw [if_neg (by omega)]⟩
theorem tPre_ws (h : tPre B n K P V m x) (hx : x < n) (hw : pW (B x)) : tPre B n K P V m (x + 1) := ⟨h.1, h.2.1, h.2.2.1, by rw [← runW_step hx hw]; exact h.2.2.2⟩
theorem tPre_at (h : tPre B n K P V m x) {j : Int} (h0 : 0 ≤ j) (h1 : j < m) : K j ≠ 257 := (h.1 j h0 h1).2.2.2.2
theorem tPre_put (h : tPre B n K P V m x) (hm : 0 ≤ m) (hx0 : 0 ≤ x) (hx : x < n) (hw : ¬ pW (B x)) (hk : a = tK B n x) (hv : b = tV B n x) (h257 : a ≠ 257) (hy : y = tE B n x) : tPre B n (u1 K m a) (u1 P m x) (u1 V m b) (m + 1) y := by
  have e0 : run bW B n x = x := runW_stop (Or.inr hw)
  refine ⟨fun j h0 h1 => ?_, fun j h0 h1 => ?_, fun _ => ?_, ?_⟩
  · by_cases e : j = m
    · subst e
      rw [u1_s, u1_s, u1_s]
      exact ⟨⟨hx0, hx⟩, hk, hv, fun h => by have := (tK_end (B := B)).mp (hk.symm.trans h); omega, h257⟩
    · rw [u1_n e, u1_n e, u1_n e]
      exact h.1 j h0 (by omega)
  · by_cases e : j + 1 = m
    · rw [e, u1_s, u1_n (by omega)]
      have h3 := h.2.2.2
      rw [if_pos (by omega), e0] at h3
      rw [show j = m - 1 by omega]
      exact h3
    · rw [u1_n e, u1_n (by omega)]
      exact h.2.1 j h0 (by omega)
  · by_cases e : (0 : Int) = m
    · rw [← e, u1_s]
      have h3 := h.2.2.2
      rw [if_neg (by omega), e0] at h3
      exact h3
    · rw [u1_n e]
      exact h.2.2.1 (by omega)
  · rw [if_pos (by omega), show m + 1 - 1 = m by omega, u1_s, hy]
    rfl
theorem tPre_end (h : tPre B n K P V m x) (hm : 0 ≤ m) (hx0 : 0 ≤ x) (hx : x ≤ n) (hw : n ≤ x ∨ ¬ pW (B x)) (hk : a = tK B n x) (hv : b = tV B n x) (ha : a = 256 ∨ a = 257) : tRow B n (u1 K m a) (u1 P m x) (u1 V m b) (m + 1) := by
  have e0 : run bW B n x = x := runW_stop hw
  refine ⟨by omega, ?_, fun j h0 h1 => ?_, fun j h0 h1 => ?_, ?_⟩
  · by_cases e : (0 : Int) = m
    · rw [← e, u1_s]
      have h3 := h.2.2.2
      rw [if_neg (by omega), e0] at h3
      exact h3
    · rw [u1_n e]
      exact h.2.2.1 (by omega)
  · by_cases e : j = m
    · subst e
      rw [u1_s, u1_s, u1_s]
      exact ⟨⟨hx0, hx⟩, hk, hv⟩
    · rw [u1_n e, u1_n e, u1_n e]
      have := h.1 j h0 (by omega)
      exact ⟨⟨this.1.1, Int.le_of_lt this.1.2⟩, this.2.1, this.2.2.1⟩
  · by_cases e : j + 1 = m
    · rw [e, u1_s, u1_n (by omega)]
      have h3 := h.2.2.2
      rw [if_pos (by omega), e0] at h3
      rw [show j = m - 1 by omega]
      exact h3
    · rw [u1_n e, u1_n (by omega)]
      exact h.2.1 j h0 (by omega)
  · rw [show m + 1 - 1 = m by omega, u1_s]
    exact ha
/-- the reader stands at the token that begins at p -/
def tAt (B : Int → Int) (n : Int) (K P V : Int → Int) (m at_ p : Int) : Prop := tRow B n K P V m ∧ 0 ≤ at_ ∧ at_ < m ∧ P at_ = p
theorem tAt.p {at_ p : Int} (h : tAt B n K P V m at_ p) : (0 ≤ at_ ∧ at_ < m) ∧ P at_ = p ∧ K at_ = tK B n p ∧ V at_ = tV B n p ∧ 0 ≤ p ∧ p ≤ n := by
  have := h.1.2.2.1 at_ h.2.1 h.2.2.1
  rw [h.2.2.2] at this
  exact ⟨⟨h.2.1, h.2.2.1⟩, h.2.2.2, this.2.1, this.2.2, this.1.1, this.1.2⟩
theorem tAt.up {at_ p : Int} (h : tAt B n K P V m at_ p) (h1 : tK B n p ≠ 256) (h2 : tK B n p ≠ 257) : at_ + 1 < m ∧ tAt B n K P V m (at_ + 1) (tX B n p) := by
  have h3 := h.p
  have h4 : at_ + 1 < m := by
    by_cases e : at_ = m - 1
    · have := h.1.2.2.2.2
      rw [← e, h3.2.2.1] at this
      rcases this with h | h
      · exact absurd h h1
      · exact absurd h h2
    · omega
  refine ⟨h4, h.1, by omega, h4, ?_⟩
  rw [h.1.2.2.2.1 at_ h3.1.1 h4, h3.2.1]
theorem tAt0 (h : tRow B n K P V m) : tAt B n K P V m 0 (run bW B n 0) := ⟨h, Int.le_refl 0, by have := h.1; omega, h.2.1⟩
end TR
end

section
/-! a law of a round on its way; the static rows -/
theorem gE_cl {a : Int} (h0 : 0 ≤ a) (h1 : a ≤ 2147483647) : (iI a).toNatClampNeg = a.toNat := by
  have := iI_cl h0 h1
  omega
theorem gElo_r (j : Nat) : 0 ≤ gElo j ∧ gElo j ≤ 999 := by
  match j with
  | 0 => decide
  | 1 => decide
  | 2 => decide
  | 3 => decide
  | j + 4 => simp [gElo]
theorem gEhi_r (j : Nat) : 0 ≤ gEhi j ∧ gEhi j ≤ 999 := by
  match j with
  | 0 => decide
  | 1 => decide
  | 2 => decide
  | 3 => decide
  | j + 4 => simp [gEhi]
def shPart (n : Int) (a : Int → Int) (x : Int) : Prop := ∀ j : Nat, (j : Int) < x → gElo j ≤ a (n * 4 + (j : Int)) ∧ a (n * 4 + (j : Int)) ≤ gEhi j
theorem shPart0 {n : Int} {a : Int → Int} : shPart n a 0 := fun j h => by omega
theorem sh00 {a : Int → Int} : shOk 0 a := fun r h0 h1 => by omega
theorem shBack {n x y : Int} {a : Int → Int} (h : shOk n a ∧ shPart n a x) (hx : 0 ≤ x ∧ x < 4) (hlo : gElo x.toNat ≤ y) (hhi : y ≤ gEhi x.toNat) : shOk n (u1 a (n * 4 + x) y) ∧ shPart n (u1 a (n * 4 + x) y) (x + 1) := by
  refine ⟨fun r h0 h1 => ?_, fun j hj => ?_⟩
  · rw [u1_n (by omega), u1_n (by omega), u1_n (by omega), u1_n (by omega)]
    exact h.1 r h0 h1
  · by_cases e : (j : Int) = x
    · have e2 : x.toNat = j := by omega
      rw [e, u1_s]
      rw [e2] at hlo hhi
      exact ⟨hlo, hhi⟩
    · rw [u1_n (by omega)]
      exact h.2 j (by omega)
theorem shNew {n x : Int} {a : Int → Int} (h : shOk n a ∧ shPart n a x) (hx : 4 ≤ x) : shOk (n + 1) a := fun r h0 h1 => by
  by_cases e : r = n
  · subst e
    have q0 := h.2 0 (by omega)
    have q1 := h.2 1 (by omega)
    have q2 := h.2 2 (by omega)
    have q3 := h.2 3 (by omega)
    have e0 : gElo 0 = 1 ∧ gEhi 0 = 5 ∧ gElo 1 = 1 ∧ gEhi 1 = 9 ∧ gElo 2 = 10 ∧ gEhi 2 = 999 ∧ gElo 3 = 0 ∧ gEhi 3 = 999 := by decide
    have e1 : r * 4 + ((0 : Nat) : Int) = r * 4 := by omega
    have e2 : r * 4 + ((1 : Nat) : Int) = r * 4 + 1 := by omega
    have e3 : r * 4 + ((2 : Nat) : Int) = r * 4 + 2 := by omega
    have e4 : r * 4 + ((3 : Nat) : Int) = r * 4 + 3 := by omega
    rw [e1] at q0
    rw [e2] at q1
    rw [e3] at q2
    rw [e4] at q3
    exact ⟨⟨by omega, by omega⟩, ⟨by omega, by omega⟩, ⟨by omega, by omega⟩, ⟨by omega, by omega⟩⟩
  · exact h.1 r h0 (by omega)
theorem shCpy {n : Int} {a b : Int → Int} (h : shOk n a) (hn : n ≤ 4) : shOk n (gcpy 16 a b) := fun r h0 h1 => by
  have q := h r h0 h1
  have e : ∀ k, 0 ≤ k → k < 16 → gcpy 16 a b k = a k := fun k k0 k1 => if_pos ⟨k0, k1⟩
  rw [e _ (by omega) (by omega), e _ (by omega) (by omega), e _ (by omega) (by omega), e _ (by omega) (by omega)]
  exact q
theorem bgClear {a : Int → Int} : ∀ k, 0 ≤ k → k < 20 → gfill a 20 0 k ≤ 0 := fun k h0 h1 => by
  have e : gfill a 20 0 k = 0 := if_pos ⟨h0, h1⟩
  omega
end

section
/-! steps of the word's search, of a number -/
theorem gEt_at {i : Int} (h0 : 0 ≤ i) (h1 : i < 97) : gEt.drop i.toNat = gEch i :: gEt.drop (i + 1).toNat := by
  have := gEt_ch i.toNat (by omega)
  rw [this, show (i + 1).toNat = i.toNat + 1 by omega]
  rfl
theorem wl_ne {B : Int → Int} {q e k a s i : Int} (h0 : 0 ≤ i) (h1 : i < 97) (hc : gEch i ≠ 32) : wl B q e (gEt.drop i.toNat) k a s = wl B q e (gEt.drop (i + 1).toNat) k (a + 1) (if s ≠ 0 ∧ a < e ∧ B a = gEch i then 1 else 0) := by
  rw [gEt_at h0 h1]
  conv => lhs; unfold wl
  rw [if_pos hc]
theorem wl_sp {B : Int → Int} {q e k a s i : Int} (h0 : 0 ≤ i) (h1 : i < 97) (hc : gEch i = 32) : wl B q e (gEt.drop i.toNat) k a s = if s ≠ 0 ∧ a = e then k else wl B q e (gEt.drop (i + 1).toNat) (k + 1) q 1 := by
  rw [gEt_at h0 h1]
  conv => lhs; unfold wl
  rw [if_neg (fun h => h hc)]
theorem wl_end {B : Int → Int} {q e k a s i : Int} (h1 : 97 ≤ i) (h2 : i ≤ 97) : wl B q e (gEt.drop i.toNat) k a s = 259 := by
  rw [show i = 97 by omega, show gEt.drop (97 : Int).toNat = [] from rfl]
  rfl
theorem nV_up {B : Int → Int} {a x : Int} (h : a ≤ x) : nV B a (x + 1 - a).toNat = if x - a < 6 then 10 * nV B a (x - a).toNat + B x - 48 else nV B a (x - a).toNat := by
  rw [show (x + 1 - a).toNat = (x - a).toNat + 1 by omega]
  conv => lhs; unfold nV
  rw [show a + (((x - a).toNat : Nat) : Int) = x by omega]
  by_cases h1 : x - a < 6
  · rw [if_pos h1, if_pos (by omega)]
  · rw [if_neg h1, if_neg (by omega)]
theorem runD_mem {B : Int → Int} {a x : Int} (h : ∀ j, a ≤ j → j < x → pD (B j)) (h0 : a ≤ x) : ∀ j : Nat, j < (x - a).toNat → pD (B (a + (j : Int))) := fun j hj => h _ (by omega) (by omega)
theorem run_snoc {P : Int → Prop} {B : Int → Int} {a x n : Int} (h : ∀ j, a ≤ j → j < x → j < n ∧ P (B j)) (h1 : x < n) (h2 : P (B x)) : ∀ j, a ≤ j → j < x + 1 → j < n ∧ P (B j) := fun j b1 b2 => by
  by_cases e : j = x
  · subst e; exact ⟨h1, h2⟩
  · exact h j b1 (by omega)
theorem run_none {P : Int → Prop} {B : Int → Int} {a n : Int} : ∀ j, a ≤ j → j < a → j < n ∧ P (B j) := fun j b1 b2 => by omega
end

section
/-! the reference's token -/
theorem hs_up {B : Int → Int} {a x : Int} (h : a ≤ x) : hs B a (x + 1 - a).toNat = if x - a < 12 then 32 * hs B a (x - a).toNat + B x - 96 else -1 := by
  rw [show (x + 1 - a).toNat = (x - a).toNat + 1 by omega]
  unfold hs
  by_cases h1 : x - a < 12
  · rw [if_pos h1, if_pos (by omega), if_pos (by omega)]
    show 32 * hsN _ _ + B (a + (((x - a).toNat : Nat) : Int)) - 96 = _
    rw [show a + (((x - a).toNat : Nat) : Int) = x by omega]
  · rw [if_neg h1, if_neg (by omega)]
theorem hsN_le {a : Nat → Int} : ∀ k, (∀ j, j < k → pL (a j)) → hsN a k < 32 ^ k := by
  intro k
  induction k with
  | zero => intro _; show (0 : Int) < 32 ^ 0; decide
  | succ k ih =>
    intro h
    have h1 := ih (fun j hj => h j (by omega))
    have h2 := h k (by omega)
    unfold hsN
    have e : (32 : Int) ^ (k + 1) = 32 * 32 ^ k := by rw [Int.pow_succ]; omega
    omega
theorem hs_rng {B : Int → Int} {q : Int} {k : Nat} (h : ∀ j : Nat, j < k → pL (B (q + (j : Int)))) : -1 ≤ hs B q k ∧ hs B q k ≤ 1152921504606846976 := by
  unfold hs
  by_cases hk : k ≤ 12
  · rw [if_pos hk]
    have h1 := hsN_pos (a := fun j => B (q + (j : Int))) k h
    have h2 := hsN_le (a := fun j => B (q + (j : Int))) k h
    have h3 : (32 : Int) ^ k ≤ 32 ^ 12 := by
      have : (32 : Nat) ^ k ≤ 32 ^ 12 := Nat.pow_le_pow_right (by decide) hk
      exact_mod_cast this
    have h4 : (32 : Int) ^ 12 = 1152921504606846976 := by decide
    omega
  · rw [if_neg hk]
    decide
def tokC (B : Int → Int) (n p so nu w : Int) : Prop :=
  (so = 0 ∧ tK B n p = 256) ∨ (so = 4 ∧ tK B n p = 257) ∨ (so = 2 ∧ tK B n p = 258 ∧ nu = tV B n p) ∨ (so = 3 ∧ tK B n p = nu ∧ nu < 256) ∨ (so = 1 ∧ (259 ≤ tK B n p ∧ tK B n p ≤ 277) ∧ (-1 ≤ w ∧ w ≤ 1152921504606846976) ∧ ∀ i : Nat, i < 18 → (tK B n p = 260 + (i : Int) ↔ w = hW i))
def mAt (B : Int → Int) (n a bh so nu w p : Int) : Prop := a = p ∧ 0 ≤ p ∧ p ≤ n ∧ bh = tE B n p ∧ tokC B n p so nu w
section MT
variable {B : Int → Int} {n p y so nu w : Int}
theorem tok_end (h : n ≤ p) : tokC B n p 0 nu w := Or.inl ⟨rfl, tK_N h⟩
theorem tok_word (h : p < n) (hl : pL (B p)) (hr : run bL B n p = y) (hw : w = hs B p (y - p).toNat) : tokC B n p 1 nu w ∧ y = tE B n p := by
  have hs1 := runL_spec B n p
  rw [hr] at hs1
  refine ⟨Or.inr (Or.inr (Or.inr (Or.inr ⟨rfl, ?_, ?_, fun i hi => ?_⟩))), by rw [tE_L h hl, hr]⟩
  · rw [tK_L h hl]; exact wK_rng _ _ _
  · rw [hw]; exact hs_rng (fun j hj => (hs1.2.2.1 _ (by omega) (by omega)).2)
  · rw [tK_L h hl, hr, hw]
    exact wK_hs hs1.1 (fun j a b => (hs1.2.2.1 j a b).2) i hi
theorem tok_num (h : p < n) (hl : pD (B p)) (hr : run bD B n p = y) (hw : nu = nV B p (y - p).toNat) : (y - p ≤ 6 → tokC B n p 2 nu w) ∧ (6 < y - p → tokC B n p 4 nu w) ∧ y = tE B n p := by
  refine ⟨fun h1 => Or.inr (Or.inr (Or.inl ⟨rfl, ?_, ?_⟩)), fun h1 => Or.inr (Or.inl ⟨rfl, ?_⟩), by rw [tE_D h hl, hr]⟩
  · rw [tK_D h hl, hr, if_neg (by omega)]
  · rw [tV_D h hl, hr, hw]
  · rw [tK_D h hl, hr, if_pos (by omega)]
theorem tok_sign (h : p < n) (hn : nu = B p) (hs : pS (B p)) : tokC B n p 3 nu w ∧ p + 1 = tE B n p := ⟨Or.inr (Or.inr (Or.inr (Or.inl ⟨rfl, by rw [tK_S h hs, hn], by omega⟩))), by rw [tE_S h (by omega) (by omega)]⟩
theorem tok_bad (h : p < n) (h1 : ¬ pL (B p)) (h2 : ¬ pD (B p)) (h3 : ¬ pS (B p)) : tokC B n p 4 nu w ∧ p + 1 = tE B n p := ⟨Or.inr (Or.inl ⟨rfl, tK_B h h1 h2 h3⟩), by rw [tE_S h h1 h2]⟩
/-- what a caller may ask of the token -/
theorem mAt.of {a bh : Int} (h : mAt B n a bh so nu w p) : a = p ∧ (0 ≤ p ∧ p ≤ n) ∧ bh = tE B n p ∧ (so = 4 ↔ tK B n p = 257) ∧ (so = 0 ↔ tK B n p = 256) ∧ (so = 2 ↔ tK B n p = 258) ∧ (so = 3 ↔ tK B n p < 256) ∧ (so = 1 ↔ 259 ≤ tK B n p) ∧ (so = 2 → nu = tV B n p) ∧ (so = 3 → nu = tK B n p) ∧ (so = 1 → -1 ≤ w ∧ w ≤ 1152921504606846976) := by
  have hr := tK_rng B n p
  obtain ⟨h1, h2, h3, h4, h5⟩ := h
  refine ⟨h1, ⟨h2, h3⟩, h4, ?_⟩
  rcases h5 with h | h | h | h | h
  · omega
  · omega
  · obtain ⟨a1, a2, a3⟩ := h; omega
  · omega
  · obtain ⟨a1, a2, a3, -⟩ := h; omega
theorem mAt.wd {a bh : Int} (h : mAt B n a bh so nu w p) (i : Nat) (hi : i < 18) : (so = 1 ∧ w = hW i) ↔ tK B n p = 260 + (i : Int) := by
  have hr := tK_rng B n p
  have h6 := h.of
  obtain ⟨h1, h2, h3, h4, h5⟩ := h
  rcases h5 with h | h | h | h | h
  · omega
  · omega
  · obtain ⟨a1, a2, a3⟩ := h; omega
  · omega
  · obtain ⟨a1, a2, -, a3⟩ := h
    rw [a3 i hi]
    exact ⟨fun h => h.2, fun h => ⟨a1, h⟩⟩
theorem mAt.bh {a bh : Int} (h : mAt B n a bh so nu w p) : run bW B n bh = tX B n p := by rw [h.2.2.2.1]; rfl
theorem mAt.le {a bh : Int} (h : mAt B n a bh so nu w p) : 0 ≤ bh ∧ bh ≤ n := by
  have h1 := h.of
  rw [h1.2.2.1]
  by_cases e : p < n
  · have := tE_up (B := B) e
    omega
  · rw [tE_N (by omega)]
    omega
end MT
def stp (w x : Int) : Int := if 0 < x then w * 32 + x - 96 else w
theorem stp_p {w x : Int} (h : 0 < x) : stp w x = w * 32 + x - 96 := if_pos h
theorem stp_n {w x : Int} (h : ¬ 0 < x) : stp w x = w := if_neg h
def spW (a b c d e f g : Int) : Int := stp (stp (stp (stp (stp (stp (a - 96) b) c) d) e) f) g
abbrev inL (a : Int) : Prop := -9223372036854775808 ≤ a ∧ a ≤ 9223372036854775807
theorem iL_toInt {a : Int} (h : inL a) : (iL a).toInt = a := Int64.toInt_ofInt_of_le (by have := h.1; omega) (by have := h.2; omega)
theorem lg_cmpE {a b : Int} (ha : inL a) (hb : inL b) : lg_cmp (iL a) (iL b) = if b < a then 1 else if a = b then 0 else -1 := by
  unfold lg_cmp
  have e1 : iL a > iL b ↔ b < a := by
    show iL b < iL a ↔ b < a
    rw [Int64.lt_iff_toInt_lt, iL_toInt ha, iL_toInt hb]
  have e2 : iL a = iL b ↔ a = b := by rw [← Int64.toInt_inj, iL_toInt ha, iL_toInt hb]
  by_cases h1 : b < a
  · rw [if_pos h1, if_pos (e1.mpr h1)]
  · rw [if_neg h1, if_neg (fun h => h1 (e1.mp h))]
    by_cases h2 : a = b
    · rw [if_pos h2, if_pos (e2.mpr h2)]
    · rw [if_neg h2, if_neg (fun h => h2 (e2.mp h))]
section GLc
variable {p : Program} {l : Launch} {e : Env} {R : Room} {s : State} {m : MethodId} {args : Array Value} {below : List Frame} {meth : Method} {c : Code} {H : Heap} {locs : List Loc} {cells slots : Nat} {Q : State → Prop}
variable {cc : ByteArray} {pc : Nat} {ls : Array Slot} {rest : List Value} {a b : Int}
theorem gl_cmpE (hx : p.tables.exec = Jvm.exec) (hb : c.code = cc) (ha : inL a) (hbb : inL b) (hdg : decode cc pc = .ok (.lcmp, 1)) (k : ∀ z : Int, ((z = 0 ↔ a = b) ∧ (z < 0 ↔ a < b) ∧ -1 ≤ z ∧ z ≤ 1) → W p l e R s m args below meth c H locs cells slots Q (F0 m (pc + 1) ls (.int (iI z) :: rest))) : W p l e R s m args below meth c H locs cells slots Q (F0 m pc ls (.long (iL b) :: .long (iL a) :: rest)) := by
  refine W.lcmp hx hb hdg ?_
  rw [lg_cmpE ha hbb]
  by_cases h1 : b < a
  · rw [if_pos h1]
    exact k 1 (by omega)
  · rw [if_neg h1]
    by_cases h2 : a = b
    · rw [if_pos h2]
      exact k 0 (by omega)
    · rw [if_neg h2]
      exact k (-1) (by omega)
end GLc
end

section
theorem dG_dX6_split_0 : (decode cX6_split 0 = .ok (.aload_n 0, 1)) ∧ (decode cX6_split 1 = .ok (.iconst 0, 1)) ∧ (decode cX6_split 2 = .ok (.putfield 21, 3)) ∧ (decode cX6_split 5 = .ok (.aload_n 0, 1)) ∧ (decode cX6_split 6 = .ok (.iconst 0, 1)) ∧ (decode cX6_split 7 = .ok (.putfield 25, 3)) ∧ (decode cX6_split 10 = .ok (.iconst 0, 1)) ∧ (decode cX6_split 11 = .ok (.istore_n 3, 1)) ∧ (decode cX6_split 12 = .ok (.iconst 0, 1)) ∧ (decode cX6_split 13 = .ok (.istore 4, 2)) ∧ (decode cX6_split 15 = .ok (.iload 4, 2)) ∧ (decode cX6_split 17 = .ok (.iload_n 2, 1)) := by decide +kernel
theorem dX6_split_0 : decode cX6_split 0 = .ok (.aload_n 0, 1) := dG_dX6_split_0.1
theorem dX6_split_1 : decode cX6_split 1 = .ok (.iconst 0, 1) := dG_dX6_split_0.2.1
theorem dX6_split_2 : decode cX6_split 2 = .ok (.putfield 21, 3) := dG_dX6_split_0.2.2.1
theorem dX6_split_5 : decode cX6_split 5 = .ok (.aload_n 0, 1) := dG_dX6_split_0.2.2.2.1
theorem dX6_split_6 : decode cX6_split 6 = .ok (.iconst 0, 1) := dG_dX6_split_0.2.2.2.2.1
theorem dX6_split_7 : decode cX6_split 7 = .ok (.putfield 25, 3) := dG_dX6_split_0.2.2.2.2.2.1
theorem dX6_split_10 : decode cX6_split 10 = .ok (.iconst 0, 1) := dG_dX6_split_0.2.2.2.2.2.2.1
theorem dX6_split_11 : decode cX6_split 11 = .ok (.istore_n 3, 1) := dG_dX6_split_0.2.2.2.2.2.2.2.1
theorem dX6_split_12 : decode cX6_split 12 = .ok (.iconst 0, 1) := dG_dX6_split_0.2.2.2.2.2.2.2.2.1
theorem dX6_split_13 : decode cX6_split 13 = .ok (.istore 4, 2) := dG_dX6_split_0.2.2.2.2.2.2.2.2.2.1
theorem dX6_split_15 : decode cX6_split 15 = .ok (.iload 4, 2) := dG_dX6_split_0.2.2.2.2.2.2.2.2.2.2.1
theorem dX6_split_17 : decode cX6_split 17 = .ok (.iload_n 2, 1) := dG_dX6_split_0.2.2.2.2.2.2.2.2.2.2.2
theorem dG_dX6_split_18 : (decode cX6_split 18 = .ok (.if_icmp .ge 127, 3)) ∧ (decode cX6_split 21 = .ok (.iload_n 3, 1)) ∧ (decode cX6_split 22 = .ok (.iload_n 2, 1)) ∧ (decode cX6_split 23 = .ok (.if_icmp .ge 122, 3)) ∧ (decode cX6_split 26 = .ok (.aload_n 1, 1)) ∧ (decode cX6_split 27 = .ok (.iload_n 3, 1)) ∧ (decode cX6_split 28 = .ok (.iaload, 1)) ∧ (decode cX6_split 29 = .ok (.istore 5, 2)) ∧ (decode cX6_split 31 = .ok (.iload 5, 2)) ∧ (decode cX6_split 33 = .ok (.bipush 32, 2)) ∧ (decode cX6_split 35 = .ok (.if_icmp .eq 10, 3)) ∧ (decode cX6_split 38 = .ok (.iload 5, 2)) := by decide +kernel
theorem dX6_split_18 : decode cX6_split 18 = .ok (.if_icmp .ge 127, 3) := dG_dX6_split_18.1
theorem dX6_split_21 : decode cX6_split 21 = .ok (.iload_n 3, 1) := dG_dX6_split_18.2.1
theorem dX6_split_22 : decode cX6_split 22 = .ok (.iload_n 2, 1) := dG_dX6_split_18.2.2.1
theorem dX6_split_23 : decode cX6_split 23 = .ok (.if_icmp .ge 122, 3) := dG_dX6_split_18.2.2.2.1
theorem dX6_split_26 : decode cX6_split 26 = .ok (.aload_n 1, 1) := dG_dX6_split_18.2.2.2.2.1
theorem dX6_split_27 : decode cX6_split 27 = .ok (.iload_n 3, 1) := dG_dX6_split_18.2.2.2.2.2.1
theorem dX6_split_28 : decode cX6_split 28 = .ok (.iaload, 1) := dG_dX6_split_18.2.2.2.2.2.2.1
theorem dX6_split_29 : decode cX6_split 29 = .ok (.istore 5, 2) := dG_dX6_split_18.2.2.2.2.2.2.2.1
theorem dX6_split_31 : decode cX6_split 31 = .ok (.iload 5, 2) := dG_dX6_split_18.2.2.2.2.2.2.2.2.1
theorem dX6_split_33 : decode cX6_split 33 = .ok (.bipush 32, 2) := dG_dX6_split_18.2.2.2.2.2.2.2.2.2.1
theorem dX6_split_35 : decode cX6_split 35 = .ok (.if_icmp .eq 10, 3) := dG_dX6_split_18.2.2.2.2.2.2.2.2.2.2.1
theorem dX6_split_38 : decode cX6_split 38 = .ok (.iload 5, 2) := dG_dX6_split_18.2.2.2.2.2.2.2.2.2.2.2
theorem dG_dX6_split_40 : (decode cX6_split 40 = .ok (.bipush 10, 2)) ∧ (decode cX6_split 42 = .ok (.if_icmp .ne 9, 3)) ∧ (decode cX6_split 45 = .ok (.iinc 3 1, 3)) ∧ (decode cX6_split 48 = .ok (.goto 66, 3)) ∧ (decode cX6_split 51 = .ok (.iload 5, 2)) ∧ (decode cX6_split 53 = .ok (.invokestatic 28, 3)) ∧ (decode cX6_split 56 = .ok (.ifCond .eq 14, 3)) ∧ (decode cX6_split 59 = .ok (.aload_n 0, 1)) ∧ (decode cX6_split 60 = .ok (.aload_n 1, 1)) ∧ (decode cX6_split 61 = .ok (.iload_n 3, 1)) ∧ (decode cX6_split 62 = .ok (.iload_n 2, 1)) ∧ (decode cX6_split 63 = .ok (.invokevirtual 32, 3)) := by decide +kernel
theorem dX6_split_40 : decode cX6_split 40 = .ok (.bipush 10, 2) := dG_dX6_split_40.1
theorem dX6_split_42 : decode cX6_split 42 = .ok (.if_icmp .ne 9, 3) := dG_dX6_split_40.2.1
theorem dX6_split_45 : decode cX6_split 45 = .ok (.iinc 3 1, 3) := dG_dX6_split_40.2.2.1
theorem dX6_split_48 : decode cX6_split 48 = .ok (.goto 66, 3) := dG_dX6_split_40.2.2.2.1
theorem dX6_split_51 : decode cX6_split 51 = .ok (.iload 5, 2) := dG_dX6_split_40.2.2.2.2.1
theorem dX6_split_53 : decode cX6_split 53 = .ok (.invokestatic 28, 3) := dG_dX6_split_40.2.2.2.2.2.1
theorem dX6_split_56 : decode cX6_split 56 = .ok (.ifCond .eq 14, 3) := dG_dX6_split_40.2.2.2.2.2.2.1
theorem dX6_split_59 : decode cX6_split 59 = .ok (.aload_n 0, 1) := dG_dX6_split_40.2.2.2.2.2.2.2.1
theorem dX6_split_60 : decode cX6_split 60 = .ok (.aload_n 1, 1) := dG_dX6_split_40.2.2.2.2.2.2.2.2.1
theorem dX6_split_61 : decode cX6_split 61 = .ok (.iload_n 3, 1) := dG_dX6_split_40.2.2.2.2.2.2.2.2.2.1
theorem dX6_split_62 : decode cX6_split 62 = .ok (.iload_n 2, 1) := dG_dX6_split_40.2.2.2.2.2.2.2.2.2.2.1
theorem dX6_split_63 : decode cX6_split 63 = .ok (.invokevirtual 32, 3) := dG_dX6_split_40.2.2.2.2.2.2.2.2.2.2.2
theorem dG_dX6_split_66 : (decode cX6_split 66 = .ok (.istore_n 3, 1)) ∧ (decode cX6_split 67 = .ok (.goto 47, 3)) ∧ (decode cX6_split 70 = .ok (.iload 5, 2)) ∧ (decode cX6_split 72 = .ok (.invokestatic 36, 3)) ∧ (decode cX6_split 75 = .ok (.ifCond .eq 14, 3)) ∧ (decode cX6_split 78 = .ok (.aload_n 0, 1)) ∧ (decode cX6_split 79 = .ok (.aload_n 1, 1)) ∧ (decode cX6_split 80 = .ok (.iload_n 3, 1)) ∧ (decode cX6_split 81 = .ok (.iload_n 2, 1)) ∧ (decode cX6_split 82 = .ok (.invokevirtual 39, 3)) ∧ (decode cX6_split 85 = .ok (.istore_n 3, 1)) ∧ (decode cX6_split 86 = .ok (.goto 28, 3)) := by decide +kernel
theorem dX6_split_66 : decode cX6_split 66 = .ok (.istore_n 3, 1) := dG_dX6_split_66.1
theorem dX6_split_67 : decode cX6_split 67 = .ok (.goto 47, 3) := dG_dX6_split_66.2.1
theorem dX6_split_70 : decode cX6_split 70 = .ok (.iload 5, 2) := dG_dX6_split_66.2.2.1
theorem dX6_split_72 : decode cX6_split 72 = .ok (.invokestatic 36, 3) := dG_dX6_split_66.2.2.2.1
theorem dX6_split_75 : decode cX6_split 75 = .ok (.ifCond .eq 14, 3) := dG_dX6_split_66.2.2.2.2.1
theorem dX6_split_78 : decode cX6_split 78 = .ok (.aload_n 0, 1) := dG_dX6_split_66.2.2.2.2.2.1
theorem dX6_split_79 : decode cX6_split 79 = .ok (.aload_n 1, 1) := dG_dX6_split_66.2.2.2.2.2.2.1
theorem dX6_split_80 : decode cX6_split 80 = .ok (.iload_n 3, 1) := dG_dX6_split_66.2.2.2.2.2.2.2.1
theorem dX6_split_81 : decode cX6_split 81 = .ok (.iload_n 2, 1) := dG_dX6_split_66.2.2.2.2.2.2.2.2.1
theorem dX6_split_82 : decode cX6_split 82 = .ok (.invokevirtual 39, 3) := dG_dX6_split_66.2.2.2.2.2.2.2.2.2.1
theorem dX6_split_85 : decode cX6_split 85 = .ok (.istore_n 3, 1) := dG_dX6_split_66.2.2.2.2.2.2.2.2.2.2.1
theorem dX6_split_86 : decode cX6_split 86 = .ok (.goto 28, 3) := dG_dX6_split_66.2.2.2.2.2.2.2.2.2.2.2
theorem dG_dX6_split_89 : (decode cX6_split 89 = .ok (.aload_n 0, 1)) ∧ (decode cX6_split 90 = .ok (.iload 5, 2)) ∧ (decode cX6_split 92 = .ok (.invokestatic 42, 3)) ∧ (decode cX6_split 95 = .ok (.ifCond .eq 8, 3)) ∧ (decode cX6_split 98 = .ok (.iload 5, 2)) ∧ (decode cX6_split 100 = .ok (.goto 6, 3)) ∧ (decode cX6_split 103 = .ok (.sipush 257, 3)) ∧ (decode cX6_split 106 = .ok (.iload_n 3, 1)) ∧ (decode cX6_split 107 = .ok (.iconst 0, 1)) ∧ (decode cX6_split 108 = .ok (.invokevirtual 45, 3)) ∧ (decode cX6_split 111 = .ok (.iinc 3 1, 3)) ∧ (decode cX6_split 114 = .ok (.aload_n 0, 1)) := by decide +kernel
theorem dX6_split_89 : decode cX6_split 89 = .ok (.aload_n 0, 1) := dG_dX6_split_89.1
theorem dX6_split_90 : decode cX6_split 90 = .ok (.iload 5, 2) := dG_dX6_split_89.2.1
theorem dX6_split_92 : decode cX6_split 92 = .ok (.invokestatic 42, 3) := dG_dX6_split_89.2.2.1
theorem dX6_split_95 : decode cX6_split 95 = .ok (.ifCond .eq 8, 3) := dG_dX6_split_89.2.2.2.1
theorem dX6_split_98 : decode cX6_split 98 = .ok (.iload 5, 2) := dG_dX6_split_89.2.2.2.2.1
theorem dX6_split_100 : decode cX6_split 100 = .ok (.goto 6, 3) := dG_dX6_split_89.2.2.2.2.2.1
theorem dX6_split_103 : decode cX6_split 103 = .ok (.sipush 257, 3) := dG_dX6_split_89.2.2.2.2.2.2.1
theorem dX6_split_106 : decode cX6_split 106 = .ok (.iload_n 3, 1) := dG_dX6_split_89.2.2.2.2.2.2.2.1
theorem dX6_split_107 : decode cX6_split 107 = .ok (.iconst 0, 1) := dG_dX6_split_89.2.2.2.2.2.2.2.2.1
theorem dX6_split_108 : decode cX6_split 108 = .ok (.invokevirtual 45, 3) := dG_dX6_split_89.2.2.2.2.2.2.2.2.2.1
theorem dX6_split_111 : decode cX6_split 111 = .ok (.iinc 3 1, 3) := dG_dX6_split_89.2.2.2.2.2.2.2.2.2.2.1
theorem dX6_split_114 : decode cX6_split 114 = .ok (.aload_n 0, 1) := dG_dX6_split_89.2.2.2.2.2.2.2.2.2.2.2
theorem dG_dX6_split_115 : (decode cX6_split 115 = .ok (.getfield 25, 3)) ∧ (decode cX6_split 118 = .ok (.ifCond .le 21, 3)) ∧ (decode cX6_split 121 = .ok (.aload_n 0, 1)) ∧ (decode cX6_split 122 = .ok (.getfield 9, 3)) ∧ (decode cX6_split 125 = .ok (.aload_n 0, 1)) ∧ (decode cX6_split 126 = .ok (.getfield 25, 3)) ∧ (decode cX6_split 129 = .ok (.iconst 1, 1)) ∧ (decode cX6_split 130 = .ok (.isub, 1)) ∧ (decode cX6_split 131 = .ok (.iaload, 1)) ∧ (decode cX6_split 132 = .ok (.sipush 257, 3)) ∧ (decode cX6_split 135 = .ok (.if_icmp .ne 4, 3)) ∧ (decode cX6_split 138 = .ok (.return_, 1)) := by decide +kernel
theorem dX6_split_115 : decode cX6_split 115 = .ok (.getfield 25, 3) := dG_dX6_split_115.1
theorem dX6_split_118 : decode cX6_split 118 = .ok (.ifCond .le 21, 3) := dG_dX6_split_115.2.1
theorem dX6_split_121 : decode cX6_split 121 = .ok (.aload_n 0, 1) := dG_dX6_split_115.2.2.1
theorem dX6_split_122 : decode cX6_split 122 = .ok (.getfield 9, 3) := dG_dX6_split_115.2.2.2.1
theorem dX6_split_125 : decode cX6_split 125 = .ok (.aload_n 0, 1) := dG_dX6_split_115.2.2.2.2.1
theorem dX6_split_126 : decode cX6_split 126 = .ok (.getfield 25, 3) := dG_dX6_split_115.2.2.2.2.2.1
theorem dX6_split_129 : decode cX6_split 129 = .ok (.iconst 1, 1) := dG_dX6_split_115.2.2.2.2.2.2.1
theorem dX6_split_130 : decode cX6_split 130 = .ok (.isub, 1) := dG_dX6_split_115.2.2.2.2.2.2.2.1
theorem dX6_split_131 : decode cX6_split 131 = .ok (.iaload, 1) := dG_dX6_split_115.2.2.2.2.2.2.2.2.1
theorem dX6_split_132 : decode cX6_split 132 = .ok (.sipush 257, 3) := dG_dX6_split_115.2.2.2.2.2.2.2.2.2.1
theorem dX6_split_135 : decode cX6_split 135 = .ok (.if_icmp .ne 4, 3) := dG_dX6_split_115.2.2.2.2.2.2.2.2.2.2.1
theorem dX6_split_138 : decode cX6_split 138 = .ok (.return_, 1) := dG_dX6_split_115.2.2.2.2.2.2.2.2.2.2.2
theorem dG_dX6_split_139 : (decode cX6_split 139 = .ok (.iinc 4 1, 3)) ∧ (decode cX6_split 142 = .ok (.goto (-127), 3)) ∧ (decode cX6_split 145 = .ok (.aload_n 0, 1)) ∧ (decode cX6_split 146 = .ok (.sipush 256, 3)) ∧ (decode cX6_split 149 = .ok (.iload_n 2, 1)) ∧ (decode cX6_split 150 = .ok (.iconst 0, 1)) ∧ (decode cX6_split 151 = .ok (.invokevirtual 45, 3)) ∧ (decode cX6_split 154 = .ok (.return_, 1)) ∧ (decode cX6_put 0 = .ok (.aload_n 0, 1)) ∧ (decode cX6_put 1 = .ok (.getfield 25, 3)) ∧ (decode cX6_put 4 = .ok (.aload_n 0, 1)) ∧ (decode cX6_put 5 = .ok (.getfield 9, 3)) := by decide +kernel
theorem dX6_split_139 : decode cX6_split 139 = .ok (.iinc 4 1, 3) := dG_dX6_split_139.1
theorem dX6_split_142 : decode cX6_split 142 = .ok (.goto (-127), 3) := dG_dX6_split_139.2.1
theorem dX6_split_145 : decode cX6_split 145 = .ok (.aload_n 0, 1) := dG_dX6_split_139.2.2.1
theorem dX6_split_146 : decode cX6_split 146 = .ok (.sipush 256, 3) := dG_dX6_split_139.2.2.2.1
theorem dX6_split_149 : decode cX6_split 149 = .ok (.iload_n 2, 1) := dG_dX6_split_139.2.2.2.2.1
theorem dX6_split_150 : decode cX6_split 150 = .ok (.iconst 0, 1) := dG_dX6_split_139.2.2.2.2.2.1
theorem dX6_split_151 : decode cX6_split 151 = .ok (.invokevirtual 45, 3) := dG_dX6_split_139.2.2.2.2.2.2.1
theorem dX6_split_154 : decode cX6_split 154 = .ok (.return_, 1) := dG_dX6_split_139.2.2.2.2.2.2.2.1
theorem dX6_put_0 : decode cX6_put 0 = .ok (.aload_n 0, 1) := dG_dX6_split_139.2.2.2.2.2.2.2.2.1
theorem dX6_put_1 : decode cX6_put 1 = .ok (.getfield 25, 3) := dG_dX6_split_139.2.2.2.2.2.2.2.2.2.1
theorem dX6_put_4 : decode cX6_put 4 = .ok (.aload_n 0, 1) := dG_dX6_split_139.2.2.2.2.2.2.2.2.2.2.1
theorem dX6_put_5 : decode cX6_put 5 = .ok (.getfield 9, 3) := dG_dX6_split_139.2.2.2.2.2.2.2.2.2.2.2
theorem dG_dX6_put_8 : (decode cX6_put 8 = .ok (.arraylength, 1)) ∧ (decode cX6_put 9 = .ok (.if_icmp .ge 43, 3)) ∧ (decode cX6_put 12 = .ok (.aload_n 0, 1)) ∧ (decode cX6_put 13 = .ok (.getfield 9, 3)) ∧ (decode cX6_put 16 = .ok (.aload_n 0, 1)) ∧ (decode cX6_put 17 = .ok (.getfield 25, 3)) ∧ (decode cX6_put 20 = .ok (.iload_n 1, 1)) ∧ (decode cX6_put 21 = .ok (.iastore, 1)) ∧ (decode cX6_put 22 = .ok (.aload_n 0, 1)) ∧ (decode cX6_put 23 = .ok (.getfield 15, 3)) ∧ (decode cX6_put 26 = .ok (.aload_n 0, 1)) ∧ (decode cX6_put 27 = .ok (.getfield 25, 3)) := by decide +kernel
theorem dX6_put_8 : decode cX6_put 8 = .ok (.arraylength, 1) := dG_dX6_put_8.1
theorem dX6_put_9 : decode cX6_put 9 = .ok (.if_icmp .ge 43, 3) := dG_dX6_put_8.2.1
theorem dX6_put_12 : decode cX6_put 12 = .ok (.aload_n 0, 1) := dG_dX6_put_8.2.2.1
theorem dX6_put_13 : decode cX6_put 13 = .ok (.getfield 9, 3) := dG_dX6_put_8.2.2.2.1
theorem dX6_put_16 : decode cX6_put 16 = .ok (.aload_n 0, 1) := dG_dX6_put_8.2.2.2.2.1
theorem dX6_put_17 : decode cX6_put 17 = .ok (.getfield 25, 3) := dG_dX6_put_8.2.2.2.2.2.1
theorem dX6_put_20 : decode cX6_put 20 = .ok (.iload_n 1, 1) := dG_dX6_put_8.2.2.2.2.2.2.1
theorem dX6_put_21 : decode cX6_put 21 = .ok (.iastore, 1) := dG_dX6_put_8.2.2.2.2.2.2.2.1
theorem dX6_put_22 : decode cX6_put 22 = .ok (.aload_n 0, 1) := dG_dX6_put_8.2.2.2.2.2.2.2.2.1
theorem dX6_put_23 : decode cX6_put 23 = .ok (.getfield 15, 3) := dG_dX6_put_8.2.2.2.2.2.2.2.2.2.1
theorem dX6_put_26 : decode cX6_put 26 = .ok (.aload_n 0, 1) := dG_dX6_put_8.2.2.2.2.2.2.2.2.2.2.1
theorem dX6_put_27 : decode cX6_put 27 = .ok (.getfield 25, 3) := dG_dX6_put_8.2.2.2.2.2.2.2.2.2.2.2
theorem dG_dX6_put_30 : (decode cX6_put 30 = .ok (.iload_n 2, 1)) ∧ (decode cX6_put 31 = .ok (.iastore, 1)) ∧ (decode cX6_put 32 = .ok (.aload_n 0, 1)) ∧ (decode cX6_put 33 = .ok (.getfield 18, 3)) ∧ (decode cX6_put 36 = .ok (.aload_n 0, 1)) ∧ (decode cX6_put 37 = .ok (.getfield 25, 3)) ∧ (decode cX6_put 40 = .ok (.iload_n 3, 1)) ∧ (decode cX6_put 41 = .ok (.iastore, 1)) ∧ (decode cX6_put 42 = .ok (.aload_n 0, 1)) ∧ (decode cX6_put 43 = .ok (.dup, 1)) ∧ (decode cX6_put 44 = .ok (.getfield 25, 3)) ∧ (decode cX6_put 47 = .ok (.iconst 1, 1)) := by decide +kernel
theorem dX6_put_30 : decode cX6_put 30 = .ok (.iload_n 2, 1) := dG_dX6_put_30.1
theorem dX6_put_31 : decode cX6_put 31 = .ok (.iastore, 1) := dG_dX6_put_30.2.1
theorem dX6_put_32 : decode cX6_put 32 = .ok (.aload_n 0, 1) := dG_dX6_put_30.2.2.1
theorem dX6_put_33 : decode cX6_put 33 = .ok (.getfield 18, 3) := dG_dX6_put_30.2.2.2.1
theorem dX6_put_36 : decode cX6_put 36 = .ok (.aload_n 0, 1) := dG_dX6_put_30.2.2.2.2.1
theorem dX6_put_37 : decode cX6_put 37 = .ok (.getfield 25, 3) := dG_dX6_put_30.2.2.2.2.2.1
theorem dX6_put_40 : decode cX6_put 40 = .ok (.iload_n 3, 1) := dG_dX6_put_30.2.2.2.2.2.2.1
theorem dX6_put_41 : decode cX6_put 41 = .ok (.iastore, 1) := dG_dX6_put_30.2.2.2.2.2.2.2.1
theorem dX6_put_42 : decode cX6_put 42 = .ok (.aload_n 0, 1) := dG_dX6_put_30.2.2.2.2.2.2.2.2.1
theorem dX6_put_43 : decode cX6_put 43 = .ok (.dup, 1) := dG_dX6_put_30.2.2.2.2.2.2.2.2.2.1
theorem dX6_put_44 : decode cX6_put 44 = .ok (.getfield 25, 3) := dG_dX6_put_30.2.2.2.2.2.2.2.2.2.2.1
theorem dX6_put_47 : decode cX6_put 47 = .ok (.iconst 1, 1) := dG_dX6_put_30.2.2.2.2.2.2.2.2.2.2.2
theorem dG_dX6_put_48 : (decode cX6_put 48 = .ok (.iadd, 1)) ∧ (decode cX6_put 49 = .ok (.putfield 25, 3)) ∧ (decode cX6_put 52 = .ok (.return_, 1)) ∧ (decode cX6_putWord 0 = .ok (.iload_n 2, 1)) ∧ (decode cX6_putWord 1 = .ok (.istore 4, 2)) ∧ (decode cX6_putWord 3 = .ok (.iload 4, 2)) ∧ (decode cX6_putWord 5 = .ok (.iload_n 3, 1)) ∧ (decode cX6_putWord 6 = .ok (.if_icmp .ge 19, 3)) ∧ (decode cX6_putWord 9 = .ok (.aload_n 1, 1)) ∧ (decode cX6_putWord 10 = .ok (.iload 4, 2)) ∧ (decode cX6_putWord 12 = .ok (.iaload, 1)) ∧ (decode cX6_putWord 13 = .ok (.invokestatic 28, 3)) := by decide +kernel
theorem dX6_put_48 : decode cX6_put 48 = .ok (.iadd, 1) := dG_dX6_put_48.1
theorem dX6_put_49 : decode cX6_put 49 = .ok (.putfield 25, 3) := dG_dX6_put_48.2.1
theorem dX6_put_52 : decode cX6_put 52 = .ok (.return_, 1) := dG_dX6_put_48.2.2.1
theorem dX6_putWord_0 : decode cX6_putWord 0 = .ok (.iload_n 2, 1) := dG_dX6_put_48.2.2.2.1
theorem dX6_putWord_1 : decode cX6_putWord 1 = .ok (.istore 4, 2) := dG_dX6_put_48.2.2.2.2.1
theorem dX6_putWord_3 : decode cX6_putWord 3 = .ok (.iload 4, 2) := dG_dX6_put_48.2.2.2.2.2.1
theorem dX6_putWord_5 : decode cX6_putWord 5 = .ok (.iload_n 3, 1) := dG_dX6_put_48.2.2.2.2.2.2.1
theorem dX6_putWord_6 : decode cX6_putWord 6 = .ok (.if_icmp .ge 19, 3) := dG_dX6_put_48.2.2.2.2.2.2.2.1
theorem dX6_putWord_9 : decode cX6_putWord 9 = .ok (.aload_n 1, 1) := dG_dX6_put_48.2.2.2.2.2.2.2.2.1
theorem dX6_putWord_10 : decode cX6_putWord 10 = .ok (.iload 4, 2) := dG_dX6_put_48.2.2.2.2.2.2.2.2.2.1
theorem dX6_putWord_12 : decode cX6_putWord 12 = .ok (.iaload, 1) := dG_dX6_put_48.2.2.2.2.2.2.2.2.2.2.1
theorem dX6_putWord_13 : decode cX6_putWord 13 = .ok (.invokestatic 28, 3) := dG_dX6_put_48.2.2.2.2.2.2.2.2.2.2.2
theorem dG_dX6_putWord_16 : (decode cX6_putWord 16 = .ok (.ifCond .eq 9, 3)) ∧ (decode cX6_putWord 19 = .ok (.iinc 4 1, 3)) ∧ (decode cX6_putWord 22 = .ok (.goto (-19), 3)) ∧ (decode cX6_putWord 25 = .ok (.aload_n 0, 1)) ∧ (decode cX6_putWord 26 = .ok (.aload_n 1, 1)) ∧ (decode cX6_putWord 27 = .ok (.iload_n 2, 1)) ∧ (decode cX6_putWord 28 = .ok (.iload 4, 2)) ∧ (decode cX6_putWord 30 = .ok (.invokestatic 49, 3)) ∧ (decode cX6_putWord 33 = .ok (.iload_n 2, 1)) ∧ (decode cX6_putWord 34 = .ok (.iconst 0, 1)) ∧ (decode cX6_putWord 35 = .ok (.invokevirtual 45, 3)) ∧ (decode cX6_putWord 38 = .ok (.iload 4, 2)) := by decide +kernel
theorem dX6_putWord_16 : decode cX6_putWord 16 = .ok (.ifCond .eq 9, 3) := dG_dX6_putWord_16.1
theorem dX6_putWord_19 : decode cX6_putWord 19 = .ok (.iinc 4 1, 3) := dG_dX6_putWord_16.2.1
theorem dX6_putWord_22 : decode cX6_putWord 22 = .ok (.goto (-19), 3) := dG_dX6_putWord_16.2.2.1
theorem dX6_putWord_25 : decode cX6_putWord 25 = .ok (.aload_n 0, 1) := dG_dX6_putWord_16.2.2.2.1
theorem dX6_putWord_26 : decode cX6_putWord 26 = .ok (.aload_n 1, 1) := dG_dX6_putWord_16.2.2.2.2.1
theorem dX6_putWord_27 : decode cX6_putWord 27 = .ok (.iload_n 2, 1) := dG_dX6_putWord_16.2.2.2.2.2.1
theorem dX6_putWord_28 : decode cX6_putWord 28 = .ok (.iload 4, 2) := dG_dX6_putWord_16.2.2.2.2.2.2.1
theorem dX6_putWord_30 : decode cX6_putWord 30 = .ok (.invokestatic 49, 3) := dG_dX6_putWord_16.2.2.2.2.2.2.2.1
theorem dX6_putWord_33 : decode cX6_putWord 33 = .ok (.iload_n 2, 1) := dG_dX6_putWord_16.2.2.2.2.2.2.2.2.1
theorem dX6_putWord_34 : decode cX6_putWord 34 = .ok (.iconst 0, 1) := dG_dX6_putWord_16.2.2.2.2.2.2.2.2.2.1
theorem dX6_putWord_35 : decode cX6_putWord 35 = .ok (.invokevirtual 45, 3) := dG_dX6_putWord_16.2.2.2.2.2.2.2.2.2.2.1
theorem dX6_putWord_38 : decode cX6_putWord 38 = .ok (.iload 4, 2) := dG_dX6_putWord_16.2.2.2.2.2.2.2.2.2.2.2
theorem dG_dX6_putWord_40 : (decode cX6_putWord 40 = .ok (.ireturn, 1)) ∧ (decode cX6_wordKind 0 = .ok (.sipush 260, 3)) ∧ (decode cX6_wordKind 3 = .ok (.istore_n 3, 1)) ∧ (decode cX6_wordKind 4 = .ok (.iload_n 1, 1)) ∧ (decode cX6_wordKind 5 = .ok (.istore 4, 2)) ∧ (decode cX6_wordKind 7 = .ok (.iconst 1, 1)) ∧ (decode cX6_wordKind 8 = .ok (.istore 5, 2)) ∧ (decode cX6_wordKind 10 = .ok (.iconst 0, 1)) ∧ (decode cX6_wordKind 11 = .ok (.istore 6, 2)) ∧ (decode cX6_wordKind 13 = .ok (.iload 6, 2)) ∧ (decode cX6_wordKind 15 = .ok (.ldc 52, 2)) ∧ (decode cX6_wordKind 17 = .ok (.invokevirtual 54, 3)) := by decide +kernel
theorem dX6_putWord_40 : decode cX6_putWord 40 = .ok (.ireturn, 1) := dG_dX6_putWord_40.1
theorem dX6_wordKind_0 : decode cX6_wordKind 0 = .ok (.sipush 260, 3) := dG_dX6_putWord_40.2.1
theorem dX6_wordKind_3 : decode cX6_wordKind 3 = .ok (.istore_n 3, 1) := dG_dX6_putWord_40.2.2.1
theorem dX6_wordKind_4 : decode cX6_wordKind 4 = .ok (.iload_n 1, 1) := dG_dX6_putWord_40.2.2.2.1
theorem dX6_wordKind_5 : decode cX6_wordKind 5 = .ok (.istore 4, 2) := dG_dX6_putWord_40.2.2.2.2.1
theorem dX6_wordKind_7 : decode cX6_wordKind 7 = .ok (.iconst 1, 1) := dG_dX6_putWord_40.2.2.2.2.2.1
theorem dX6_wordKind_8 : decode cX6_wordKind 8 = .ok (.istore 5, 2) := dG_dX6_putWord_40.2.2.2.2.2.2.1
theorem dX6_wordKind_10 : decode cX6_wordKind 10 = .ok (.iconst 0, 1) := dG_dX6_putWord_40.2.2.2.2.2.2.2.1
theorem dX6_wordKind_11 : decode cX6_wordKind 11 = .ok (.istore 6, 2) := dG_dX6_putWord_40.2.2.2.2.2.2.2.2.1
theorem dX6_wordKind_13 : decode cX6_wordKind 13 = .ok (.iload 6, 2) := dG_dX6_putWord_40.2.2.2.2.2.2.2.2.2.1
theorem dX6_wordKind_15 : decode cX6_wordKind 15 = .ok (.ldc 52, 2) := dG_dX6_putWord_40.2.2.2.2.2.2.2.2.2.2.1
theorem dX6_wordKind_17 : decode cX6_wordKind 17 = .ok (.invokevirtual 54, 3) := dG_dX6_putWord_40.2.2.2.2.2.2.2.2.2.2.2
theorem dG_dX6_wordKind_20 : (decode cX6_wordKind 20 = .ok (.if_icmp .ge 80, 3)) ∧ (decode cX6_wordKind 23 = .ok (.ldc 52, 2)) ∧ (decode cX6_wordKind 25 = .ok (.iload 6, 2)) ∧ (decode cX6_wordKind 27 = .ok (.invokevirtual 60, 3)) ∧ (decode cX6_wordKind 30 = .ok (.istore 7, 2)) ∧ (decode cX6_wordKind 32 = .ok (.iload 7, 2)) ∧ (decode cX6_wordKind 34 = .ok (.bipush 32, 2)) ∧ (decode cX6_wordKind 36 = .ok (.if_icmp .eq 36, 3)) ∧ (decode cX6_wordKind 39 = .ok (.iload 5, 2)) ∧ (decode cX6_wordKind 41 = .ok (.ifCond .eq 22, 3)) ∧ (decode cX6_wordKind 44 = .ok (.iload 4, 2)) ∧ (decode cX6_wordKind 46 = .ok (.iload_n 2, 1)) := by decide +kernel
theorem dX6_wordKind_20 : decode cX6_wordKind 20 = .ok (.if_icmp .ge 80, 3) := dG_dX6_wordKind_20.1
theorem dX6_wordKind_23 : decode cX6_wordKind 23 = .ok (.ldc 52, 2) := dG_dX6_wordKind_20.2.1
theorem dX6_wordKind_25 : decode cX6_wordKind 25 = .ok (.iload 6, 2) := dG_dX6_wordKind_20.2.2.1
theorem dX6_wordKind_27 : decode cX6_wordKind 27 = .ok (.invokevirtual 60, 3) := dG_dX6_wordKind_20.2.2.2.1
theorem dX6_wordKind_30 : decode cX6_wordKind 30 = .ok (.istore 7, 2) := dG_dX6_wordKind_20.2.2.2.2.1
theorem dX6_wordKind_32 : decode cX6_wordKind 32 = .ok (.iload 7, 2) := dG_dX6_wordKind_20.2.2.2.2.2.1
theorem dX6_wordKind_34 : decode cX6_wordKind 34 = .ok (.bipush 32, 2) := dG_dX6_wordKind_20.2.2.2.2.2.2.1
theorem dX6_wordKind_36 : decode cX6_wordKind 36 = .ok (.if_icmp .eq 36, 3) := dG_dX6_wordKind_20.2.2.2.2.2.2.2.1
theorem dX6_wordKind_39 : decode cX6_wordKind 39 = .ok (.iload 5, 2) := dG_dX6_wordKind_20.2.2.2.2.2.2.2.2.1
theorem dX6_wordKind_41 : decode cX6_wordKind 41 = .ok (.ifCond .eq 22, 3) := dG_dX6_wordKind_20.2.2.2.2.2.2.2.2.2.1
theorem dX6_wordKind_44 : decode cX6_wordKind 44 = .ok (.iload 4, 2) := dG_dX6_wordKind_20.2.2.2.2.2.2.2.2.2.2.1
theorem dX6_wordKind_46 : decode cX6_wordKind 46 = .ok (.iload_n 2, 1) := dG_dX6_wordKind_20.2.2.2.2.2.2.2.2.2.2.2
theorem dG_dX6_wordKind_47 : (decode cX6_wordKind 47 = .ok (.if_icmp .ge 16, 3)) ∧ (decode cX6_wordKind 50 = .ok (.aload_n 0, 1)) ∧ (decode cX6_wordKind 51 = .ok (.iload 4, 2)) ∧ (decode cX6_wordKind 53 = .ok (.iaload, 1)) ∧ (decode cX6_wordKind 54 = .ok (.iload 7, 2)) ∧ (decode cX6_wordKind 56 = .ok (.if_icmp .ne 7, 3)) ∧ (decode cX6_wordKind 59 = .ok (.iconst 1, 1)) ∧ (decode cX6_wordKind 60 = .ok (.goto 4, 3)) ∧ (decode cX6_wordKind 63 = .ok (.iconst 0, 1)) ∧ (decode cX6_wordKind 64 = .ok (.istore 5, 2)) ∧ (decode cX6_wordKind 66 = .ok (.iinc 4 1, 3)) ∧ (decode cX6_wordKind 69 = .ok (.goto 25, 3)) := by decide +kernel
theorem dX6_wordKind_47 : decode cX6_wordKind 47 = .ok (.if_icmp .ge 16, 3) := dG_dX6_wordKind_47.1
theorem dX6_wordKind_50 : decode cX6_wordKind 50 = .ok (.aload_n 0, 1) := dG_dX6_wordKind_47.2.1
theorem dX6_wordKind_51 : decode cX6_wordKind 51 = .ok (.iload 4, 2) := dG_dX6_wordKind_47.2.2.1
theorem dX6_wordKind_53 : decode cX6_wordKind 53 = .ok (.iaload, 1) := dG_dX6_wordKind_47.2.2.2.1
theorem dX6_wordKind_54 : decode cX6_wordKind 54 = .ok (.iload 7, 2) := dG_dX6_wordKind_47.2.2.2.2.1
theorem dX6_wordKind_56 : decode cX6_wordKind 56 = .ok (.if_icmp .ne 7, 3) := dG_dX6_wordKind_47.2.2.2.2.2.1
theorem dX6_wordKind_59 : decode cX6_wordKind 59 = .ok (.iconst 1, 1) := dG_dX6_wordKind_47.2.2.2.2.2.2.1
theorem dX6_wordKind_60 : decode cX6_wordKind 60 = .ok (.goto 4, 3) := dG_dX6_wordKind_47.2.2.2.2.2.2.2.1
theorem dX6_wordKind_63 : decode cX6_wordKind 63 = .ok (.iconst 0, 1) := dG_dX6_wordKind_47.2.2.2.2.2.2.2.2.1
theorem dX6_wordKind_64 : decode cX6_wordKind 64 = .ok (.istore 5, 2) := dG_dX6_wordKind_47.2.2.2.2.2.2.2.2.2.1
theorem dX6_wordKind_66 : decode cX6_wordKind 66 = .ok (.iinc 4 1, 3) := dG_dX6_wordKind_47.2.2.2.2.2.2.2.2.2.2.1
theorem dX6_wordKind_69 : decode cX6_wordKind 69 = .ok (.goto 25, 3) := dG_dX6_wordKind_47.2.2.2.2.2.2.2.2.2.2.2
theorem dG_dX6_wordKind_72 : (decode cX6_wordKind 72 = .ok (.iload 5, 2)) ∧ (decode cX6_wordKind 74 = .ok (.ifCond .eq 11, 3)) ∧ (decode cX6_wordKind 77 = .ok (.iload 4, 2)) ∧ (decode cX6_wordKind 79 = .ok (.iload_n 2, 1)) ∧ (decode cX6_wordKind 80 = .ok (.if_icmp .ne 5, 3)) ∧ (decode cX6_wordKind 83 = .ok (.iload_n 3, 1)) ∧ (decode cX6_wordKind 84 = .ok (.ireturn, 1)) ∧ (decode cX6_wordKind 85 = .ok (.iinc 3 1, 3)) ∧ (decode cX6_wordKind 88 = .ok (.iload_n 1, 1)) ∧ (decode cX6_wordKind 89 = .ok (.istore 4, 2)) ∧ (decode cX6_wordKind 91 = .ok (.iconst 1, 1)) ∧ (decode cX6_wordKind 92 = .ok (.istore 5, 2)) := by decide +kernel
theorem dX6_wordKind_72 : decode cX6_wordKind 72 = .ok (.iload 5, 2) := dG_dX6_wordKind_72.1
theorem dX6_wordKind_74 : decode cX6_wordKind 74 = .ok (.ifCond .eq 11, 3) := dG_dX6_wordKind_72.2.1
theorem dX6_wordKind_77 : decode cX6_wordKind 77 = .ok (.iload 4, 2) := dG_dX6_wordKind_72.2.2.1
theorem dX6_wordKind_79 : decode cX6_wordKind 79 = .ok (.iload_n 2, 1) := dG_dX6_wordKind_72.2.2.2.1
theorem dX6_wordKind_80 : decode cX6_wordKind 80 = .ok (.if_icmp .ne 5, 3) := dG_dX6_wordKind_72.2.2.2.2.1
theorem dX6_wordKind_83 : decode cX6_wordKind 83 = .ok (.iload_n 3, 1) := dG_dX6_wordKind_72.2.2.2.2.2.1
theorem dX6_wordKind_84 : decode cX6_wordKind 84 = .ok (.ireturn, 1) := dG_dX6_wordKind_72.2.2.2.2.2.2.1
theorem dX6_wordKind_85 : decode cX6_wordKind 85 = .ok (.iinc 3 1, 3) := dG_dX6_wordKind_72.2.2.2.2.2.2.2.1
theorem dX6_wordKind_88 : decode cX6_wordKind 88 = .ok (.iload_n 1, 1) := dG_dX6_wordKind_72.2.2.2.2.2.2.2.2.1
theorem dX6_wordKind_89 : decode cX6_wordKind 89 = .ok (.istore 4, 2) := dG_dX6_wordKind_72.2.2.2.2.2.2.2.2.2.1
theorem dX6_wordKind_91 : decode cX6_wordKind 91 = .ok (.iconst 1, 1) := dG_dX6_wordKind_72.2.2.2.2.2.2.2.2.2.2.1
theorem dX6_wordKind_92 : decode cX6_wordKind 92 = .ok (.istore 5, 2) := dG_dX6_wordKind_72.2.2.2.2.2.2.2.2.2.2.2
theorem dG_dX6_wordKind_94 : (decode cX6_wordKind 94 = .ok (.iinc 6 1, 3)) ∧ (decode cX6_wordKind 97 = .ok (.goto (-84), 3)) ∧ (decode cX6_wordKind 100 = .ok (.sipush 259, 3)) ∧ (decode cX6_wordKind 103 = .ok (.ireturn, 1)) ∧ (decode cX6_putNumber 0 = .ok (.iload_n 2, 1)) ∧ (decode cX6_putNumber 1 = .ok (.istore 4, 2)) ∧ (decode cX6_putNumber 3 = .ok (.iconst 0, 1)) ∧ (decode cX6_putNumber 4 = .ok (.istore 5, 2)) ∧ (decode cX6_putNumber 6 = .ok (.iload 4, 2)) ∧ (decode cX6_putNumber 8 = .ok (.iload_n 3, 1)) ∧ (decode cX6_putNumber 9 = .ok (.if_icmp .ge 43, 3)) ∧ (decode cX6_putNumber 12 = .ok (.aload_n 1, 1)) := by decide +kernel
theorem dX6_wordKind_94 : decode cX6_wordKind 94 = .ok (.iinc 6 1, 3) := dG_dX6_wordKind_94.1
theorem dX6_wordKind_97 : decode cX6_wordKind 97 = .ok (.goto (-84), 3) := dG_dX6_wordKind_94.2.1
theorem dX6_wordKind_100 : decode cX6_wordKind 100 = .ok (.sipush 259, 3) := dG_dX6_wordKind_94.2.2.1
theorem dX6_wordKind_103 : decode cX6_wordKind 103 = .ok (.ireturn, 1) := dG_dX6_wordKind_94.2.2.2.1
theorem dX6_putNumber_0 : decode cX6_putNumber 0 = .ok (.iload_n 2, 1) := dG_dX6_wordKind_94.2.2.2.2.1
theorem dX6_putNumber_1 : decode cX6_putNumber 1 = .ok (.istore 4, 2) := dG_dX6_wordKind_94.2.2.2.2.2.1
theorem dX6_putNumber_3 : decode cX6_putNumber 3 = .ok (.iconst 0, 1) := dG_dX6_wordKind_94.2.2.2.2.2.2.1
theorem dX6_putNumber_4 : decode cX6_putNumber 4 = .ok (.istore 5, 2) := dG_dX6_wordKind_94.2.2.2.2.2.2.2.1
theorem dX6_putNumber_6 : decode cX6_putNumber 6 = .ok (.iload 4, 2) := dG_dX6_wordKind_94.2.2.2.2.2.2.2.2.1
theorem dX6_putNumber_8 : decode cX6_putNumber 8 = .ok (.iload_n 3, 1) := dG_dX6_wordKind_94.2.2.2.2.2.2.2.2.2.1
theorem dX6_putNumber_9 : decode cX6_putNumber 9 = .ok (.if_icmp .ge 43, 3) := dG_dX6_wordKind_94.2.2.2.2.2.2.2.2.2.2.1
theorem dX6_putNumber_12 : decode cX6_putNumber 12 = .ok (.aload_n 1, 1) := dG_dX6_wordKind_94.2.2.2.2.2.2.2.2.2.2.2
theorem dG_dX6_putNumber_13 : (decode cX6_putNumber 13 = .ok (.iload 4, 2)) ∧ (decode cX6_putNumber 15 = .ok (.iaload, 1)) ∧ (decode cX6_putNumber 16 = .ok (.invokestatic 36, 3)) ∧ (decode cX6_putNumber 19 = .ok (.ifCond .eq 33, 3)) ∧ (decode cX6_putNumber 22 = .ok (.iload 4, 2)) ∧ (decode cX6_putNumber 24 = .ok (.iload_n 2, 1)) ∧ (decode cX6_putNumber 25 = .ok (.isub, 1)) ∧ (decode cX6_putNumber 26 = .ok (.bipush 6, 2)) ∧ (decode cX6_putNumber 28 = .ok (.if_icmp .ge 18, 3)) ∧ (decode cX6_putNumber 31 = .ok (.iload 5, 2)) ∧ (decode cX6_putNumber 33 = .ok (.bipush 10, 2)) ∧ (decode cX6_putNumber 35 = .ok (.imul, 1)) := by decide +kernel
theorem dX6_putNumber_13 : decode cX6_putNumber 13 = .ok (.iload 4, 2) := dG_dX6_putNumber_13.1
theorem dX6_putNumber_15 : decode cX6_putNumber 15 = .ok (.iaload, 1) := dG_dX6_putNumber_13.2.1
theorem dX6_putNumber_16 : decode cX6_putNumber 16 = .ok (.invokestatic 36, 3) := dG_dX6_putNumber_13.2.2.1
theorem dX6_putNumber_19 : decode cX6_putNumber 19 = .ok (.ifCond .eq 33, 3) := dG_dX6_putNumber_13.2.2.2.1
theorem dX6_putNumber_22 : decode cX6_putNumber 22 = .ok (.iload 4, 2) := dG_dX6_putNumber_13.2.2.2.2.1
theorem dX6_putNumber_24 : decode cX6_putNumber 24 = .ok (.iload_n 2, 1) := dG_dX6_putNumber_13.2.2.2.2.2.1
theorem dX6_putNumber_25 : decode cX6_putNumber 25 = .ok (.isub, 1) := dG_dX6_putNumber_13.2.2.2.2.2.2.1
theorem dX6_putNumber_26 : decode cX6_putNumber 26 = .ok (.bipush 6, 2) := dG_dX6_putNumber_13.2.2.2.2.2.2.2.1
theorem dX6_putNumber_28 : decode cX6_putNumber 28 = .ok (.if_icmp .ge 18, 3) := dG_dX6_putNumber_13.2.2.2.2.2.2.2.2.1
theorem dX6_putNumber_31 : decode cX6_putNumber 31 = .ok (.iload 5, 2) := dG_dX6_putNumber_13.2.2.2.2.2.2.2.2.2.1
theorem dX6_putNumber_33 : decode cX6_putNumber 33 = .ok (.bipush 10, 2) := dG_dX6_putNumber_13.2.2.2.2.2.2.2.2.2.2.1
theorem dX6_putNumber_35 : decode cX6_putNumber 35 = .ok (.imul, 1) := dG_dX6_putNumber_13.2.2.2.2.2.2.2.2.2.2.2
theorem dG_dX6_putNumber_36 : (decode cX6_putNumber 36 = .ok (.aload_n 1, 1)) ∧ (decode cX6_putNumber 37 = .ok (.iload 4, 2)) ∧ (decode cX6_putNumber 39 = .ok (.iaload, 1)) ∧ (decode cX6_putNumber 40 = .ok (.iadd, 1)) ∧ (decode cX6_putNumber 41 = .ok (.bipush 48, 2)) ∧ (decode cX6_putNumber 43 = .ok (.isub, 1)) ∧ (decode cX6_putNumber 44 = .ok (.istore 5, 2)) ∧ (decode cX6_putNumber 46 = .ok (.iinc 4 1, 3)) ∧ (decode cX6_putNumber 49 = .ok (.goto (-43), 3)) ∧ (decode cX6_putNumber 52 = .ok (.aload_n 0, 1)) ∧ (decode cX6_putNumber 53 = .ok (.iload 4, 2)) ∧ (decode cX6_putNumber 55 = .ok (.iload_n 2, 1)) := by decide +kernel
theorem dX6_putNumber_36 : decode cX6_putNumber 36 = .ok (.aload_n 1, 1) := dG_dX6_putNumber_36.1
theorem dX6_putNumber_37 : decode cX6_putNumber 37 = .ok (.iload 4, 2) := dG_dX6_putNumber_36.2.1
theorem dX6_putNumber_39 : decode cX6_putNumber 39 = .ok (.iaload, 1) := dG_dX6_putNumber_36.2.2.1
theorem dX6_putNumber_40 : decode cX6_putNumber 40 = .ok (.iadd, 1) := dG_dX6_putNumber_36.2.2.2.1
theorem dX6_putNumber_41 : decode cX6_putNumber 41 = .ok (.bipush 48, 2) := dG_dX6_putNumber_36.2.2.2.2.1
theorem dX6_putNumber_43 : decode cX6_putNumber 43 = .ok (.isub, 1) := dG_dX6_putNumber_36.2.2.2.2.2.1
theorem dX6_putNumber_44 : decode cX6_putNumber 44 = .ok (.istore 5, 2) := dG_dX6_putNumber_36.2.2.2.2.2.2.1
theorem dX6_putNumber_46 : decode cX6_putNumber 46 = .ok (.iinc 4 1, 3) := dG_dX6_putNumber_36.2.2.2.2.2.2.2.1
theorem dX6_putNumber_49 : decode cX6_putNumber 49 = .ok (.goto (-43), 3) := dG_dX6_putNumber_36.2.2.2.2.2.2.2.2.1
theorem dX6_putNumber_52 : decode cX6_putNumber 52 = .ok (.aload_n 0, 1) := dG_dX6_putNumber_36.2.2.2.2.2.2.2.2.2.1
theorem dX6_putNumber_53 : decode cX6_putNumber 53 = .ok (.iload 4, 2) := dG_dX6_putNumber_36.2.2.2.2.2.2.2.2.2.2.1
theorem dX6_putNumber_55 : decode cX6_putNumber 55 = .ok (.iload_n 2, 1) := dG_dX6_putNumber_36.2.2.2.2.2.2.2.2.2.2.2
theorem dG_dX6_putNumber_56 : (decode cX6_putNumber 56 = .ok (.isub, 1)) ∧ (decode cX6_putNumber 57 = .ok (.bipush 6, 2)) ∧ (decode cX6_putNumber 59 = .ok (.if_icmp .le 9, 3)) ∧ (decode cX6_putNumber 62 = .ok (.sipush 257, 3)) ∧ (decode cX6_putNumber 65 = .ok (.goto 6, 3)) ∧ (decode cX6_putNumber 68 = .ok (.sipush 258, 3)) ∧ (decode cX6_putNumber 71 = .ok (.iload_n 2, 1)) ∧ (decode cX6_putNumber 72 = .ok (.iload 5, 2)) ∧ (decode cX6_putNumber 74 = .ok (.invokevirtual 45, 3)) ∧ (decode cX6_putNumber 77 = .ok (.iload 4, 2)) ∧ (decode cX6_putNumber 79 = .ok (.ireturn, 1)) ∧ (decode cX6_isLetter 0 = .ok (.iload_n 0, 1)) := by decide +kernel
theorem dX6_putNumber_56 : decode cX6_putNumber 56 = .ok (.isub, 1) := dG_dX6_putNumber_56.1
theorem dX6_putNumber_57 : decode cX6_putNumber 57 = .ok (.bipush 6, 2) := dG_dX6_putNumber_56.2.1
theorem dX6_putNumber_59 : decode cX6_putNumber 59 = .ok (.if_icmp .le 9, 3) := dG_dX6_putNumber_56.2.2.1
theorem dX6_putNumber_62 : decode cX6_putNumber 62 = .ok (.sipush 257, 3) := dG_dX6_putNumber_56.2.2.2.1
theorem dX6_putNumber_65 : decode cX6_putNumber 65 = .ok (.goto 6, 3) := dG_dX6_putNumber_56.2.2.2.2.1
theorem dX6_putNumber_68 : decode cX6_putNumber 68 = .ok (.sipush 258, 3) := dG_dX6_putNumber_56.2.2.2.2.2.1
theorem dX6_putNumber_71 : decode cX6_putNumber 71 = .ok (.iload_n 2, 1) := dG_dX6_putNumber_56.2.2.2.2.2.2.1
theorem dX6_putNumber_72 : decode cX6_putNumber 72 = .ok (.iload 5, 2) := dG_dX6_putNumber_56.2.2.2.2.2.2.2.1
theorem dX6_putNumber_74 : decode cX6_putNumber 74 = .ok (.invokevirtual 45, 3) := dG_dX6_putNumber_56.2.2.2.2.2.2.2.2.1
theorem dX6_putNumber_77 : decode cX6_putNumber 77 = .ok (.iload 4, 2) := dG_dX6_putNumber_56.2.2.2.2.2.2.2.2.2.1
theorem dX6_putNumber_79 : decode cX6_putNumber 79 = .ok (.ireturn, 1) := dG_dX6_putNumber_56.2.2.2.2.2.2.2.2.2.2.1
theorem dX6_isLetter_0 : decode cX6_isLetter 0 = .ok (.iload_n 0, 1) := dG_dX6_putNumber_56.2.2.2.2.2.2.2.2.2.2.2
theorem dG_dX6_isLetter_1 : (decode cX6_isLetter 1 = .ok (.bipush 97, 2)) ∧ (decode cX6_isLetter 3 = .ok (.if_icmp .lt 13, 3)) ∧ (decode cX6_isLetter 6 = .ok (.iload_n 0, 1)) ∧ (decode cX6_isLetter 7 = .ok (.bipush 122, 2)) ∧ (decode cX6_isLetter 9 = .ok (.if_icmp .gt 7, 3)) ∧ (decode cX6_isLetter 12 = .ok (.iconst 1, 1)) ∧ (decode cX6_isLetter 13 = .ok (.goto 4, 3)) ∧ (decode cX6_isLetter 16 = .ok (.iconst 0, 1)) ∧ (decode cX6_isLetter 17 = .ok (.ireturn, 1)) ∧ (decode cX6_isDigit 0 = .ok (.iload_n 0, 1)) ∧ (decode cX6_isDigit 1 = .ok (.bipush 48, 2)) ∧ (decode cX6_isDigit 3 = .ok (.if_icmp .lt 13, 3)) := by decide +kernel
theorem dX6_isLetter_1 : decode cX6_isLetter 1 = .ok (.bipush 97, 2) := dG_dX6_isLetter_1.1
theorem dX6_isLetter_3 : decode cX6_isLetter 3 = .ok (.if_icmp .lt 13, 3) := dG_dX6_isLetter_1.2.1
theorem dX6_isLetter_6 : decode cX6_isLetter 6 = .ok (.iload_n 0, 1) := dG_dX6_isLetter_1.2.2.1
theorem dX6_isLetter_7 : decode cX6_isLetter 7 = .ok (.bipush 122, 2) := dG_dX6_isLetter_1.2.2.2.1
theorem dX6_isLetter_9 : decode cX6_isLetter 9 = .ok (.if_icmp .gt 7, 3) := dG_dX6_isLetter_1.2.2.2.2.1
theorem dX6_isLetter_12 : decode cX6_isLetter 12 = .ok (.iconst 1, 1) := dG_dX6_isLetter_1.2.2.2.2.2.1
theorem dX6_isLetter_13 : decode cX6_isLetter 13 = .ok (.goto 4, 3) := dG_dX6_isLetter_1.2.2.2.2.2.2.1
theorem dX6_isLetter_16 : decode cX6_isLetter 16 = .ok (.iconst 0, 1) := dG_dX6_isLetter_1.2.2.2.2.2.2.2.1
theorem dX6_isLetter_17 : decode cX6_isLetter 17 = .ok (.ireturn, 1) := dG_dX6_isLetter_1.2.2.2.2.2.2.2.2.1
theorem dX6_isDigit_0 : decode cX6_isDigit 0 = .ok (.iload_n 0, 1) := dG_dX6_isLetter_1.2.2.2.2.2.2.2.2.2.1
theorem dX6_isDigit_1 : decode cX6_isDigit 1 = .ok (.bipush 48, 2) := dG_dX6_isLetter_1.2.2.2.2.2.2.2.2.2.2.1
theorem dX6_isDigit_3 : decode cX6_isDigit 3 = .ok (.if_icmp .lt 13, 3) := dG_dX6_isLetter_1.2.2.2.2.2.2.2.2.2.2.2
theorem dG_dX6_isDigit_6 : (decode cX6_isDigit 6 = .ok (.iload_n 0, 1)) ∧ (decode cX6_isDigit 7 = .ok (.bipush 57, 2)) ∧ (decode cX6_isDigit 9 = .ok (.if_icmp .gt 7, 3)) ∧ (decode cX6_isDigit 12 = .ok (.iconst 1, 1)) ∧ (decode cX6_isDigit 13 = .ok (.goto 4, 3)) ∧ (decode cX6_isDigit 16 = .ok (.iconst 0, 1)) ∧ (decode cX6_isDigit 17 = .ok (.ireturn, 1)) ∧ (decode cX6_isSign 0 = .ok (.iload_n 0, 1)) ∧ (decode cX6_isSign 1 = .ok (.bipush 43, 2)) ∧ (decode cX6_isSign 3 = .ok (.if_icmp .eq 39, 3)) ∧ (decode cX6_isSign 6 = .ok (.iload_n 0, 1)) ∧ (decode cX6_isSign 7 = .ok (.bipush 45, 2)) := by decide +kernel
theorem dX6_isDigit_6 : decode cX6_isDigit 6 = .ok (.iload_n 0, 1) := dG_dX6_isDigit_6.1
theorem dX6_isDigit_7 : decode cX6_isDigit 7 = .ok (.bipush 57, 2) := dG_dX6_isDigit_6.2.1
theorem dX6_isDigit_9 : decode cX6_isDigit 9 = .ok (.if_icmp .gt 7, 3) := dG_dX6_isDigit_6.2.2.1
theorem dX6_isDigit_12 : decode cX6_isDigit 12 = .ok (.iconst 1, 1) := dG_dX6_isDigit_6.2.2.2.1
theorem dX6_isDigit_13 : decode cX6_isDigit 13 = .ok (.goto 4, 3) := dG_dX6_isDigit_6.2.2.2.2.1
theorem dX6_isDigit_16 : decode cX6_isDigit 16 = .ok (.iconst 0, 1) := dG_dX6_isDigit_6.2.2.2.2.2.1
theorem dX6_isDigit_17 : decode cX6_isDigit 17 = .ok (.ireturn, 1) := dG_dX6_isDigit_6.2.2.2.2.2.2.1
theorem dX6_isSign_0 : decode cX6_isSign 0 = .ok (.iload_n 0, 1) := dG_dX6_isDigit_6.2.2.2.2.2.2.2.1
theorem dX6_isSign_1 : decode cX6_isSign 1 = .ok (.bipush 43, 2) := dG_dX6_isDigit_6.2.2.2.2.2.2.2.2.1
theorem dX6_isSign_3 : decode cX6_isSign 3 = .ok (.if_icmp .eq 39, 3) := dG_dX6_isDigit_6.2.2.2.2.2.2.2.2.2.1
theorem dX6_isSign_6 : decode cX6_isSign 6 = .ok (.iload_n 0, 1) := dG_dX6_isDigit_6.2.2.2.2.2.2.2.2.2.2.1
theorem dX6_isSign_7 : decode cX6_isSign 7 = .ok (.bipush 45, 2) := dG_dX6_isDigit_6.2.2.2.2.2.2.2.2.2.2.2
theorem dG_dX6_isSign_9 : (decode cX6_isSign 9 = .ok (.if_icmp .eq 33, 3)) ∧ (decode cX6_isSign 12 = .ok (.iload_n 0, 1)) ∧ (decode cX6_isSign 13 = .ok (.bipush 42, 2)) ∧ (decode cX6_isSign 15 = .ok (.if_icmp .eq 27, 3)) ∧ (decode cX6_isSign 18 = .ok (.iload_n 0, 1)) ∧ (decode cX6_isSign 19 = .ok (.bipush 40, 2)) ∧ (decode cX6_isSign 21 = .ok (.if_icmp .eq 21, 3)) ∧ (decode cX6_isSign 24 = .ok (.iload_n 0, 1)) ∧ (decode cX6_isSign 25 = .ok (.bipush 41, 2)) ∧ (decode cX6_isSign 27 = .ok (.if_icmp .eq 15, 3)) ∧ (decode cX6_isSign 30 = .ok (.iload_n 0, 1)) ∧ (decode cX6_isSign 31 = .ok (.bipush 44, 2)) := by decide +kernel
theorem dX6_isSign_9 : decode cX6_isSign 9 = .ok (.if_icmp .eq 33, 3) := dG_dX6_isSign_9.1
theorem dX6_isSign_12 : decode cX6_isSign 12 = .ok (.iload_n 0, 1) := dG_dX6_isSign_9.2.1
theorem dX6_isSign_13 : decode cX6_isSign 13 = .ok (.bipush 42, 2) := dG_dX6_isSign_9.2.2.1
theorem dX6_isSign_15 : decode cX6_isSign 15 = .ok (.if_icmp .eq 27, 3) := dG_dX6_isSign_9.2.2.2.1
theorem dX6_isSign_18 : decode cX6_isSign 18 = .ok (.iload_n 0, 1) := dG_dX6_isSign_9.2.2.2.2.1
theorem dX6_isSign_19 : decode cX6_isSign 19 = .ok (.bipush 40, 2) := dG_dX6_isSign_9.2.2.2.2.2.1
theorem dX6_isSign_21 : decode cX6_isSign 21 = .ok (.if_icmp .eq 21, 3) := dG_dX6_isSign_9.2.2.2.2.2.2.1
theorem dX6_isSign_24 : decode cX6_isSign 24 = .ok (.iload_n 0, 1) := dG_dX6_isSign_9.2.2.2.2.2.2.2.1
theorem dX6_isSign_25 : decode cX6_isSign 25 = .ok (.bipush 41, 2) := dG_dX6_isSign_9.2.2.2.2.2.2.2.2.1
theorem dX6_isSign_27 : decode cX6_isSign 27 = .ok (.if_icmp .eq 15, 3) := dG_dX6_isSign_9.2.2.2.2.2.2.2.2.2.1
theorem dX6_isSign_30 : decode cX6_isSign 30 = .ok (.iload_n 0, 1) := dG_dX6_isSign_9.2.2.2.2.2.2.2.2.2.2.1
theorem dX6_isSign_31 : decode cX6_isSign 31 = .ok (.bipush 44, 2) := dG_dX6_isSign_9.2.2.2.2.2.2.2.2.2.2.2
theorem dG_dX6_isSign_33 : (decode cX6_isSign 33 = .ok (.if_icmp .eq 9, 3)) ∧ (decode cX6_isSign 36 = .ok (.iload_n 0, 1)) ∧ (decode cX6_isSign 37 = .ok (.bipush 59, 2)) ∧ (decode cX6_isSign 39 = .ok (.if_icmp .ne 7, 3)) ∧ (decode cX6_isSign 42 = .ok (.iconst 1, 1)) ∧ (decode cX6_isSign 43 = .ok (.goto 4, 3)) ∧ (decode cX6_isSign 46 = .ok (.iconst 0, 1)) ∧ (decode cX6_isSign 47 = .ok (.ireturn, 1)) := by decide +kernel
theorem dX6_isSign_33 : decode cX6_isSign 33 = .ok (.if_icmp .eq 9, 3) := dG_dX6_isSign_33.1
theorem dX6_isSign_36 : decode cX6_isSign 36 = .ok (.iload_n 0, 1) := dG_dX6_isSign_33.2.1
theorem dX6_isSign_37 : decode cX6_isSign 37 = .ok (.bipush 59, 2) := dG_dX6_isSign_33.2.2.1
theorem dX6_isSign_39 : decode cX6_isSign 39 = .ok (.if_icmp .ne 7, 3) := dG_dX6_isSign_33.2.2.2.1
theorem dX6_isSign_42 : decode cX6_isSign 42 = .ok (.iconst 1, 1) := dG_dX6_isSign_33.2.2.2.2.1
theorem dX6_isSign_43 : decode cX6_isSign 43 = .ok (.goto 4, 3) := dG_dX6_isSign_33.2.2.2.2.2.1
theorem dX6_isSign_46 : decode cX6_isSign 46 = .ok (.iconst 0, 1) := dG_dX6_isSign_33.2.2.2.2.2.2.1
theorem dX6_isSign_47 : decode cX6_isSign 47 = .ok (.ireturn, 1) := dG_dX6_isSign_33.2.2.2.2.2.2.2
end

section
set_option maxHeartbeats 4000000 in
set_option maxRecDepth 100000 in
theorem e_To_isLetter (l : Launch) (D : va_G) (k : Nat → ClassId) (A : Nat → Prop) (ad : Nat → Nat) (hD : rwD A k ad) (v : gV) (f g : gF) (a1 : Int) (h_a1 : inR a1) : GM l D k A (rwT k ad) yX6_isLetter cX6_isLetter 1 (some .boolean) 0 0 [.int (iI a1)] v f g (fun r v1 f1 g1 => ∃ (z : Int), r = some (.int (iI z)) ∧ v = v1 ∧ f = f1 ∧ g = g1 ∧ (z = (if 97 ≤ a1 ∧ a1 ≤ 122 then 1 else 0))) := by
  refine GM.of (by decide) (Nat.le_of_ble_eq_true rfl) ?_
  intro p e s m args below meth c Q ls hQ C hml hr hlocks hP hl
  have hx := C.1
  have hb := C.2.1
  have hok := hP.2
  have hS : va_S A s.heap s.heap [] := va_S.rf
  have hl : lv_has ls 1 [(0, .int (iI a1))] := hl
  refine lv_iload_n hx hb dX6_isLetter_0 rfl (lv_at hl 0 rfl) ?_
  refine lv_bipush (v := iI 97) hx hb dX6_isLetter_1 (by decide) ?_
  refine gi_clt (tgt := 16) hx hb dX6_isLetter_3 (by decide) (by omega) (by decide) (fun c_1 => ?_) (fun c_1 => ?_)
  · refine lv_iconst (v := iI 0) hx hb dX6_isLetter_16 rfl ?_
    exact g_zret hQ C hr hlocks (by decide) hP hS dX6_isLetter_17 ⟨0, rfl, rfl, rfl, rfl, (by first | omega | (split <;> omega))⟩
  · refine lv_iload_n hx hb dX6_isLetter_6 rfl (lv_at hl 0 rfl) ?_
    refine lv_bipush (v := iI 122) hx hb dX6_isLetter_7 (by decide) ?_
    refine gi_cgt (tgt := 16) hx hb dX6_isLetter_9 (by decide) (by omega) (by decide) (fun c_2 => ?_) (fun c_2 => ?_)
    · refine lv_iconst (v := iI 0) hx hb dX6_isLetter_16 rfl ?_
      exact g_zret hQ C hr hlocks (by decide) hP hS dX6_isLetter_17 ⟨0, rfl, rfl, rfl, rfl, (by first | omega | (split <;> omega))⟩
    · refine lv_iconst (v := iI 1) hx hb dX6_isLetter_12 rfl ?_
      refine lv_goto (tgt := 17) hx hb dX6_isLetter_13 (by decide) ?_
      exact g_zret hQ C hr hlocks (by decide) hP hS dX6_isLetter_17 ⟨1, rfl, rfl, rfl, rfl, (by first | omega | (split <;> omega))⟩

set_option maxHeartbeats 4000000 in
set_option maxRecDepth 100000 in
theorem e_To_isDigit (l : Launch) (D : va_G) (k : Nat → ClassId) (A : Nat → Prop) (ad : Nat → Nat) (hD : rwD A k ad) (v : gV) (f g : gF) (a1 : Int) (h_a1 : inR a1) : GM l D k A (rwT k ad) yX6_isDigit cX6_isDigit 1 (some .boolean) 0 0 [.int (iI a1)] v f g (fun r v1 f1 g1 => ∃ (z : Int), r = some (.int (iI z)) ∧ v = v1 ∧ f = f1 ∧ g = g1 ∧ (z = (if 48 ≤ a1 ∧ a1 ≤ 57 then 1 else 0))) := by
  refine GM.of (by decide) (Nat.le_of_ble_eq_true rfl) ?_
  intro p e s m args below meth c Q ls hQ C hml hr hlocks hP hl
  have hx := C.1
  have hb := C.2.1
  have hok := hP.2
  have hS : va_S A s.heap s.heap [] := va_S.rf
  have hl : lv_has ls 1 [(0, .int (iI a1))] := hl
  refine lv_iload_n hx hb dX6_isDigit_0 rfl (lv_at hl 0 rfl) ?_
  refine lv_bipush (v := iI 48) hx hb dX6_isDigit_1 (by decide) ?_
  refine gi_clt (tgt := 16) hx hb dX6_isDigit_3 (by decide) (by omega) (by decide) (fun c_1 => ?_) (fun c_1 => ?_)
  · refine lv_iconst (v := iI 0) hx hb dX6_isDigit_16 rfl ?_
    exact g_zret hQ C hr hlocks (by decide) hP hS dX6_isDigit_17 ⟨0, rfl, rfl, rfl, rfl, (by first | omega | (split <;> omega))⟩
  · refine lv_iload_n hx hb dX6_isDigit_6 rfl (lv_at hl 0 rfl) ?_
    refine lv_bipush (v := iI 57) hx hb dX6_isDigit_7 (by decide) ?_
    refine gi_cgt (tgt := 16) hx hb dX6_isDigit_9 (by decide) (by omega) (by decide) (fun c_2 => ?_) (fun c_2 => ?_)
    · refine lv_iconst (v := iI 0) hx hb dX6_isDigit_16 rfl ?_
      exact g_zret hQ C hr hlocks (by decide) hP hS dX6_isDigit_17 ⟨0, rfl, rfl, rfl, rfl, (by first | omega | (split <;> omega))⟩
    · refine lv_iconst (v := iI 1) hx hb dX6_isDigit_12 rfl ?_
      refine lv_goto (tgt := 17) hx hb dX6_isDigit_13 (by decide) ?_
      exact g_zret hQ C hr hlocks (by decide) hP hS dX6_isDigit_17 ⟨1, rfl, rfl, rfl, rfl, (by first | omega | (split <;> omega))⟩

set_option maxHeartbeats 4000000 in
set_option maxRecDepth 100000 in
theorem e_To_isSign (l : Launch) (D : va_G) (k : Nat → ClassId) (A : Nat → Prop) (ad : Nat → Nat) (hD : rwD A k ad) (v : gV) (f g : gF) (a1 : Int) (h_a1 : inR a1) : GM l D k A (rwT k ad) yX6_isSign cX6_isSign 1 (some .boolean) 0 0 [.int (iI a1)] v f g (fun r v1 f1 g1 => ∃ (z : Int), r = some (.int (iI z)) ∧ v = v1 ∧ f = f1 ∧ g = g1 ∧ (z = (if a1 = 43 ∨ a1 = 45 ∨ a1 = 42 ∨ a1 = 40 ∨ a1 = 41 ∨ a1 = 44 ∨ a1 = 59 then 1 else 0))) := by
  refine GM.of (by decide) (Nat.le_of_ble_eq_true rfl) ?_
  intro p e s m args below meth c Q ls hQ C hml hr hlocks hP hl
  have hx := C.1
  have hb := C.2.1
  have hok := hP.2
  have hS : va_S A s.heap s.heap [] := va_S.rf
  have hl : lv_has ls 1 [(0, .int (iI a1))] := hl
  refine lv_iload_n hx hb dX6_isSign_0 rfl (lv_at hl 0 rfl) ?_
  refine lv_bipush (v := iI 43) hx hb dX6_isSign_1 (by decide) ?_
  refine gi_ceq (tgt := 42) hx hb dX6_isSign_3 (by decide) (by omega) (by decide) (fun c_1 => ?_) (fun c_1 => ?_)
  · refine lv_iconst (v := iI 1) hx hb dX6_isSign_42 rfl ?_
    refine lv_goto (tgt := 47) hx hb dX6_isSign_43 (by decide) ?_
    exact g_zret hQ C hr hlocks (by decide) hP hS dX6_isSign_47 ⟨1, rfl, rfl, rfl, rfl, (by first | omega | (split <;> omega))⟩
  · refine lv_iload_n hx hb dX6_isSign_6 rfl (lv_at hl 0 rfl) ?_
    refine lv_bipush (v := iI 45) hx hb dX6_isSign_7 (by decide) ?_
    refine gi_ceq (tgt := 42) hx hb dX6_isSign_9 (by decide) (by omega) (by decide) (fun c_2 => ?_) (fun c_2 => ?_)
    · refine lv_iconst (v := iI 1) hx hb dX6_isSign_42 rfl ?_
      refine lv_goto (tgt := 47) hx hb dX6_isSign_43 (by decide) ?_
      exact g_zret hQ C hr hlocks (by decide) hP hS dX6_isSign_47 ⟨1, rfl, rfl, rfl, rfl, (by first | omega | (split <;> omega))⟩
    · refine lv_iload_n hx hb dX6_isSign_12 rfl (lv_at hl 0 rfl) ?_
      refine lv_bipush (v := iI 42) hx hb dX6_isSign_13 (by decide) ?_
      refine gi_ceq (tgt := 42) hx hb dX6_isSign_15 (by decide) (by omega) (by decide) (fun c_3 => ?_) (fun c_3 => ?_)
      · refine lv_iconst (v := iI 1) hx hb dX6_isSign_42 rfl ?_
        refine lv_goto (tgt := 47) hx hb dX6_isSign_43 (by decide) ?_
        exact g_zret hQ C hr hlocks (by decide) hP hS dX6_isSign_47 ⟨1, rfl, rfl, rfl, rfl, (by first | omega | (split <;> omega))⟩
      · refine lv_iload_n hx hb dX6_isSign_18 rfl (lv_at hl 0 rfl) ?_
        refine lv_bipush (v := iI 40) hx hb dX6_isSign_19 (by decide) ?_
        refine gi_ceq (tgt := 42) hx hb dX6_isSign_21 (by decide) (by omega) (by decide) (fun c_4 => ?_) (fun c_4 => ?_)
        · refine lv_iconst (v := iI 1) hx hb dX6_isSign_42 rfl ?_
          refine lv_goto (tgt := 47) hx hb dX6_isSign_43 (by decide) ?_
          exact g_zret hQ C hr hlocks (by decide) hP hS dX6_isSign_47 ⟨1, rfl, rfl, rfl, rfl, (by first | omega | (split <;> omega))⟩
        · refine lv_iload_n hx hb dX6_isSign_24 rfl (lv_at hl 0 rfl) ?_
          refine lv_bipush (v := iI 41) hx hb dX6_isSign_25 (by decide) ?_
          refine gi_ceq (tgt := 42) hx hb dX6_isSign_27 (by decide) (by omega) (by decide) (fun c_5 => ?_) (fun c_5 => ?_)
          · refine lv_iconst (v := iI 1) hx hb dX6_isSign_42 rfl ?_
            refine lv_goto (tgt := 47) hx hb dX6_isSign_43 (by decide) ?_
            exact g_zret hQ C hr hlocks (by decide) hP hS dX6_isSign_47 ⟨1, rfl, rfl, rfl, rfl, (by first | omega | (split <;> omega))⟩
          · refine lv_iload_n hx hb dX6_isSign_30 rfl (lv_at hl 0 rfl) ?_
            refine lv_bipush (v := iI 44) hx hb dX6_isSign_31 (by decide) ?_
            refine gi_ceq (tgt := 42) hx hb dX6_isSign_33 (by decide) (by omega) (by decide) (fun c_6 => ?_) (fun c_6 => ?_)
            · refine lv_iconst (v := iI 1) hx hb dX6_isSign_42 rfl ?_
              refine lv_goto (tgt := 47) hx hb dX6_isSign_43 (by decide) ?_
              exact g_zret hQ C hr hlocks (by decide) hP hS dX6_isSign_47 ⟨1, rfl, rfl, rfl, rfl, (by first | omega | (split <;> omega))⟩
            · refine lv_iload_n hx hb dX6_isSign_36 rfl (lv_at hl 0 rfl) ?_
              refine lv_bipush (v := iI 59) hx hb dX6_isSign_37 (by decide) ?_
              refine gi_cne (tgt := 46) hx hb dX6_isSign_39 (by decide) (by omega) (by decide) (fun c_7 => ?_) (fun c_7 => ?_)
              · refine lv_iconst (v := iI 0) hx hb dX6_isSign_46 rfl ?_
                exact g_zret hQ C hr hlocks (by decide) hP hS dX6_isSign_47 ⟨0, rfl, rfl, rfl, rfl, (by first | omega | (split <;> omega))⟩
              · refine lv_iconst (v := iI 1) hx hb dX6_isSign_42 rfl ?_
                refine lv_goto (tgt := 47) hx hb dX6_isSign_43 (by decide) ?_
                exact g_zret hQ C hr hlocks (by decide) hP hS dX6_isSign_47 ⟨1, rfl, rfl, rfl, rfl, (by first | omega | (split <;> omega))⟩

set_option maxHeartbeats 4000000 in
set_option maxRecDepth 100000 in
theorem e_To_put (l : Launch) (D : va_G) (k : Nat → ClassId) (A : Nat → Prop) (ad : Nat → Nat) (hD : rwD A k ad) (v : gV) (f g : gF) (a1 : Int) (a2 : Int) (a3 : Int) (h_a1 : inR a1) (h_a2 : inR a2) (h_a3 : inR a3) (h0 : (v 5) < 701) (h1 : 0 ≤ a1 ∧ a1 ≤ 300) (h2 : 0 ≤ a2 ∧ a2 ≤ 700) (h3 : 0 ≤ a3 ∧ a3 ≤ 999999) : GM l D k A (rwT k ad) yX6_put cX6_put 4 none 0 0 [.ref (ad 10), .int (iI a1), .int (iI a2), .int (iI a3)] v f g (fun r v1 f1 g1 => r = none ∧ (va_up v 5 ((v 5) + 1)) = v1 ∧ (va_up (va_up (va_up f 6 (u1 (f 6) (v 5) a1)) 7 (u1 (f 7) (v 5) a2)) 8 (u1 (f 8) (v 5) a3)) = f1 ∧ g = g1) := by
  refine GM.of (by decide) (Nat.le_of_ble_eq_true rfl) ?_
  intro p e s m args below meth c Q ls hQ C hml hr hlocks hP hl
  have hx := C.1
  have hb := C.2.1
  have hok := hP.2
  have hS : va_S A s.heap s.heap [] := va_S.rf
  have hl : lv_has ls 4 [(0, .ref (ad 10)), (1, .int (iI a1)), (2, .int (iI a2)), (3, .int (iI a3))] := hl
  have hP : gWd D (rwT k ad) (va_up v 5 (v 5)) (va_up (va_up (va_up f 6 (f 6)) 7 (f 7)) 8 (f 8)) g s.heap := by rw [va_id, va_id, va_id, va_id]; exact hP
  refine lv_aload_n hx hb dX6_put_0 rfl (lv_at hl 0 rfl) ?_
  refine rwG_reader_tokens_many C hP mF_X6_25 dX6_put_1 ?_
  show W p l e (gRm 0 0) s m args below meth c _ _ 0 0 Q (F0 m 4 ls [.int (iI (v 5))])
  have r_1 : 0 ≤ (v 5) ∧ (v 5) ≤ 701 := hok.1 5
  refine lv_aload_n hx hb dX6_put_4 rfl (lv_at hl 0 rfl) ?_
  refine rwG_reader_tokens_kinds C hP mF_X6_9 dX6_put_5 ?_
  refine rwN_reader_tokens_kinds C hP dX6_put_8 ?_
  refine gi_cge (tgt := 52) hx hb dX6_put_9 (by decide) (by omega) (by decide) (fun c_2 => ?_) (fun c_2 => ?_)
  · exact g_vret hQ C hr hlocks hP hS dX6_put_52 ⟨rfl, (by rw [show (((v 5) + 1) : Int) = (v 5) from by omega]), (by rw [show ((u1 (f 6) (v 5) a1) : Int → Int) = (f 6) from by omega, show ((u1 (f 7) (v 5) a2) : Int → Int) = (f 7) from by omega, show ((u1 (f 8) (v 5) a3) : Int → Int) = (f 8) from by omega]), rfl⟩
  · refine lv_aload_n hx hb dX6_put_12 rfl (lv_at hl 0 rfl) ?_
    refine rwG_reader_tokens_kinds C hP mF_X6_9 dX6_put_13 ?_
    refine lv_aload_n hx hb dX6_put_16 rfl (lv_at hl 0 rfl) ?_
    refine rwG_reader_tokens_many C hP mF_X6_25 dX6_put_17 ?_
    show W p l e (gRm 0 0) s m args below meth c _ _ 0 0 Q (F0 m 20 ls [.int (iI (v 5)), .ref (ad 11)])
    refine lv_iload_n hx hb dX6_put_20 rfl (lv_at hl 1 rfl) ?_
    refine rwS_reader_tokens_kinds (f1 := (va_up (va_up (va_up f 6 (u1 (f 6) (v 5) a1)) 7 (f 7)) 8 (f 8))) C hP hD hS (by omega) (by omega) (by omega) rfl (Or.inr (gF_up (V := rwV) (F := rwF) (gF_up (V := rwV) (F := rwF) (gF_up (V := rwV) (F := rwF) (gR_up (V := rwV) (F := rwF) ⟨hok.1, hok.2⟩ 5 (hP.2.1 5)) 6 (u1_rng (hP.2.2 6) (show 0 ≤ a1 ∧ a1 ≤ 300 from (by omega)))) 7 (hP.2.2 7)) 8 (hP.2.2 8))) dX6_put_21 (fun H locs hP hS => ?_)
    refine lv_aload_n hx hb dX6_put_22 rfl (lv_at hl 0 rfl) ?_
    refine rwG_reader_tokens_places C hP mF_X6_15 dX6_put_23 ?_
    refine lv_aload_n hx hb dX6_put_26 rfl (lv_at hl 0 rfl) ?_
    refine rwG_reader_tokens_many C hP mF_X6_25 dX6_put_27 ?_
    show W p l e (gRm 0 0) s m args below meth c _ _ 0 0 Q (F0 m 30 ls [.int (iI (v 5)), .ref (ad 12)])
    refine lv_iload_n hx hb dX6_put_30 rfl (lv_at hl 2 rfl) ?_
    refine rwS_reader_tokens_places (f1 := (va_up (va_up (va_up f 6 (u1 (f 6) (v 5) a1)) 7 (u1 (f 7) (v 5) a2)) 8 (f 8))) C hP hD hS (by omega) (by omega) (by omega) rfl (Or.inr (gF_up (V := rwV) (F := rwF) (gF_up (V := rwV) (F := rwF) (gF_up (V := rwV) (F := rwF) (gR_up (V := rwV) (F := rwF) ⟨hok.1, hok.2⟩ 5 (hP.2.1 5)) 6 (hP.2.2 6)) 7 (u1_rng (hP.2.2 7) (show 0 ≤ a2 ∧ a2 ≤ 700 from (by omega)))) 8 (hP.2.2 8))) dX6_put_31 (fun H locs hP hS => ?_)
    refine lv_aload_n hx hb dX6_put_32 rfl (lv_at hl 0 rfl) ?_
    refine rwG_reader_tokens_values C hP mF_X6_18 dX6_put_33 ?_
    refine lv_aload_n hx hb dX6_put_36 rfl (lv_at hl 0 rfl) ?_
    refine rwG_reader_tokens_many C hP mF_X6_25 dX6_put_37 ?_
    show W p l e (gRm 0 0) s m args below meth c _ _ 0 0 Q (F0 m 40 ls [.int (iI (v 5)), .ref (ad 13)])
    refine lv_iload_n hx hb dX6_put_40 rfl (lv_at hl 3 rfl) ?_
    refine rwS_reader_tokens_values (f1 := (va_up (va_up (va_up f 6 (u1 (f 6) (v 5) a1)) 7 (u1 (f 7) (v 5) a2)) 8 (u1 (f 8) (v 5) a3))) C hP hD hS (by omega) (by omega) (by omega) rfl (Or.inr (gF_up (V := rwV) (F := rwF) (gF_up (V := rwV) (F := rwF) (gF_up (V := rwV) (F := rwF) (gR_up (V := rwV) (F := rwF) ⟨hok.1, hok.2⟩ 5 (hP.2.1 5)) 6 (hP.2.2 6)) 7 (hP.2.2 7)) 8 (u1_rng (hP.2.2 8) (show 0 ≤ a3 ∧ a3 ≤ 999999 from (by omega))))) dX6_put_41 (fun H locs hP hS => ?_)
    refine lv_aload_n hx hb dX6_put_42 rfl (lv_at hl 0 rfl) ?_
    refine lv_dup hx hb dX6_put_43 rfl ?_
    refine rwG_reader_tokens_many C hP mF_X6_25 dX6_put_44 ?_
    show W p l e (gRm 0 0) s m args below meth c _ _ 0 0 Q (F0 m 47 ls [.int (iI (v 5)), .ref (ad 10)])
    refine lv_iconst (v := iI 1) hx hb dX6_put_47 rfl ?_
    refine gi_add (z := ((v 5) + 1)) hx hb dX6_put_48 rfl ?_
    refine rwP_reader_tokens_many (v1 := (va_up v 5 ((v 5) + 1))) C hP hD hS mF_X6_25 (by omega) rfl (Or.inr (gF_up (V := rwV) (F := rwF) (gF_up (V := rwV) (F := rwF) (gF_up (V := rwV) (F := rwF) (gR_up (V := rwV) (F := rwF) ⟨hok.1, hok.2⟩ 5 (show 0 ≤ ((v 5) + 1) ∧ ((v 5) + 1) ≤ 701 from by omega)) 6 (hP.2.2 6)) 7 (hP.2.2 7)) 8 (hP.2.2 8))) dX6_put_49 (fun H locs hP hS => ?_)
    exact g_vret hQ C hr hlocks hP hS dX6_put_52 ⟨rfl, rfl, rfl, rfl⟩

set_option maxHeartbeats 4000000 in
set_option maxRecDepth 100000 in
theorem e_To_wordKind (l : Launch) (D : va_G) (k : Nat → ClassId) (A : Nat → Prop) (ad : Nat → Nat) (hD : rwD A k ad) (za : Nat → Nat) (v : gV) (f g : gF) (a2 : Int) (a3 : Int) (h_a2 : inR a2) (h_a3 : inR a3) (h2 : 0 ≤ a2 ∧ a2 ≤ a3) (h3 : a3 ≤ 700) : GE l D k za A (rwT k ad) yX6_wordKind cX6_wordKind 8 (some .int) 4 85 [.ref (ad 1), .int (iI a2), .int (iI a3)] v f g (fun r v1 f1 g1 => ∃ (z : Int), r = some (.int (iI z)) ∧ v = v1 ∧ f = f1 ∧ g = g1 ∧ (z = (wK (f 0) a2 a3)) ∧ (259 ≤ z ∧ z ≤ 277)) := by
  refine GE.of (by decide) (Nat.le_of_ble_eq_true rfl) ?_
  intro p e s m args below meth c Q ls hQ C hml hr hlocks hP hl hE
  have hx := C.1
  have hb := C.2.1
  have hok := hP.2
  have hS : va_S A s.heap s.heap [] := va_S.rf
  have hl : lv_has ls 8 [(0, .ref (ad 1)), (1, .int (iI a2)), (2, .int (iI a3))] := hl
  refine lv_sipush (v := iI 260) hx hb dX6_wordKind_0 (by decide) ?_
  refine lv_istore_n (lv' := [(3, .int (iI 260)), (0, .ref (ad 1)), (1, .int (iI a2)), (2, .int (iI a3))]) hx hb dX6_wordKind_3 rfl hl (by decide) rfl (fun ls hl => ?_)
  refine lv_iload_n hx hb dX6_wordKind_4 rfl (lv_at hl 2 rfl) ?_
  refine lv_istore (lv' := [(4, .int (iI a2)), (3, .int (iI 260)), (0, .ref (ad 1)), (1, .int (iI a2)), (2, .int (iI a3))]) hx hb dX6_wordKind_5 hl (by decide) rfl (fun ls hl => ?_)
  refine lv_iconst (v := iI 1) hx hb dX6_wordKind_7 rfl ?_
  refine lv_istore (lv' := [(5, .int (iI 1)), (4, .int (iI a2)), (3, .int (iI 260)), (0, .ref (ad 1)), (1, .int (iI a2)), (2, .int (iI a3))]) hx hb dX6_wordKind_8 hl (by decide) rfl (fun ls hl => ?_)
  refine lv_iconst (v := iI 0) hx hb dX6_wordKind_10 rfl ?_
  refine lv_istore (lv' := [(6, .int (iI 0)), (5, .int (iI 1)), (4, .int (iI a2)), (3, .int (iI 260)), (0, .ref (ad 1)), (1, .int (iI a2)), (2, .int (iI a3))]) hx hb dX6_wordKind_11 hl (by decide) rfl (fun ls hl => ?_)
  have L_1 : ∀ (n : Nat) (x3 : Int) (x4 : Int) (x5 : Int) (x6 : Int) (H : Heap) (locs : List Loc) (ls : Array Slot), 97 - x6 < (n : Int) → (0 ≤ x6 ∧ x6 ≤ 97) → (a2 ≤ x4 ∧ x4 ≤ a2 + x6) → (x3 = 260 + gEsp x6) → (0 ≤ x5 ∧ x5 ≤ 1) → (0 ≤ gEsp x6 ∧ gEsp x6 ≤ 18) → (wl (f 0) a2 a3 (gEt.drop x6.toNat) x3 x4 x5 = wK (f 0) a2 a3) → gWd D (rwT k ad) v f g H → va_S A s.heap H locs → lv_has ls 8 [(0, .ref (ad 1)), (1, .int (iI a2)), (2, .int (iI a3)), (3, .int (iI x3)), (4, .int (iI x4)), (5, .int (iI x5)), (6, .int (iI x6))] → W p l e (gRm 4 85) s m args below meth c H locs 0 0 Q (F0 m 13 ls []) := by
    intro n
    induction n with
    | zero =>
      intro x3 x4 x5 x6 H locs ls hn_1 i1_0 i1_1 i1_2 i1_3 i1_4 i1_5 hP hS hl
      exfalso; omega
    | succ n ih_13 =>
      intro x3 x4 x5 x6 H locs ls hn_1 i1_0 i1_1 i1_2 i1_3 i1_4 i1_5 hP hS hl
      have hI := i1_5
      have hR := wK_rng (f 0) a2 a3
      refine lv_iload hx hb dX6_wordKind_13 (lv_at hl 6 rfl) ?_
      refine va_ldcS hx hb C.2.2.2.1 hE.p7 dX6_wordKind_15 ?_
      refine g_cvX (As := []) (rest := [.int (iI x6)]) (n := 0) C hE hml j_len mM_X6_54 mI_J0_length_8abf5 mE_J0_length_8abf5 mN_J0 mC_J0_length_8abf5 (by decide +kernel) (vk_recv (adK := fun _ => za 2) (i := 0) hE.p5 (by decide) hS) hP hS (fun _ h => h) ⟨Nat.le_of_ble_eq_true rfl, Nat.le_of_ble_eq_true rfl⟩ ⟨Nat.zero_le _, Nat.zero_le _⟩ hl.1 rfl rfl (Nat.le_of_ble_eq_true rfl) dX6_wordKind_17 (fun r v1 f1 g1 H locs hq hP _ hS => ?_)
      obtain ⟨rfl, rfl, rfl, rfl⟩ := hq
      show W p l e (gRm 4 85) s m args below meth c _ _ 0 0 Q (F0 m 20 ls [.int (iI 97), .int (iI x6)])
      refine gi_cge (tgt := 100) hx hb dX6_wordKind_20 (by decide) (by omega) (by decide) (fun c_2 => ?_) (fun c_2 => ?_)
      · refine lv_sipush (v := iI 259) hx hb dX6_wordKind_100 (by decide) ?_
        exact g_iret hQ C hr hlocks hP hS dX6_wordKind_103 ⟨259, rfl, rfl, rfl, rfl, (by have h := hI; first | (rw [wl_sp (i := x6) (by omega) (by omega) (by omega), if_pos (by omega)] at h; exact h) | (rw [wl_end (i := x6) (by omega) (by omega)] at h; exact h)), (by first | omega | (split <;> omega))⟩
      · refine va_ldcS hx hb C.2.2.2.1 hE.p7 dX6_wordKind_23 ?_
        refine lv_iload hx hb dX6_wordKind_25 (lv_at hl 6 rfl) ?_
        refine g_cvX (As := [.int (iI x6)]) (rest := []) (n := 1) C hE hml (j_cat (a := x6) (by omega) (by omega)) mM_X6_60 mI_J0_charAt_5068e mE_J0_charAt_5068e mN_J0 mC_J0_charAt_5068e (by decide +kernel) (vk_recv (adK := fun _ => za 2) (i := 0) hE.p5 (by decide) hS) hP hS (fun _ h => h) ⟨Nat.le_of_ble_eq_true rfl, Nat.le_of_ble_eq_true rfl⟩ ⟨Nat.zero_le _, Nat.zero_le _⟩ hl.1 rfl rfl (Nat.le_of_ble_eq_true rfl) dX6_wordKind_27 (fun r v1 f1 g1 H locs hq hP _ hS => ?_)
        obtain ⟨rfl, rfl, rfl, rfl⟩ := hq
        show W p l e (gRm 4 85) s m args below meth c _ _ 0 0 Q (F0 m 30 ls [.int (iI (gEch x6))])
        have q_3 := gEsp_step (i := x6) (by omega) (by omega)
        refine lv_istore (lv' := [(7, .int (iI (gEch x6))), (0, .ref (ad 1)), (1, .int (iI a2)), (2, .int (iI a3)), (3, .int (iI x3)), (4, .int (iI x4)), (5, .int (iI x5)), (6, .int (iI x6))]) hx hb dX6_wordKind_30 hl (by decide) rfl (fun ls hl => ?_)
        refine lv_iload hx hb dX6_wordKind_32 (lv_at hl 0 rfl) ?_
        refine lv_bipush (v := iI 32) hx hb dX6_wordKind_34 (by decide) ?_
        refine gi_ceq (tgt := 72) hx hb dX6_wordKind_36 (by decide) (by omega) (by decide) (fun c_4 => ?_) (fun c_4 => ?_)
        · refine lv_iload hx hb dX6_wordKind_72 (lv_at hl 6 rfl) ?_
          refine gi_zeq (tgt := 85) hx hb dX6_wordKind_74 (by decide) (by omega) (fun c_5 => ?_) (fun c_5 => ?_)
          · refine lv_iinc (v := iI (x3 + 1)) (lv' := [(3, .int (iI (x3 + 1))), (7, .int (iI (gEch x6))), (0, .ref (ad 1)), (1, .int (iI a2)), (2, .int (iI a3)), (4, .int (iI x4)), (5, .int (iI x5)), (6, .int (iI x6))]) hx hb dX6_wordKind_85 hl (k := 4) rfl (by show iI _ + iI 1 = _; rw [iI_add]) (by decide) rfl (fun ls hl => ?_)
            refine lv_iload_n hx hb dX6_wordKind_88 rfl (lv_at hl 3 rfl) ?_
            refine lv_istore (lv' := [(4, .int (iI a2)), (3, .int (iI (x3 + 1))), (7, .int (iI (gEch x6))), (0, .ref (ad 1)), (1, .int (iI a2)), (2, .int (iI a3)), (5, .int (iI x5)), (6, .int (iI x6))]) hx hb dX6_wordKind_89 hl (by decide) rfl (fun ls hl => ?_)
            refine lv_iconst (v := iI 1) hx hb dX6_wordKind_91 rfl ?_
            refine lv_istore (lv' := [(5, .int (iI 1)), (4, .int (iI a2)), (3, .int (iI (x3 + 1))), (7, .int (iI (gEch x6))), (0, .ref (ad 1)), (1, .int (iI a2)), (2, .int (iI a3)), (6, .int (iI x6))]) hx hb dX6_wordKind_92 hl (by decide) rfl (fun ls hl => ?_)
            refine lv_iinc (v := iI (x6 + 1)) (lv' := [(6, .int (iI (x6 + 1))), (5, .int (iI 1)), (4, .int (iI a2)), (3, .int (iI (x3 + 1))), (7, .int (iI (gEch x6))), (0, .ref (ad 1)), (1, .int (iI a2)), (2, .int (iI a3))]) hx hb dX6_wordKind_94 hl (k := 7) rfl (by show iI _ + iI 1 = _; rw [iI_add]) (by decide) rfl (fun ls hl => ?_)
            refine lv_goto (tgt := 13) hx hb dX6_wordKind_97 (by decide) ?_
            exact ih_13 (x3 + 1) a2 1 (x6 + 1) _ _ _ (by omega) (by omega) (by omega) (by omega) (by omega) (by omega) (by have h := hI; first | (rw [wl_ne (i := x6) (by omega) (by omega) (by omega)] at h; first | (rw [if_pos (by omega)] at h; exact h) | (rw [if_neg (by omega)] at h; exact h)) | (rw [wl_sp (i := x6) (by omega) (by omega) (by omega), if_neg (by omega)] at h; exact h)) hP hS (lv_sub hl [5, 6, 7, 3, 2, 1, 0] rfl)
          · refine lv_iload hx hb dX6_wordKind_77 (lv_at hl 5 rfl) ?_
            refine lv_iload_n hx hb dX6_wordKind_79 rfl (lv_at hl 3 rfl) ?_
            refine gi_cne (tgt := 85) hx hb dX6_wordKind_80 (by decide) (by omega) (by omega) (fun c_6 => ?_) (fun c_6 => ?_)
            · refine lv_iinc (v := iI (x3 + 1)) (lv' := [(3, .int (iI (x3 + 1))), (7, .int (iI (gEch x6))), (0, .ref (ad 1)), (1, .int (iI a2)), (2, .int (iI a3)), (4, .int (iI x4)), (5, .int (iI x5)), (6, .int (iI x6))]) hx hb dX6_wordKind_85 hl (k := 4) rfl (by show iI _ + iI 1 = _; rw [iI_add]) (by decide) rfl (fun ls hl => ?_)
              refine lv_iload_n hx hb dX6_wordKind_88 rfl (lv_at hl 3 rfl) ?_
              refine lv_istore (lv' := [(4, .int (iI a2)), (3, .int (iI (x3 + 1))), (7, .int (iI (gEch x6))), (0, .ref (ad 1)), (1, .int (iI a2)), (2, .int (iI a3)), (5, .int (iI x5)), (6, .int (iI x6))]) hx hb dX6_wordKind_89 hl (by decide) rfl (fun ls hl => ?_)
              refine lv_iconst (v := iI 1) hx hb dX6_wordKind_91 rfl ?_
              refine lv_istore (lv' := [(5, .int (iI 1)), (4, .int (iI a2)), (3, .int (iI (x3 + 1))), (7, .int (iI (gEch x6))), (0, .ref (ad 1)), (1, .int (iI a2)), (2, .int (iI a3)), (6, .int (iI x6))]) hx hb dX6_wordKind_92 hl (by decide) rfl (fun ls hl => ?_)
              refine lv_iinc (v := iI (x6 + 1)) (lv' := [(6, .int (iI (x6 + 1))), (5, .int (iI 1)), (4, .int (iI a2)), (3, .int (iI (x3 + 1))), (7, .int (iI (gEch x6))), (0, .ref (ad 1)), (1, .int (iI a2)), (2, .int (iI a3))]) hx hb dX6_wordKind_94 hl (k := 7) rfl (by show iI _ + iI 1 = _; rw [iI_add]) (by decide) rfl (fun ls hl => ?_)
              refine lv_goto (tgt := 13) hx hb dX6_wordKind_97 (by decide) ?_
              exact ih_13 (x3 + 1) a2 1 (x6 + 1) _ _ _ (by omega) (by omega) (by omega) (by omega) (by omega) (by omega) (by have h := hI; first | (rw [wl_ne (i := x6) (by omega) (by omega) (by omega)] at h; first | (rw [if_pos (by omega)] at h; exact h) | (rw [if_neg (by omega)] at h; exact h)) | (rw [wl_sp (i := x6) (by omega) (by omega) (by omega), if_neg (by omega)] at h; exact h)) hP hS (lv_sub hl [5, 6, 7, 3, 2, 1, 0] rfl)
            · refine lv_iload_n hx hb dX6_wordKind_83 rfl (lv_at hl 4 rfl) ?_
              exact g_iret hQ C hr hlocks hP hS dX6_wordKind_84 ⟨x3, rfl, rfl, rfl, rfl, (by have h := hI; first | (rw [wl_sp (i := x6) (by omega) (by omega) (by omega), if_pos (by omega)] at h; exact h) | (rw [wl_end (i := x6) (by omega) (by omega)] at h; exact h)), (by first | omega | (split <;> omega))⟩
        · refine lv_iload hx hb dX6_wordKind_39 (lv_at hl 6 rfl) ?_
          refine gi_zeq (tgt := 63) hx hb dX6_wordKind_41 (by decide) (by omega) (fun c_7 => ?_) (fun c_7 => ?_)
          · refine lv_iconst (v := iI 0) hx hb dX6_wordKind_63 rfl ?_
            refine lv_istore (lv' := [(5, .int (iI 0)), (7, .int (iI (gEch x6))), (0, .ref (ad 1)), (1, .int (iI a2)), (2, .int (iI a3)), (3, .int (iI x3)), (4, .int (iI x4)), (6, .int (iI x6))]) hx hb dX6_wordKind_64 hl (by decide) rfl (fun ls hl => ?_)
            refine lv_iinc (v := iI (x4 + 1)) (lv' := [(4, .int (iI (x4 + 1))), (5, .int (iI 0)), (7, .int (iI (gEch x6))), (0, .ref (ad 1)), (1, .int (iI a2)), (2, .int (iI a3)), (3, .int (iI x3)), (6, .int (iI x6))]) hx hb dX6_wordKind_66 hl (k := 6) rfl (by show iI _ + iI 1 = _; rw [iI_add]) (by decide) rfl (fun ls hl => ?_)
            refine lv_goto (tgt := 94) hx hb dX6_wordKind_69 (by decide) ?_
            refine lv_iinc (v := iI (x6 + 1)) (lv' := [(6, .int (iI (x6 + 1))), (4, .int (iI (x4 + 1))), (5, .int (iI 0)), (7, .int (iI (gEch x6))), (0, .ref (ad 1)), (1, .int (iI a2)), (2, .int (iI a3)), (3, .int (iI x3))]) hx hb dX6_wordKind_94 hl (k := 7) rfl (by show iI _ + iI 1 = _; rw [iI_add]) (by decide) rfl (fun ls hl => ?_)
            refine lv_goto (tgt := 13) hx hb dX6_wordKind_97 (by decide) ?_
            exact ih_13 x3 (x4 + 1) 0 (x6 + 1) _ _ _ (by omega) (by omega) (by omega) (by omega) (by omega) (by omega) (by have h := hI; first | (rw [wl_ne (i := x6) (by omega) (by omega) (by omega)] at h; first | (rw [if_pos (by omega)] at h; exact h) | (rw [if_neg (by omega)] at h; exact h)) | (rw [wl_sp (i := x6) (by omega) (by omega) (by omega), if_neg (by omega)] at h; exact h)) hP hS (lv_sub hl [4, 5, 6, 7, 1, 2, 0] rfl)
          · refine lv_iload hx hb dX6_wordKind_44 (lv_at hl 5 rfl) ?_
            refine lv_iload_n hx hb dX6_wordKind_46 rfl (lv_at hl 3 rfl) ?_
            refine gi_cge (tgt := 63) hx hb dX6_wordKind_47 (by decide) (by omega) (by omega) (fun c_8 => ?_) (fun c_8 => ?_)
            · refine lv_iconst (v := iI 0) hx hb dX6_wordKind_63 rfl ?_
              refine lv_istore (lv' := [(5, .int (iI 0)), (7, .int (iI (gEch x6))), (0, .ref (ad 1)), (1, .int (iI a2)), (2, .int (iI a3)), (3, .int (iI x3)), (4, .int (iI x4)), (6, .int (iI x6))]) hx hb dX6_wordKind_64 hl (by decide) rfl (fun ls hl => ?_)
              refine lv_iinc (v := iI (x4 + 1)) (lv' := [(4, .int (iI (x4 + 1))), (5, .int (iI 0)), (7, .int (iI (gEch x6))), (0, .ref (ad 1)), (1, .int (iI a2)), (2, .int (iI a3)), (3, .int (iI x3)), (6, .int (iI x6))]) hx hb dX6_wordKind_66 hl (k := 6) rfl (by show iI _ + iI 1 = _; rw [iI_add]) (by decide) rfl (fun ls hl => ?_)
              refine lv_goto (tgt := 94) hx hb dX6_wordKind_69 (by decide) ?_
              refine lv_iinc (v := iI (x6 + 1)) (lv' := [(6, .int (iI (x6 + 1))), (4, .int (iI (x4 + 1))), (5, .int (iI 0)), (7, .int (iI (gEch x6))), (0, .ref (ad 1)), (1, .int (iI a2)), (2, .int (iI a3)), (3, .int (iI x3))]) hx hb dX6_wordKind_94 hl (k := 7) rfl (by show iI _ + iI 1 = _; rw [iI_add]) (by decide) rfl (fun ls hl => ?_)
              refine lv_goto (tgt := 13) hx hb dX6_wordKind_97 (by decide) ?_
              exact ih_13 x3 (x4 + 1) 0 (x6 + 1) _ _ _ (by omega) (by omega) (by omega) (by omega) (by omega) (by omega) (by have h := hI; first | (rw [wl_ne (i := x6) (by omega) (by omega) (by omega)] at h; first | (rw [if_pos (by omega)] at h; exact h) | (rw [if_neg (by omega)] at h; exact h)) | (rw [wl_sp (i := x6) (by omega) (by omega) (by omega), if_neg (by omega)] at h; exact h)) hP hS (lv_sub hl [4, 5, 6, 7, 1, 2, 0] rfl)
            · refine lv_aload_n hx hb dX6_wordKind_50 rfl (lv_at hl 1 rfl) ?_
              refine lv_iload hx hb dX6_wordKind_51 (lv_at hl 5 rfl) ?_
              refine rwL_tape C hP (by omega) (by omega) dX6_wordKind_53 ?_
              have r_9 : 0 ≤ (f 0 x4) ∧ (f 0 x4) ≤ 255 := hP.2.2 0 x4
              refine lv_iload hx hb dX6_wordKind_54 (lv_at hl 0 rfl) ?_
              refine gi_cne (tgt := 63) hx hb dX6_wordKind_56 (by decide) (by omega) (by omega) (fun c_10 => ?_) (fun c_10 => ?_)
              · refine lv_iconst (v := iI 0) hx hb dX6_wordKind_63 rfl ?_
                refine lv_istore (lv' := [(5, .int (iI 0)), (7, .int (iI (gEch x6))), (0, .ref (ad 1)), (1, .int (iI a2)), (2, .int (iI a3)), (3, .int (iI x3)), (4, .int (iI x4)), (6, .int (iI x6))]) hx hb dX6_wordKind_64 hl (by decide) rfl (fun ls hl => ?_)
                refine lv_iinc (v := iI (x4 + 1)) (lv' := [(4, .int (iI (x4 + 1))), (5, .int (iI 0)), (7, .int (iI (gEch x6))), (0, .ref (ad 1)), (1, .int (iI a2)), (2, .int (iI a3)), (3, .int (iI x3)), (6, .int (iI x6))]) hx hb dX6_wordKind_66 hl (k := 6) rfl (by show iI _ + iI 1 = _; rw [iI_add]) (by decide) rfl (fun ls hl => ?_)
                refine lv_goto (tgt := 94) hx hb dX6_wordKind_69 (by decide) ?_
                refine lv_iinc (v := iI (x6 + 1)) (lv' := [(6, .int (iI (x6 + 1))), (4, .int (iI (x4 + 1))), (5, .int (iI 0)), (7, .int (iI (gEch x6))), (0, .ref (ad 1)), (1, .int (iI a2)), (2, .int (iI a3)), (3, .int (iI x3))]) hx hb dX6_wordKind_94 hl (k := 7) rfl (by show iI _ + iI 1 = _; rw [iI_add]) (by decide) rfl (fun ls hl => ?_)
                refine lv_goto (tgt := 13) hx hb dX6_wordKind_97 (by decide) ?_
                exact ih_13 x3 (x4 + 1) 0 (x6 + 1) _ _ _ (by omega) (by omega) (by omega) (by omega) (by omega) (by omega) (by have h := hI; first | (rw [wl_ne (i := x6) (by omega) (by omega) (by omega)] at h; first | (rw [if_pos (by omega)] at h; exact h) | (rw [if_neg (by omega)] at h; exact h)) | (rw [wl_sp (i := x6) (by omega) (by omega) (by omega), if_neg (by omega)] at h; exact h)) hP hS (lv_sub hl [4, 5, 6, 7, 1, 2, 0] rfl)
              · refine lv_iconst (v := iI 1) hx hb dX6_wordKind_59 rfl ?_
                refine lv_goto (tgt := 64) hx hb dX6_wordKind_60 (by decide) ?_
                refine lv_istore (lv' := [(5, .int (iI 1)), (7, .int (iI (gEch x6))), (0, .ref (ad 1)), (1, .int (iI a2)), (2, .int (iI a3)), (3, .int (iI x3)), (4, .int (iI x4)), (6, .int (iI x6))]) hx hb dX6_wordKind_64 hl (by decide) rfl (fun ls hl => ?_)
                refine lv_iinc (v := iI (x4 + 1)) (lv' := [(4, .int (iI (x4 + 1))), (5, .int (iI 1)), (7, .int (iI (gEch x6))), (0, .ref (ad 1)), (1, .int (iI a2)), (2, .int (iI a3)), (3, .int (iI x3)), (6, .int (iI x6))]) hx hb dX6_wordKind_66 hl (k := 6) rfl (by show iI _ + iI 1 = _; rw [iI_add]) (by decide) rfl (fun ls hl => ?_)
                refine lv_goto (tgt := 94) hx hb dX6_wordKind_69 (by decide) ?_
                refine lv_iinc (v := iI (x6 + 1)) (lv' := [(6, .int (iI (x6 + 1))), (4, .int (iI (x4 + 1))), (5, .int (iI 1)), (7, .int (iI (gEch x6))), (0, .ref (ad 1)), (1, .int (iI a2)), (2, .int (iI a3)), (3, .int (iI x3))]) hx hb dX6_wordKind_94 hl (k := 7) rfl (by show iI _ + iI 1 = _; rw [iI_add]) (by decide) rfl (fun ls hl => ?_)
                refine lv_goto (tgt := 13) hx hb dX6_wordKind_97 (by decide) ?_
                exact ih_13 x3 (x4 + 1) 1 (x6 + 1) _ _ _ (by omega) (by omega) (by omega) (by omega) (by omega) (by omega) (by have h := hI; first | (rw [wl_ne (i := x6) (by omega) (by omega) (by omega)] at h; first | (rw [if_pos (by omega)] at h; exact h) | (rw [if_neg (by omega)] at h; exact h)) | (rw [wl_sp (i := x6) (by omega) (by omega) (by omega), if_neg (by omega)] at h; exact h)) hP hS (lv_sub hl [4, 5, 6, 7, 1, 2, 0] rfl)
  exact L_1 98 260 a2 1 0 _ _ _ (by omega) (by omega) (by omega) rfl (by omega) (by decide) rfl hP hS (lv_sub hl [4, 5, 6, 3, 2, 1, 0] rfl)

set_option maxHeartbeats 4000000 in
set_option maxRecDepth 100000 in
theorem e_To_putWord (l : Launch) (D : va_G) (k : Nat → ClassId) (A : Nat → Prop) (ad : Nat → Nat) (hD : rwD A k ad) (za : Nat → Nat) (v : gV) (f g : gF) (a2 : Int) (a3 : Int) (h_a2 : inR a2) (h_a3 : inR a3) (h0 : (v 5) < 701) (h2 : 0 ≤ a2 ∧ a2 ≤ a3) (h3 : a3 ≤ 700) : GE l D k za A (rwT k ad) yX6_putWord cX6_putWord 5 (some .int) 5 112 [.ref (ad 10), .ref (ad 1), .int (iI a2), .int (iI a3)] v f g (fun r v1 f1 g1 => ∃ (z : Int), r = some (.int (iI z)) ∧ (va_up v 5 ((v 5) + 1)) = v1 ∧ (va_up (va_up (va_up f 6 (u1 (f 6) (v 5) (wK (f 0) a2 z))) 7 (u1 (f 7) (v 5) a2)) 8 (u1 (f 8) (v 5) 0)) = f1 ∧ g = g1 ∧ (z = (run bL (f 0) a3 a2)) ∧ (a2 ≤ z ∧ z ≤ a3)) := by
  refine GE.of (by decide) (Nat.le_of_ble_eq_true rfl) ?_
  intro p e s m args below meth c Q ls hQ C hml hr hlocks hP hl hE
  have hx := C.1
  have hb := C.2.1
  have hok := hP.2
  have hS : va_S A s.heap s.heap [] := va_S.rf
  have hl : lv_has ls 5 [(0, .ref (ad 10)), (1, .ref (ad 1)), (2, .int (iI a2)), (3, .int (iI a3))] := hl
  have hP : gWd D (rwT k ad) (va_up v 5 (v 5)) (va_up (va_up (va_up f 6 (f 6)) 7 (f 7)) 8 (f 8)) g s.heap := by rw [va_id, va_id, va_id, va_id]; exact hP
  refine lv_iload_n hx hb dX6_putWord_0 rfl (lv_at hl 2 rfl) ?_
  refine lv_istore (lv' := [(4, .int (iI a2)), (0, .ref (ad 10)), (1, .ref (ad 1)), (2, .int (iI a2)), (3, .int (iI a3))]) hx hb dX6_putWord_1 hl (by decide) rfl (fun ls hl => ?_)
  have L_1 : ∀ (n : Nat) (x4 : Int) (H : Heap) (locs : List Loc) (ls : Array Slot), 700 - x4 < (n : Int) → (a2 ≤ x4 ∧ x4 ≤ a3) → (∀ j, a2 ≤ j → j < x4 → j < a3 ∧ pL ((f 0) j)) → gWd D (rwT k ad) (va_up v 5 (v 5)) (va_up (va_up (va_up f 6 (f 6)) 7 (f 7)) 8 (f 8)) g H → va_S A s.heap H locs → lv_has ls 5 [(0, .ref (ad 10)), (1, .ref (ad 1)), (2, .int (iI a2)), (3, .int (iI a3)), (4, .int (iI x4))] → W p l e (gRm 5 112) s m args below meth c H locs 0 0 Q (F0 m 3 ls []) := by
    intro n
    induction n with
    | zero =>
      intro x4 H locs ls hn_1 i1_0 i1_1 hP hS hl
      exfalso; omega
    | succ n ih_3 =>
      intro x4 H locs ls hn_1 i1_0 i1_1 hP hS hl
      have hI := i1_1
      refine lv_iload hx hb dX6_putWord_3 (lv_at hl 4 rfl) ?_
      refine lv_iload_n hx hb dX6_putWord_5 rfl (lv_at hl 3 rfl) ?_
      refine gi_cge (tgt := 25) hx hb dX6_putWord_6 (by decide) (by omega) (by omega) (fun c_2 => ?_) (fun c_2 => ?_)
      · refine lv_aload_n hx hb dX6_putWord_25 rfl (lv_at hl 0 rfl) ?_
        refine lv_aload_n hx hb dX6_putWord_26 rfl (lv_at hl 1 rfl) ?_
        refine lv_iload_n hx hb dX6_putWord_27 rfl (lv_at hl 2 rfl) ?_
        refine lv_iload hx hb dX6_putWord_28 (lv_at hl 4 rfl) ?_
        refine g_csE (As := [.ref (ad 1), .int (iI a2), .int (iI x4)]) (rest := [.ref (ad 10)]) (n := 3) C hE hml (e_To_wordKind l D k A ad hD za (va_up v 5 (v 5)) (va_up (va_up (va_up f 6 (f 6)) 7 (f 7)) 8 (f 8)) g a2 x4 (by omega) (by omega) (show 0 ≤ a2 ∧ a2 ≤ x4 from by omega) (show x4 ≤ 700 from by omega)) mM_X6_49 mS_X6_wordKind mN_X6 mC_X6_wordKind (by decide +kernel) hP hS (fun _ h => h) ⟨Nat.le_of_ble_eq_true rfl, Nat.le_of_ble_eq_true rfl⟩ ⟨Nat.zero_le _, Nat.zero_le _⟩ hl.1 rfl rfl (Nat.le_of_ble_eq_true rfl) dX6_putWord_30 (fun r_3 v_3 f_3 g_3 H locs hq_3 hP _ hS => ?_)
        obtain ⟨z_3, rfl, rfl, rfl, rfl, p0_3, p1_3⟩ := hq_3
        show W p l e (gRm 5 112) s m args below meth c _ _ 0 0 Q (F0 m 33 ls [.int (iI z_3), .ref (ad 10)])
        replace p0_3 : z_3 = (wK (f 0) a2 x4) := p0_3
        replace p1_3 : 259 ≤ z_3 ∧ z_3 ≤ 277 := p1_3
        have hz_3 : inR z_3 := (by first | omega | (rw [p0_3]; split <;> omega))
        have hwk := p0_3
        refine lv_iload_n hx hb dX6_putWord_33 rfl (lv_at hl 2 rfl) ?_
        refine lv_iconst (v := iI 0) hx hb dX6_putWord_34 rfl ?_
        refine g_cv (As := [.int (iI z_3), .int (iI a2), .int (iI 0)]) (rest := []) (n := 3) C hml (e_To_put l D k A ad hD (va_up v 5 (v 5)) (va_up (va_up (va_up f 6 (f 6)) 7 (f 7)) 8 (f 8)) g z_3 a2 0 (by omega) (by omega) (by decide) (show (v 5) < 701 from by omega) (show 0 ≤ z_3 ∧ z_3 ≤ 300 from by omega) (show 0 ≤ a2 ∧ a2 ≤ 700 from by omega) (show 0 ≤ (0 : Int) ∧ (0 : Int) ≤ 999999 from by omega)) mM_X6_45 mI_X6_put mE_X6_put mN_X6 mC_X6_put (by decide +kernel) 10 (ci := 6) rfl rfl hP hS (fun _ h => h) ⟨Nat.le_of_ble_eq_true rfl, Nat.le_of_ble_eq_true rfl⟩ ⟨Nat.zero_le _, Nat.zero_le _⟩ hl.1 rfl rfl (Nat.le_of_ble_eq_true rfl) dX6_putWord_35 (fun r_4 v_4 f_4 g_4 H locs hq_4 hP _ hS => ?_)
        obtain ⟨rfl, rfl, rfl, rfl⟩ := hq_4
        show W p l e (gRm 5 112) s m args below meth c _ _ 0 0 Q (F0 m 38 ls [])
        have hP : gWd D (rwT k ad) (va_up v 5 ((v 5) + 1)) (va_up (va_up (va_up f 6 (u1 (f 6) (v 5) z_3)) 7 (u1 (f 7) (v 5) a2)) 8 (u1 (f 8) (v 5) (0 : Int))) g H := ⟨hP.1, (gF_up (V := rwV) (F := rwF) (gF_up (V := rwV) (F := rwF) (gF_up (V := rwV) (F := rwF) (gR_up (V := rwV) (F := rwF) ⟨hok.1, hok.2⟩ 5 (hP.2.1 5)) 6 (hP.2.2 6)) 7 (hP.2.2 7)) 8 (hP.2.2 8))⟩
        refine lv_iload hx hb dX6_putWord_38 (lv_at hl 4 rfl) ?_
        exact g_iret hQ C hr hlocks hP hS dX6_putWord_40 ⟨x4, rfl, rfl, (by rw [show ((u1 (f 6) (v 5) (wK (f 0) a2 x4)) : Int → Int) = (u1 (f 6) (v 5) z_3) from by rw [hwk]]), rfl, (runL_eq (B := (f 0)) (n := a3) (p := a2) (q := x4) (by omega) hI (by omega)).symm, (by first | omega | (split <;> omega))⟩
      · refine lv_aload_n hx hb dX6_putWord_9 rfl (lv_at hl 1 rfl) ?_
        refine lv_iload hx hb dX6_putWord_10 (lv_at hl 4 rfl) ?_
        refine rwL_tape C hP (by omega) (by omega) dX6_putWord_12 ?_
        show W p l e (gRm 5 112) s m args below meth c _ _ 0 0 Q (F0 m 13 ls [.int (iI (f 0 x4))])
        have r_5 : 0 ≤ (f 0 x4) ∧ (f 0 x4) ≤ 255 := hP.2.2 0 x4
        refine g_cs (As := [.int (iI (f 0 x4))]) (rest := []) (n := 1) C hml (e_To_isLetter l D k A ad hD (va_up v 5 (v 5)) (va_up (va_up (va_up f 6 (f 6)) 7 (f 7)) 8 (f 8)) g (f 0 x4) (by omega)) mM_X6_28 mS_X6_isLetter mN_X6 mC_X6_isLetter (by decide +kernel) hP hS (fun _ h => h) ⟨Nat.le_of_ble_eq_true rfl, Nat.le_of_ble_eq_true rfl⟩ ⟨Nat.zero_le _, Nat.zero_le _⟩ hl.1 rfl rfl (Nat.le_of_ble_eq_true rfl) dX6_putWord_13 (fun r_6 v_6 f_6 g_6 H locs hq_6 hP _ hS => ?_)
        obtain ⟨z_6, rfl, rfl, rfl, rfl, p0_6⟩ := hq_6
        show W p l e (gRm 5 112) s m args below meth c _ _ 0 0 Q (F0 m 16 ls [.int (iI z_6)])
        replace p0_6 : z_6 = (if 97 ≤ (f 0 x4) ∧ (f 0 x4) ≤ 122 then 1 else 0) := p0_6
        have w_6 := gif (P := 97 ≤ (f 0 x4) ∧ (f 0 x4) ≤ 122) p0_6
        have hz_6 : inR z_6 := (by first | omega | (rw [p0_6]; split <;> omega))
        refine gi_zeq (tgt := 25) hx hb dX6_putWord_16 (by decide) (by omega) (fun c_7 => ?_) (fun c_7 => ?_)
        · refine lv_aload_n hx hb dX6_putWord_25 rfl (lv_at hl 0 rfl) ?_
          refine lv_aload_n hx hb dX6_putWord_26 rfl (lv_at hl 1 rfl) ?_
          refine lv_iload_n hx hb dX6_putWord_27 rfl (lv_at hl 2 rfl) ?_
          refine lv_iload hx hb dX6_putWord_28 (lv_at hl 4 rfl) ?_
          refine g_csE (As := [.ref (ad 1), .int (iI a2), .int (iI x4)]) (rest := [.ref (ad 10)]) (n := 3) C hE hml (e_To_wordKind l D k A ad hD za (va_up v 5 (v 5)) (va_up (va_up (va_up f 6 (f 6)) 7 (f 7)) 8 (f 8)) g a2 x4 (by omega) (by omega) (show 0 ≤ a2 ∧ a2 ≤ x4 from by omega) (show x4 ≤ 700 from by omega)) mM_X6_49 mS_X6_wordKind mN_X6 mC_X6_wordKind (by decide +kernel) hP hS (fun _ h => h) ⟨Nat.le_of_ble_eq_true rfl, Nat.le_of_ble_eq_true rfl⟩ ⟨Nat.zero_le _, Nat.zero_le _⟩ hl.1 rfl rfl (Nat.le_of_ble_eq_true rfl) dX6_putWord_30 (fun r_8 v_8 f_8 g_8 H locs hq_8 hP _ hS => ?_)
          obtain ⟨z_8, rfl, rfl, rfl, rfl, p0_8, p1_8⟩ := hq_8
          show W p l e (gRm 5 112) s m args below meth c _ _ 0 0 Q (F0 m 33 ls [.int (iI z_8), .ref (ad 10)])
          replace p0_8 : z_8 = (wK (f 0) a2 x4) := p0_8
          replace p1_8 : 259 ≤ z_8 ∧ z_8 ≤ 277 := p1_8
          have hz_8 : inR z_8 := (by first | omega | (rw [p0_8]; split <;> omega))
          have hwk := p0_8
          refine lv_iload_n hx hb dX6_putWord_33 rfl (lv_at hl 2 rfl) ?_
          refine lv_iconst (v := iI 0) hx hb dX6_putWord_34 rfl ?_
          refine g_cv (As := [.int (iI z_8), .int (iI a2), .int (iI 0)]) (rest := []) (n := 3) C hml (e_To_put l D k A ad hD (va_up v 5 (v 5)) (va_up (va_up (va_up f 6 (f 6)) 7 (f 7)) 8 (f 8)) g z_8 a2 0 (by omega) (by omega) (by decide) (show (v 5) < 701 from by omega) (show 0 ≤ z_8 ∧ z_8 ≤ 300 from by omega) (show 0 ≤ a2 ∧ a2 ≤ 700 from by omega) (show 0 ≤ (0 : Int) ∧ (0 : Int) ≤ 999999 from by omega)) mM_X6_45 mI_X6_put mE_X6_put mN_X6 mC_X6_put (by decide +kernel) 10 (ci := 6) rfl rfl hP hS (fun _ h => h) ⟨Nat.le_of_ble_eq_true rfl, Nat.le_of_ble_eq_true rfl⟩ ⟨Nat.zero_le _, Nat.zero_le _⟩ hl.1 rfl rfl (Nat.le_of_ble_eq_true rfl) dX6_putWord_35 (fun r_9 v_9 f_9 g_9 H locs hq_9 hP _ hS => ?_)
          obtain ⟨rfl, rfl, rfl, rfl⟩ := hq_9
          show W p l e (gRm 5 112) s m args below meth c _ _ 0 0 Q (F0 m 38 ls [])
          have hP : gWd D (rwT k ad) (va_up v 5 ((v 5) + 1)) (va_up (va_up (va_up f 6 (u1 (f 6) (v 5) z_8)) 7 (u1 (f 7) (v 5) a2)) 8 (u1 (f 8) (v 5) (0 : Int))) g H := ⟨hP.1, (gF_up (V := rwV) (F := rwF) (gF_up (V := rwV) (F := rwF) (gF_up (V := rwV) (F := rwF) (gR_up (V := rwV) (F := rwF) ⟨hok.1, hok.2⟩ 5 (hP.2.1 5)) 6 (hP.2.2 6)) 7 (hP.2.2 7)) 8 (hP.2.2 8))⟩
          refine lv_iload hx hb dX6_putWord_38 (lv_at hl 4 rfl) ?_
          exact g_iret hQ C hr hlocks hP hS dX6_putWord_40 ⟨x4, rfl, rfl, (by rw [show ((u1 (f 6) (v 5) (wK (f 0) a2 x4)) : Int → Int) = (u1 (f 6) (v 5) z_8) from by rw [hwk]]), rfl, (runL_eq (B := (f 0)) (n := a3) (p := a2) (q := x4) (by omega) hI (by omega)).symm, (by first | omega | (split <;> omega))⟩
        · refine lv_iinc (v := iI (x4 + 1)) (lv' := [(4, .int (iI (x4 + 1))), (0, .ref (ad 10)), (1, .ref (ad 1)), (2, .int (iI a2)), (3, .int (iI a3))]) hx hb dX6_putWord_19 hl (k := 4) rfl (by show iI _ + iI 1 = _; rw [iI_add]) (by decide) rfl (fun ls hl => ?_)
          refine lv_goto (tgt := 3) hx hb dX6_putWord_22 (by decide) ?_
          exact ih_3 (x4 + 1) _ _ _ (by omega) (by omega) (run_snoc hI (by omega) (by omega)) hP hS (lv_sub hl [1, 2, 3, 4, 0] rfl)
  exact L_1 701 a2 _ _ _ (by omega) (by omega) run_none hP hS (lv_sub hl [1, 2, 3, 4, 0] rfl)

set_option maxHeartbeats 4000000 in
set_option maxRecDepth 100000 in
theorem e_To_putNumber (l : Launch) (D : va_G) (k : Nat → ClassId) (A : Nat → Prop) (ad : Nat → Nat) (hD : rwD A k ad) (v : gV) (f g : gF) (a2 : Int) (a3 : Int) (h_a2 : inR a2) (h_a3 : inR a3) (h0 : (v 5) < 701) (h2 : 0 ≤ a2 ∧ a2 ≤ a3) (h3 : a3 ≤ 700) : GM l D k A (rwT k ad) yX6_putNumber cX6_putNumber 6 (some .int) 1 23 [.ref (ad 10), .ref (ad 1), .int (iI a2), .int (iI a3)] v f g (fun r v1 f1 g1 => ∃ (z : Int), r = some (.int (iI z)) ∧ (va_up v 5 ((v 5) + 1)) = v1 ∧ (va_up (va_up (va_up f 6 (u1 (f 6) (v 5) (if 6 < z - a2 then 257 else 258))) 7 (u1 (f 7) (v 5) a2)) 8 (u1 (f 8) (v 5) (nV (f 0) a2 (z - a2).toNat))) = f1 ∧ g = g1 ∧ (z = (run bD (f 0) a3 a2)) ∧ (a2 ≤ z ∧ z ≤ a3)) := by
  refine GM.of (by decide) (Nat.le_of_ble_eq_true rfl) ?_
  intro p e s m args below meth c Q ls hQ C hml hr hlocks hP hl
  have hx := C.1
  have hb := C.2.1
  have hok := hP.2
  have hS : va_S A s.heap s.heap [] := va_S.rf
  have hl : lv_has ls 6 [(0, .ref (ad 10)), (1, .ref (ad 1)), (2, .int (iI a2)), (3, .int (iI a3))] := hl
  have hP : gWd D (rwT k ad) (va_up v 5 (v 5)) (va_up (va_up (va_up f 6 (f 6)) 7 (f 7)) 8 (f 8)) g s.heap := by rw [va_id, va_id, va_id, va_id]; exact hP
  refine lv_iload_n hx hb dX6_putNumber_0 rfl (lv_at hl 2 rfl) ?_
  refine lv_istore (lv' := [(4, .int (iI a2)), (0, .ref (ad 10)), (1, .ref (ad 1)), (2, .int (iI a2)), (3, .int (iI a3))]) hx hb dX6_putNumber_1 hl (by decide) rfl (fun ls hl => ?_)
  refine lv_iconst (v := iI 0) hx hb dX6_putNumber_3 rfl ?_
  refine lv_istore (lv' := [(5, .int (iI 0)), (4, .int (iI a2)), (0, .ref (ad 10)), (1, .ref (ad 1)), (2, .int (iI a2)), (3, .int (iI a3))]) hx hb dX6_putNumber_4 hl (by decide) rfl (fun ls hl => ?_)
  have L_1 : ∀ (n : Nat) (x4 : Int) (x5 : Int) (H : Heap) (locs : List Loc) (ls : Array Slot), 700 - x4 < (n : Int) → (a2 ≤ x4 ∧ x4 ≤ a3) → (∀ j, a2 ≤ j → j < x4 → j < a3 ∧ pD ((f 0) j)) → (x5 = nV (f 0) a2 (x4 - a2).toNat) → gWd D (rwT k ad) (va_up v 5 (v 5)) (va_up (va_up (va_up f 6 (f 6)) 7 (f 7)) 8 (f 8)) g H → va_S A s.heap H locs → lv_has ls 6 [(0, .ref (ad 10)), (1, .ref (ad 1)), (2, .int (iI a2)), (3, .int (iI a3)), (4, .int (iI x4)), (5, .int (iI x5))] → W p l e (gRm 1 23) s m args below meth c H locs 0 0 Q (F0 m 6 ls []) := by
    intro n
    induction n with
    | zero =>
      intro x4 x5 H locs ls hn_1 i1_0 i1_1 i1_2 hP hS hl
      exfalso; omega
    | succ n ih_6 =>
      intro x4 x5 H locs ls hn_1 i1_0 i1_1 i1_2 hP hS hl
      have hI := i1_1
      have hN := i1_2
      have hR := nV_rng (B := (f 0)) (q := a2) (x4 - a2).toNat (runD_mem (fun j b1 b2 => (hI j b1 b2).2) (by omega))
      refine lv_iload hx hb dX6_putNumber_6 (lv_at hl 4 rfl) ?_
      refine lv_iload_n hx hb dX6_putNumber_8 rfl (lv_at hl 3 rfl) ?_
      refine gi_cge (tgt := 52) hx hb dX6_putNumber_9 (by decide) (by omega) (by omega) (fun c_2 => ?_) (fun c_2 => ?_)
      · refine lv_aload_n hx hb dX6_putNumber_52 rfl (lv_at hl 0 rfl) ?_
        refine lv_iload hx hb dX6_putNumber_53 (lv_at hl 4 rfl) ?_
        refine lv_iload_n hx hb dX6_putNumber_55 rfl (lv_at hl 2 rfl) ?_
        refine gi_sub (z := (x4 - a2)) hx hb dX6_putNumber_56 rfl ?_
        refine lv_bipush (v := iI 6) hx hb dX6_putNumber_57 (by decide) ?_
        refine gi_cle (tgt := 68) hx hb dX6_putNumber_59 (by decide) (by omega) (by decide) (fun c_3 => ?_) (fun c_3 => ?_)
        · refine lv_sipush (v := iI 258) hx hb dX6_putNumber_68 (by decide) ?_
          refine lv_iload_n hx hb dX6_putNumber_71 rfl (lv_at hl 2 rfl) ?_
          refine lv_iload hx hb dX6_putNumber_72 (lv_at hl 5 rfl) ?_
          refine g_cv (As := [.int (iI 258), .int (iI a2), .int (iI x5)]) (rest := []) (n := 3) C hml (e_To_put l D k A ad hD (va_up v 5 (v 5)) (va_up (va_up (va_up f 6 (f 6)) 7 (f 7)) 8 (f 8)) g 258 a2 x5 (by decide) (by omega) (by omega) (show (v 5) < 701 from by omega) (show 0 ≤ (258 : Int) ∧ (258 : Int) ≤ 300 from by omega) (show 0 ≤ a2 ∧ a2 ≤ 700 from by omega) (show 0 ≤ x5 ∧ x5 ≤ 999999 from by omega)) mM_X6_45 mI_X6_put mE_X6_put mN_X6 mC_X6_put (by decide +kernel) 10 (ci := 6) rfl rfl hP hS (fun _ h => h) ⟨Nat.le_of_ble_eq_true rfl, Nat.le_of_ble_eq_true rfl⟩ ⟨Nat.zero_le _, Nat.zero_le _⟩ hl.1 rfl rfl (Nat.le_of_ble_eq_true rfl) dX6_putNumber_74 (fun r_4 v_4 f_4 g_4 H locs hq_4 hP _ hS => ?_)
          obtain ⟨rfl, rfl, rfl, rfl⟩ := hq_4
          show W p l e (gRm 1 23) s m args below meth c _ _ 0 0 Q (F0 m 77 ls [])
          have hP : gWd D (rwT k ad) (va_up v 5 ((v 5) + 1)) (va_up (va_up (va_up f 6 (u1 (f 6) (v 5) (258 : Int))) 7 (u1 (f 7) (v 5) a2)) 8 (u1 (f 8) (v 5) x5)) g H := ⟨hP.1, (gF_up (V := rwV) (F := rwF) (gF_up (V := rwV) (F := rwF) (gF_up (V := rwV) (F := rwF) (gR_up (V := rwV) (F := rwF) ⟨hok.1, hok.2⟩ 5 (hP.2.1 5)) 6 (hP.2.2 6)) 7 (hP.2.2 7)) 8 (hP.2.2 8))⟩
          refine lv_iload hx hb dX6_putNumber_77 (lv_at hl 4 rfl) ?_
          exact g_iret hQ C hr hlocks hP hS dX6_putNumber_79 ⟨x4, rfl, rfl, (by rw [show ((u1 (f 6) (v 5) (if 6 < x4 - a2 then 257 else 258)) : Int → Int) = (u1 (f 6) (v 5) (258 : Int)) from by first | rw [if_pos (by omega)] | rw [if_neg (by omega)], show ((u1 (f 8) (v 5) (nV (f 0) a2 (x4 - a2).toNat)) : Int → Int) = (u1 (f 8) (v 5) x5) from by rw [hN]]), rfl, (runD_eq (B := (f 0)) (n := a3) (p := a2) (q := x4) (by omega) hI (by omega)).symm, (by first | omega | (split <;> omega))⟩
        · refine lv_sipush (v := iI 257) hx hb dX6_putNumber_62 (by decide) ?_
          refine lv_goto (tgt := 71) hx hb dX6_putNumber_65 (by decide) ?_
          refine lv_iload_n hx hb dX6_putNumber_71 rfl (lv_at hl 2 rfl) ?_
          refine lv_iload hx hb dX6_putNumber_72 (lv_at hl 5 rfl) ?_
          refine g_cv (As := [.int (iI 257), .int (iI a2), .int (iI x5)]) (rest := []) (n := 3) C hml (e_To_put l D k A ad hD (va_up v 5 (v 5)) (va_up (va_up (va_up f 6 (f 6)) 7 (f 7)) 8 (f 8)) g 257 a2 x5 (by decide) (by omega) (by omega) (show (v 5) < 701 from by omega) (show 0 ≤ (257 : Int) ∧ (257 : Int) ≤ 300 from by omega) (show 0 ≤ a2 ∧ a2 ≤ 700 from by omega) (show 0 ≤ x5 ∧ x5 ≤ 999999 from by omega)) mM_X6_45 mI_X6_put mE_X6_put mN_X6 mC_X6_put (by decide +kernel) 10 (ci := 6) rfl rfl hP hS (fun _ h => h) ⟨Nat.le_of_ble_eq_true rfl, Nat.le_of_ble_eq_true rfl⟩ ⟨Nat.zero_le _, Nat.zero_le _⟩ hl.1 rfl rfl (Nat.le_of_ble_eq_true rfl) dX6_putNumber_74 (fun r_5 v_5 f_5 g_5 H locs hq_5 hP _ hS => ?_)
          obtain ⟨rfl, rfl, rfl, rfl⟩ := hq_5
          show W p l e (gRm 1 23) s m args below meth c _ _ 0 0 Q (F0 m 77 ls [])
          have hP : gWd D (rwT k ad) (va_up v 5 ((v 5) + 1)) (va_up (va_up (va_up f 6 (u1 (f 6) (v 5) (257 : Int))) 7 (u1 (f 7) (v 5) a2)) 8 (u1 (f 8) (v 5) x5)) g H := ⟨hP.1, (gF_up (V := rwV) (F := rwF) (gF_up (V := rwV) (F := rwF) (gF_up (V := rwV) (F := rwF) (gR_up (V := rwV) (F := rwF) ⟨hok.1, hok.2⟩ 5 (hP.2.1 5)) 6 (hP.2.2 6)) 7 (hP.2.2 7)) 8 (hP.2.2 8))⟩
          refine lv_iload hx hb dX6_putNumber_77 (lv_at hl 4 rfl) ?_
          exact g_iret hQ C hr hlocks hP hS dX6_putNumber_79 ⟨x4, rfl, rfl, (by rw [show ((u1 (f 6) (v 5) (if 6 < x4 - a2 then 257 else 258)) : Int → Int) = (u1 (f 6) (v 5) (257 : Int)) from by first | rw [if_pos (by omega)] | rw [if_neg (by omega)], show ((u1 (f 8) (v 5) (nV (f 0) a2 (x4 - a2).toNat)) : Int → Int) = (u1 (f 8) (v 5) x5) from by rw [hN]]), rfl, (runD_eq (B := (f 0)) (n := a3) (p := a2) (q := x4) (by omega) hI (by omega)).symm, (by first | omega | (split <;> omega))⟩
      · refine lv_aload_n hx hb dX6_putNumber_12 rfl (lv_at hl 1 rfl) ?_
        refine lv_iload hx hb dX6_putNumber_13 (lv_at hl 4 rfl) ?_
        refine rwL_tape C hP (by omega) (by omega) dX6_putNumber_15 ?_
        show W p l e (gRm 1 23) s m args below meth c _ _ 0 0 Q (F0 m 16 ls [.int (iI (f 0 x4))])
        have r_6 : 0 ≤ (f 0 x4) ∧ (f 0 x4) ≤ 255 := hP.2.2 0 x4
        refine g_cs (As := [.int (iI (f 0 x4))]) (rest := []) (n := 1) C hml (e_To_isDigit l D k A ad hD (va_up v 5 (v 5)) (va_up (va_up (va_up f 6 (f 6)) 7 (f 7)) 8 (f 8)) g (f 0 x4) (by omega)) mM_X6_36 mS_X6_isDigit mN_X6 mC_X6_isDigit (by decide +kernel) hP hS (fun _ h => h) ⟨Nat.le_of_ble_eq_true rfl, Nat.le_of_ble_eq_true rfl⟩ ⟨Nat.zero_le _, Nat.zero_le _⟩ hl.1 rfl rfl (Nat.le_of_ble_eq_true rfl) dX6_putNumber_16 (fun r_7 v_7 f_7 g_7 H locs hq_7 hP _ hS => ?_)
        obtain ⟨z_7, rfl, rfl, rfl, rfl, p0_7⟩ := hq_7
        show W p l e (gRm 1 23) s m args below meth c _ _ 0 0 Q (F0 m 19 ls [.int (iI z_7)])
        replace p0_7 : z_7 = (if 48 ≤ (f 0 x4) ∧ (f 0 x4) ≤ 57 then 1 else 0) := p0_7
        have w_7 := gif (P := 48 ≤ (f 0 x4) ∧ (f 0 x4) ≤ 57) p0_7
        have hz_7 : inR z_7 := (by first | omega | (rw [p0_7]; split <;> omega))
        refine gi_zeq (tgt := 52) hx hb dX6_putNumber_19 (by decide) (by omega) (fun c_8 => ?_) (fun c_8 => ?_)
        · refine lv_aload_n hx hb dX6_putNumber_52 rfl (lv_at hl 0 rfl) ?_
          refine lv_iload hx hb dX6_putNumber_53 (lv_at hl 4 rfl) ?_
          refine lv_iload_n hx hb dX6_putNumber_55 rfl (lv_at hl 2 rfl) ?_
          refine gi_sub (z := (x4 - a2)) hx hb dX6_putNumber_56 rfl ?_
          refine lv_bipush (v := iI 6) hx hb dX6_putNumber_57 (by decide) ?_
          refine gi_cle (tgt := 68) hx hb dX6_putNumber_59 (by decide) (by omega) (by decide) (fun c_9 => ?_) (fun c_9 => ?_)
          · refine lv_sipush (v := iI 258) hx hb dX6_putNumber_68 (by decide) ?_
            refine lv_iload_n hx hb dX6_putNumber_71 rfl (lv_at hl 2 rfl) ?_
            refine lv_iload hx hb dX6_putNumber_72 (lv_at hl 5 rfl) ?_
            refine g_cv (As := [.int (iI 258), .int (iI a2), .int (iI x5)]) (rest := []) (n := 3) C hml (e_To_put l D k A ad hD (va_up v 5 (v 5)) (va_up (va_up (va_up f 6 (f 6)) 7 (f 7)) 8 (f 8)) g 258 a2 x5 (by decide) (by omega) (by omega) (show (v 5) < 701 from by omega) (show 0 ≤ (258 : Int) ∧ (258 : Int) ≤ 300 from by omega) (show 0 ≤ a2 ∧ a2 ≤ 700 from by omega) (show 0 ≤ x5 ∧ x5 ≤ 999999 from by omega)) mM_X6_45 mI_X6_put mE_X6_put mN_X6 mC_X6_put (by decide +kernel) 10 (ci := 6) rfl rfl hP hS (fun _ h => h) ⟨Nat.le_of_ble_eq_true rfl, Nat.le_of_ble_eq_true rfl⟩ ⟨Nat.zero_le _, Nat.zero_le _⟩ hl.1 rfl rfl (Nat.le_of_ble_eq_true rfl) dX6_putNumber_74 (fun r_10 v_10 f_10 g_10 H locs hq_10 hP _ hS => ?_)
            obtain ⟨rfl, rfl, rfl, rfl⟩ := hq_10
            show W p l e (gRm 1 23) s m args below meth c _ _ 0 0 Q (F0 m 77 ls [])
            have hP : gWd D (rwT k ad) (va_up v 5 ((v 5) + 1)) (va_up (va_up (va_up f 6 (u1 (f 6) (v 5) (258 : Int))) 7 (u1 (f 7) (v 5) a2)) 8 (u1 (f 8) (v 5) x5)) g H := ⟨hP.1, (gF_up (V := rwV) (F := rwF) (gF_up (V := rwV) (F := rwF) (gF_up (V := rwV) (F := rwF) (gR_up (V := rwV) (F := rwF) ⟨hok.1, hok.2⟩ 5 (hP.2.1 5)) 6 (hP.2.2 6)) 7 (hP.2.2 7)) 8 (hP.2.2 8))⟩
            refine lv_iload hx hb dX6_putNumber_77 (lv_at hl 4 rfl) ?_
            exact g_iret hQ C hr hlocks hP hS dX6_putNumber_79 ⟨x4, rfl, rfl, (by rw [show ((u1 (f 6) (v 5) (if 6 < x4 - a2 then 257 else 258)) : Int → Int) = (u1 (f 6) (v 5) (258 : Int)) from by first | rw [if_pos (by omega)] | rw [if_neg (by omega)], show ((u1 (f 8) (v 5) (nV (f 0) a2 (x4 - a2).toNat)) : Int → Int) = (u1 (f 8) (v 5) x5) from by rw [hN]]), rfl, (runD_eq (B := (f 0)) (n := a3) (p := a2) (q := x4) (by omega) hI (by omega)).symm, (by first | omega | (split <;> omega))⟩
          · refine lv_sipush (v := iI 257) hx hb dX6_putNumber_62 (by decide) ?_
            refine lv_goto (tgt := 71) hx hb dX6_putNumber_65 (by decide) ?_
            refine lv_iload_n hx hb dX6_putNumber_71 rfl (lv_at hl 2 rfl) ?_
            refine lv_iload hx hb dX6_putNumber_72 (lv_at hl 5 rfl) ?_
            refine g_cv (As := [.int (iI 257), .int (iI a2), .int (iI x5)]) (rest := []) (n := 3) C hml (e_To_put l D k A ad hD (va_up v 5 (v 5)) (va_up (va_up (va_up f 6 (f 6)) 7 (f 7)) 8 (f 8)) g 257 a2 x5 (by decide) (by omega) (by omega) (show (v 5) < 701 from by omega) (show 0 ≤ (257 : Int) ∧ (257 : Int) ≤ 300 from by omega) (show 0 ≤ a2 ∧ a2 ≤ 700 from by omega) (show 0 ≤ x5 ∧ x5 ≤ 999999 from by omega)) mM_X6_45 mI_X6_put mE_X6_put mN_X6 mC_X6_put (by decide +kernel) 10 (ci := 6) rfl rfl hP hS (fun _ h => h) ⟨Nat.le_of_ble_eq_true rfl, Nat.le_of_ble_eq_true rfl⟩ ⟨Nat.zero_le _, Nat.zero_le _⟩ hl.1 rfl rfl (Nat.le_of_ble_eq_true rfl) dX6_putNumber_74 (fun r_11 v_11 f_11 g_11 H locs hq_11 hP _ hS => ?_)
            obtain ⟨rfl, rfl, rfl, rfl⟩ := hq_11
            show W p l e (gRm 1 23) s m args below meth c _ _ 0 0 Q (F0 m 77 ls [])
            have hP : gWd D (rwT k ad) (va_up v 5 ((v 5) + 1)) (va_up (va_up (va_up f 6 (u1 (f 6) (v 5) (257 : Int))) 7 (u1 (f 7) (v 5) a2)) 8 (u1 (f 8) (v 5) x5)) g H := ⟨hP.1, (gF_up (V := rwV) (F := rwF) (gF_up (V := rwV) (F := rwF) (gF_up (V := rwV) (F := rwF) (gR_up (V := rwV) (F := rwF) ⟨hok.1, hok.2⟩ 5 (hP.2.1 5)) 6 (hP.2.2 6)) 7 (hP.2.2 7)) 8 (hP.2.2 8))⟩
            refine lv_iload hx hb dX6_putNumber_77 (lv_at hl 4 rfl) ?_
            exact g_iret hQ C hr hlocks hP hS dX6_putNumber_79 ⟨x4, rfl, rfl, (by rw [show ((u1 (f 6) (v 5) (if 6 < x4 - a2 then 257 else 258)) : Int → Int) = (u1 (f 6) (v 5) (257 : Int)) from by first | rw [if_pos (by omega)] | rw [if_neg (by omega)], show ((u1 (f 8) (v 5) (nV (f 0) a2 (x4 - a2).toNat)) : Int → Int) = (u1 (f 8) (v 5) x5) from by rw [hN]]), rfl, (runD_eq (B := (f 0)) (n := a3) (p := a2) (q := x4) (by omega) hI (by omega)).symm, (by first | omega | (split <;> omega))⟩
        · refine lv_iload hx hb dX6_putNumber_22 (lv_at hl 4 rfl) ?_
          refine lv_iload_n hx hb dX6_putNumber_24 rfl (lv_at hl 2 rfl) ?_
          refine gi_sub (z := (x4 - a2)) hx hb dX6_putNumber_25 rfl ?_
          refine lv_bipush (v := iI 6) hx hb dX6_putNumber_26 (by decide) ?_
          refine gi_cge (tgt := 46) hx hb dX6_putNumber_28 (by decide) (by omega) (by decide) (fun c_12 => ?_) (fun c_12 => ?_)
          · refine lv_iinc (v := iI (x4 + 1)) (lv' := [(4, .int (iI (x4 + 1))), (0, .ref (ad 10)), (1, .ref (ad 1)), (2, .int (iI a2)), (3, .int (iI a3)), (5, .int (iI x5))]) hx hb dX6_putNumber_46 hl (k := 4) rfl (by show iI _ + iI 1 = _; rw [iI_add]) (by decide) rfl (fun ls hl => ?_)
            refine lv_goto (tgt := 6) hx hb dX6_putNumber_49 (by decide) ?_
            exact ih_6 (x4 + 1) x5 _ _ _ (by omega) (by omega) (run_snoc hI (by omega) (by omega)) (by rw [nV_up (by omega)]; first | (rw [if_pos (by omega)]; omega) | (rw [if_neg (by omega)]; omega)) hP hS (lv_sub hl [1, 2, 3, 4, 0, 5] rfl)
          · refine lv_iload hx hb dX6_putNumber_31 (lv_at hl 5 rfl) ?_
            refine lv_bipush (v := iI 10) hx hb dX6_putNumber_33 (by decide) ?_
            refine gi_mul (z := (x5 * 10)) hx hb dX6_putNumber_35 rfl ?_
            refine lv_aload_n hx hb dX6_putNumber_36 rfl (lv_at hl 1 rfl) ?_
            refine lv_iload hx hb dX6_putNumber_37 (lv_at hl 4 rfl) ?_
            refine rwL_tape C hP (by omega) (by omega) dX6_putNumber_39 ?_
            show W p l e (gRm 1 23) s m args below meth c _ _ 0 0 Q (F0 m 40 ls [.int (iI (f 0 x4)), .int (iI (x5 * 10))])
            refine gi_add (z := ((x5 * 10) + (f 0 x4))) hx hb dX6_putNumber_40 rfl ?_
            refine lv_bipush (v := iI 48) hx hb dX6_putNumber_41 (by decide) ?_
            refine gi_sub (z := (((x5 * 10) + (f 0 x4)) - 48)) hx hb dX6_putNumber_43 rfl ?_
            refine lv_istore (lv' := [(5, .int (iI (((x5 * 10) + (f 0 x4)) - 48))), (0, .ref (ad 10)), (1, .ref (ad 1)), (2, .int (iI a2)), (3, .int (iI a3)), (4, .int (iI x4))]) hx hb dX6_putNumber_44 hl (by decide) rfl (fun ls hl => ?_)
            refine lv_iinc (v := iI (x4 + 1)) (lv' := [(4, .int (iI (x4 + 1))), (5, .int (iI (((x5 * 10) + (f 0 x4)) - 48))), (0, .ref (ad 10)), (1, .ref (ad 1)), (2, .int (iI a2)), (3, .int (iI a3))]) hx hb dX6_putNumber_46 hl (k := 5) rfl (by show iI _ + iI 1 = _; rw [iI_add]) (by decide) rfl (fun ls hl => ?_)
            refine lv_goto (tgt := 6) hx hb dX6_putNumber_49 (by decide) ?_
            exact ih_6 (x4 + 1) (((x5 * 10) + (f 0 x4)) - 48) _ _ _ (by omega) (by omega) (run_snoc hI (by omega) (by omega)) (by rw [nV_up (by omega)]; first | (rw [if_pos (by omega)]; omega) | (rw [if_neg (by omega)]; omega)) hP hS (lv_sub hl [2, 3, 4, 5, 0, 1] rfl)
  exact L_1 701 a2 0 _ _ _ (by omega) (by omega) run_none (by rw [show (a2 - a2).toNat = 0 by omega]; rfl) hP hS (lv_sub hl [2, 3, 4, 5, 1, 0] rfl)

set_option maxHeartbeats 4000000 in
set_option maxRecDepth 100000 in
theorem e_To_split (l : Launch) (D : va_G) (k : Nat → ClassId) (A : Nat → Prop) (ad : Nat → Nat) (hD : rwD A k ad) (za : Nat → Nat) (v : gV) (f g : gF) (a2 : Int) (h_a2 : inR a2) (h2 : 0 ≤ a2 ∧ a2 ≤ 700) : GE l D k za A (rwT k ad) yX6_split cX6_split 6 none 6 136 [.ref (ad 10), .ref (ad 1), .int (iI a2)] v f g (fun r v1 f1 g1 => ∃ (w5 : Int) (a6_ : Int → Int) (a7_ : Int → Int) (a8_ : Int → Int), r = none ∧ (va_up (va_up v 6 0) 5 w5) = v1 ∧ (va_up (va_up (va_up f 6 a6_) 7 a7_) 8 a8_) = f1 ∧ g = g1 ∧ (tRow (f 0) a2 a6_ a7_ a8_ w5)) := by
  refine GE.of (by decide) (Nat.le_of_ble_eq_true rfl) ?_
  intro p e s m args below meth c Q ls hQ C hml hr hlocks hP hl hE
  have hx := C.1
  have hb := C.2.1
  have hok := hP.2
  have hS : va_S A s.heap s.heap [] := va_S.rf
  have hl : lv_has ls 6 [(0, .ref (ad 10)), (1, .ref (ad 1)), (2, .int (iI a2))] := hl
  have hP : gWd D (rwT k ad) (va_up (va_up v 6 (v 6)) 5 (v 5)) (va_up (va_up (va_up f 6 (f 6)) 7 (f 7)) 8 (f 8)) g s.heap := by rw [va_id, va_id, va_id, va_id, va_id]; exact hP
  refine lv_aload_n hx hb dX6_split_0 rfl (lv_at hl 0 rfl) ?_
  refine lv_iconst (v := iI 0) hx hb dX6_split_1 rfl ?_
  refine rwP_reader_tokens_at (v1 := (va_up (va_up v 6 0) 5 (v 5))) C hP hD hS mF_X6_21 (by decide) rfl (Or.inr (gF_up (V := rwV) (F := rwF) (gF_up (V := rwV) (F := rwF) (gF_up (V := rwV) (F := rwF) (gR_up (V := rwV) (F := rwF) (gR_up (V := rwV) (F := rwF) ⟨hok.1, hok.2⟩ 6 (show 0 ≤ 0 ∧ 0 ≤ 700 from by decide)) 5 (hP.2.1 5)) 6 (hP.2.2 6)) 7 (hP.2.2 7)) 8 (hP.2.2 8))) dX6_split_2 (fun H locs hP hS => ?_)
  refine lv_aload_n hx hb dX6_split_5 rfl (lv_at hl 0 rfl) ?_
  refine lv_iconst (v := iI 0) hx hb dX6_split_6 rfl ?_
  refine rwP_reader_tokens_many (v1 := (va_up (va_up v 6 0) 5 0)) C hP hD hS mF_X6_25 (by decide) rfl (Or.inr (gF_up (V := rwV) (F := rwF) (gF_up (V := rwV) (F := rwF) (gF_up (V := rwV) (F := rwF) (gR_up (V := rwV) (F := rwF) (gR_up (V := rwV) (F := rwF) ⟨hok.1, hok.2⟩ 6 (hP.2.1 6)) 5 (show 0 ≤ 0 ∧ 0 ≤ 701 from by decide)) 6 (hP.2.2 6)) 7 (hP.2.2 7)) 8 (hP.2.2 8))) dX6_split_7 (fun H locs hP hS => ?_)
  refine lv_iconst (v := iI 0) hx hb dX6_split_10 rfl ?_
  refine lv_istore_n (lv' := [(3, .int (iI 0)), (0, .ref (ad 10)), (1, .ref (ad 1)), (2, .int (iI a2))]) hx hb dX6_split_11 rfl hl (by decide) rfl (fun ls hl => ?_)
  refine lv_iconst (v := iI 0) hx hb dX6_split_12 rfl ?_
  refine lv_istore (lv' := [(4, .int (iI 0)), (3, .int (iI 0)), (0, .ref (ad 10)), (1, .ref (ad 1)), (2, .int (iI a2))]) hx hb dX6_split_13 hl (by decide) rfl (fun ls hl => ?_)
  have L_1 : ∀ (n : Nat) (x3 : Int) (x4 : Int) (y5_1 : Int) (c6_1 : Int → Int) (c7_1 : Int → Int) (c8_1 : Int → Int) (H : Heap) (locs : List Loc) (ls : Array Slot), 700 - x4 < (n : Int) → (0 ≤ x4 ∧ x4 ≤ a2) → (x4 ≤ x3 ∧ x3 ≤ a2) → (0 ≤ y5_1 ∧ y5_1 ≤ x4) → (tPre (f 0) a2 c6_1 c7_1 c8_1 y5_1 x3) → gWd D (rwT k ad) (va_up (va_up v 6 0) 5 y5_1) (va_up (va_up (va_up f 6 c6_1) 7 c7_1) 8 c8_1) g H → va_S A s.heap H locs → lv_has ls 6 [(0, .ref (ad 10)), (1, .ref (ad 1)), (2, .int (iI a2)), (3, .int (iI x3)), (4, .int (iI x4))] → W p l e (gRm 6 136) s m args below meth c H locs 0 0 Q (F0 m 15 ls []) := by
    intro n
    induction n with
    | zero =>
      intro x3 x4 y5_1 c6_1 c7_1 c8_1 H locs ls hn_1 i1_0 i1_1 i1_2 i1_3 hP hS hl
      have ry5_1 : 0 ≤ y5_1 ∧ y5_1 ≤ 701 := hP.2.1 5
      exfalso; omega
    | succ n ih_15 =>
      intro x3 x4 y5_1 c6_1 c7_1 c8_1 H locs ls hn_1 i1_0 i1_1 i1_2 i1_3 hP hS hl
      have ry5_1 : 0 ≤ y5_1 ∧ y5_1 ≤ 701 := hP.2.1 5
      have hT := i1_3
      refine lv_iload hx hb dX6_split_15 (lv_at hl 4 rfl) ?_
      refine lv_iload_n hx hb dX6_split_17 rfl (lv_at hl 2 rfl) ?_
      refine gi_cge (tgt := 145) hx hb dX6_split_18 (by decide) (by omega) (by omega) (fun c_2 => ?_) (fun c_2 => ?_)
      · refine lv_aload_n hx hb dX6_split_145 rfl (lv_at hl 0 rfl) ?_
        refine lv_sipush (v := iI 256) hx hb dX6_split_146 (by decide) ?_
        refine lv_iload_n hx hb dX6_split_149 rfl (lv_at hl 2 rfl) ?_
        refine lv_iconst (v := iI 0) hx hb dX6_split_150 rfl ?_
        refine g_cv (As := [.int (iI 256), .int (iI a2), .int (iI 0)]) (rest := []) (n := 3) C hml (e_To_put l D k A ad hD (va_up (va_up v 6 0) 5 y5_1) (va_up (va_up (va_up f 6 c6_1) 7 c7_1) 8 c8_1) g 256 a2 0 (by decide) (by omega) (by decide) (show y5_1 < 701 from by omega) (show 0 ≤ (256 : Int) ∧ (256 : Int) ≤ 300 from by omega) (show 0 ≤ a2 ∧ a2 ≤ 700 from by omega) (show 0 ≤ (0 : Int) ∧ (0 : Int) ≤ 999999 from by omega)) mM_X6_45 mI_X6_put mE_X6_put mN_X6 mC_X6_put (by decide +kernel) 10 (ci := 6) rfl rfl hP hS (fun _ h => h) ⟨Nat.le_of_ble_eq_true rfl, Nat.le_of_ble_eq_true rfl⟩ ⟨Nat.zero_le _, Nat.zero_le _⟩ hl.1 rfl rfl (Nat.le_of_ble_eq_true rfl) dX6_split_151 (fun r_3 v_3 f_3 g_3 H locs hq_3 hP _ hS => ?_)
        obtain ⟨rfl, rfl, rfl, rfl⟩ := hq_3
        show W p l e (gRm 6 136) s m args below meth c _ _ 0 0 Q (F0 m 154 ls [])
        have hP : gWd D (rwT k ad) (va_up (va_up v 6 0) 5 (y5_1 + 1)) (va_up (va_up (va_up f 6 (u1 c6_1 y5_1 (256 : Int))) 7 (u1 c7_1 y5_1 a2)) 8 (u1 c8_1 y5_1 (0 : Int))) g H := ⟨hP.1, (gF_up (V := rwV) (F := rwF) (gF_up (V := rwV) (F := rwF) (gF_up (V := rwV) (F := rwF) (gR_up (V := rwV) (F := rwF) (gR_up (V := rwV) (F := rwF) ⟨hok.1, hok.2⟩ 6 (hP.2.1 6)) 5 (hP.2.1 5)) 6 (hP.2.2 6)) 7 (hP.2.2 7)) 8 (hP.2.2 8))⟩
        exact g_vret hQ C hr hlocks hP hS dX6_split_154 ⟨(y5_1 + 1), (u1 c6_1 y5_1 (256 : Int)), (u1 c7_1 y5_1 a2), (u1 c8_1 y5_1 (0 : Int)), rfl, rfl, rfl, rfl, (by first | (exfalso; omega) | exact tPre_end hT (by omega) (by omega) (by omega) (by omega) hk hv (by omega) | exact tPre_end (x := a2) (by have h := hT; rw [show x3 = a2 by omega] at h; exact h) (by omega) (by omega) (by omega) (by omega) (tK_N (by omega)).symm (tV_0 (by omega)).symm (by omega))⟩
      · refine lv_iload_n hx hb dX6_split_21 rfl (lv_at hl 3 rfl) ?_
        refine lv_iload_n hx hb dX6_split_22 rfl (lv_at hl 2 rfl) ?_
        refine gi_cge (tgt := 145) hx hb dX6_split_23 (by decide) (by omega) (by omega) (fun c_4 => ?_) (fun c_4 => ?_)
        · refine lv_aload_n hx hb dX6_split_145 rfl (lv_at hl 0 rfl) ?_
          refine lv_sipush (v := iI 256) hx hb dX6_split_146 (by decide) ?_
          refine lv_iload_n hx hb dX6_split_149 rfl (lv_at hl 2 rfl) ?_
          refine lv_iconst (v := iI 0) hx hb dX6_split_150 rfl ?_
          refine g_cv (As := [.int (iI 256), .int (iI a2), .int (iI 0)]) (rest := []) (n := 3) C hml (e_To_put l D k A ad hD (va_up (va_up v 6 0) 5 y5_1) (va_up (va_up (va_up f 6 c6_1) 7 c7_1) 8 c8_1) g 256 a2 0 (by decide) (by omega) (by decide) (show y5_1 < 701 from by omega) (show 0 ≤ (256 : Int) ∧ (256 : Int) ≤ 300 from by omega) (show 0 ≤ a2 ∧ a2 ≤ 700 from by omega) (show 0 ≤ (0 : Int) ∧ (0 : Int) ≤ 999999 from by omega)) mM_X6_45 mI_X6_put mE_X6_put mN_X6 mC_X6_put (by decide +kernel) 10 (ci := 6) rfl rfl hP hS (fun _ h => h) ⟨Nat.le_of_ble_eq_true rfl, Nat.le_of_ble_eq_true rfl⟩ ⟨Nat.zero_le _, Nat.zero_le _⟩ hl.1 rfl rfl (Nat.le_of_ble_eq_true rfl) dX6_split_151 (fun r_5 v_5 f_5 g_5 H locs hq_5 hP _ hS => ?_)
          obtain ⟨rfl, rfl, rfl, rfl⟩ := hq_5
          show W p l e (gRm 6 136) s m args below meth c _ _ 0 0 Q (F0 m 154 ls [])
          have hP : gWd D (rwT k ad) (va_up (va_up v 6 0) 5 (y5_1 + 1)) (va_up (va_up (va_up f 6 (u1 c6_1 y5_1 (256 : Int))) 7 (u1 c7_1 y5_1 a2)) 8 (u1 c8_1 y5_1 (0 : Int))) g H := ⟨hP.1, (gF_up (V := rwV) (F := rwF) (gF_up (V := rwV) (F := rwF) (gF_up (V := rwV) (F := rwF) (gR_up (V := rwV) (F := rwF) (gR_up (V := rwV) (F := rwF) ⟨hok.1, hok.2⟩ 6 (hP.2.1 6)) 5 (hP.2.1 5)) 6 (hP.2.2 6)) 7 (hP.2.2 7)) 8 (hP.2.2 8))⟩
          exact g_vret hQ C hr hlocks hP hS dX6_split_154 ⟨(y5_1 + 1), (u1 c6_1 y5_1 (256 : Int)), (u1 c7_1 y5_1 a2), (u1 c8_1 y5_1 (0 : Int)), rfl, rfl, rfl, rfl, (by first | (exfalso; omega) | exact tPre_end hT (by omega) (by omega) (by omega) (by omega) hk hv (by omega) | exact tPre_end (x := a2) (by have h := hT; rw [show x3 = a2 by omega] at h; exact h) (by omega) (by omega) (by omega) (by omega) (tK_N (by omega)).symm (tV_0 (by omega)).symm (by omega))⟩
        · refine lv_aload_n hx hb dX6_split_26 rfl (lv_at hl 1 rfl) ?_
          refine lv_iload_n hx hb dX6_split_27 rfl (lv_at hl 3 rfl) ?_
          refine rwL_tape C hP (by omega) (by omega) dX6_split_28 ?_
          show W p l e (gRm 6 136) s m args below meth c _ _ 0 0 Q (F0 m 29 ls [.int (iI (f 0 x3))])
          have r_6 : 0 ≤ (f 0 x3) ∧ (f 0 x3) ≤ 255 := hP.2.2 0 x3
          refine lv_istore (lv' := [(5, .int (iI (f 0 x3))), (0, .ref (ad 10)), (1, .ref (ad 1)), (2, .int (iI a2)), (3, .int (iI x3)), (4, .int (iI x4))]) hx hb dX6_split_29 hl (by decide) rfl (fun ls hl => ?_)
          refine lv_iload hx hb dX6_split_31 (lv_at hl 0 rfl) ?_
          refine lv_bipush (v := iI 32) hx hb dX6_split_33 (by decide) ?_
          refine gi_ceq (tgt := 45) hx hb dX6_split_35 (by decide) (by omega) (by decide) (fun c_7 => ?_) (fun c_7 => ?_)
          · refine lv_iinc (v := iI (x3 + 1)) (lv' := [(3, .int (iI (x3 + 1))), (5, .int (iI (f 0 x3))), (0, .ref (ad 10)), (1, .ref (ad 1)), (2, .int (iI a2)), (4, .int (iI x4))]) hx hb dX6_split_45 hl (k := 4) rfl (by show iI _ + iI 1 = _; rw [iI_add]) (by decide) rfl (fun ls hl => ?_)
            refine lv_goto (tgt := 114) hx hb dX6_split_48 (by decide) ?_
            refine lv_aload_n hx hb dX6_split_114 rfl (lv_at hl 2 rfl) ?_
            refine rwG_reader_tokens_many C hP mF_X6_25 dX6_split_115 ?_
            show W p l e (gRm 6 136) s m args below meth c _ _ 0 0 Q (F0 m 118 ls [.int (iI y5_1)])
            have r_8 : 0 ≤ y5_1 ∧ y5_1 ≤ 701 := hP.2.1 5
            refine gi_zle (tgt := 139) hx hb dX6_split_118 (by decide) (by omega) (fun c_9 => ?_) (fun c_9 => ?_)
            · refine lv_iinc (v := iI (x4 + 1)) (lv' := [(4, .int (iI (x4 + 1))), (3, .int (iI (x3 + 1))), (5, .int (iI (f 0 x3))), (0, .ref (ad 10)), (1, .ref (ad 1)), (2, .int (iI a2))]) hx hb dX6_split_139 hl (k := 5) rfl (by show iI _ + iI 1 = _; rw [iI_add]) (by decide) rfl (fun ls hl => ?_)
              refine lv_goto (tgt := 15) hx hb dX6_split_142 (by decide) ?_
              exact ih_15 (x3 + 1) (x4 + 1) y5_1 c6_1 c7_1 c8_1 _ _ _ (by omega) (by omega) (by omega) (by omega) (by first | exact tPre_ws hT (by omega) (by omega) | exact tPre_put hT (by omega) (by omega) (by omega) (by omega) hk hv (by omega) hy) hP hS (lv_sub hl [3, 4, 5, 1, 0] rfl)
            · refine lv_aload_n hx hb dX6_split_121 rfl (lv_at hl 2 rfl) ?_
              refine rwG_reader_tokens_kinds C hP mF_X6_9 dX6_split_122 ?_
              refine lv_aload_n hx hb dX6_split_125 rfl (lv_at hl 2 rfl) ?_
              refine rwG_reader_tokens_many C hP mF_X6_25 dX6_split_126 ?_
              show W p l e (gRm 6 136) s m args below meth c _ _ 0 0 Q (F0 m 129 ls [.int (iI y5_1), .ref (ad 11)])
              refine lv_iconst (v := iI 1) hx hb dX6_split_129 rfl ?_
              refine gi_sub (z := (y5_1 - 1)) hx hb dX6_split_130 rfl ?_
              refine rwL_reader_tokens_kinds C hP (by omega) (by omega) dX6_split_131 ?_
              show W p l e (gRm 6 136) s m args below meth c _ _ 0 0 Q (F0 m 132 ls [.int (iI (c6_1 (y5_1 - 1)))])
              have r_10 : 0 ≤ (c6_1 (y5_1 - 1)) ∧ (c6_1 (y5_1 - 1)) ≤ 300 := hP.2.2 6 (y5_1 - 1)
              have q_11 : (c6_1 (y5_1 - 1)) ≠ 257 := tPre_at hT (by omega) (by omega)
              refine lv_sipush (v := iI 257) hx hb dX6_split_132 (by decide) ?_
              refine gi_cne (tgt := 139) hx hb dX6_split_135 (by decide) (by omega) (by decide) (fun c_12 => ?_) (fun c_12 => ?_)
              · refine lv_iinc (v := iI (x4 + 1)) (lv' := [(4, .int (iI (x4 + 1))), (3, .int (iI (x3 + 1))), (5, .int (iI (f 0 x3))), (0, .ref (ad 10)), (1, .ref (ad 1)), (2, .int (iI a2))]) hx hb dX6_split_139 hl (k := 5) rfl (by show iI _ + iI 1 = _; rw [iI_add]) (by decide) rfl (fun ls hl => ?_)
                refine lv_goto (tgt := 15) hx hb dX6_split_142 (by decide) ?_
                exact ih_15 (x3 + 1) (x4 + 1) y5_1 c6_1 c7_1 c8_1 _ _ _ (by omega) (by omega) (by omega) (by omega) (by first | exact tPre_ws hT (by omega) (by omega) | exact tPre_put hT (by omega) (by omega) (by omega) (by omega) hk hv (by omega) hy) hP hS (lv_sub hl [3, 4, 5, 1, 0] rfl)
              · exact g_vret hQ C hr hlocks hP hS dX6_split_138 ⟨y5_1, c6_1, c7_1, c8_1, rfl, rfl, rfl, rfl, (by first | (exfalso; omega) | exact tPre_end hT (by omega) (by omega) (by omega) (by omega) hk hv (by omega) | exact tPre_end (x := a2) (by have h := hT; rw [show x3 = a2 by omega] at h; exact h) (by omega) (by omega) (by omega) (by omega) (tK_N (by omega)).symm (tV_0 (by omega)).symm (by omega))⟩
          · refine lv_iload hx hb dX6_split_38 (lv_at hl 0 rfl) ?_
            refine lv_bipush (v := iI 10) hx hb dX6_split_40 (by decide) ?_
            refine gi_cne (tgt := 51) hx hb dX6_split_42 (by decide) (by omega) (by decide) (fun c_13 => ?_) (fun c_13 => ?_)
            · refine lv_iload hx hb dX6_split_51 (lv_at hl 0 rfl) ?_
              refine g_cs (As := [.int (iI (f 0 x3))]) (rest := []) (n := 1) C hml (e_To_isLetter l D k A ad hD (va_up (va_up v 6 0) 5 y5_1) (va_up (va_up (va_up f 6 c6_1) 7 c7_1) 8 c8_1) g (f 0 x3) (by omega)) mM_X6_28 mS_X6_isLetter mN_X6 mC_X6_isLetter (by decide +kernel) hP hS (fun _ h => h) ⟨Nat.le_of_ble_eq_true rfl, Nat.le_of_ble_eq_true rfl⟩ ⟨Nat.zero_le _, Nat.zero_le _⟩ hl.1 rfl rfl (Nat.le_of_ble_eq_true rfl) dX6_split_53 (fun r_14 v_14 f_14 g_14 H locs hq_14 hP _ hS => ?_)
              obtain ⟨z_14, rfl, rfl, rfl, rfl, p0_14⟩ := hq_14
              show W p l e (gRm 6 136) s m args below meth c _ _ 0 0 Q (F0 m 56 ls [.int (iI z_14)])
              replace p0_14 : z_14 = (if 97 ≤ (f 0 x3) ∧ (f 0 x3) ≤ 122 then 1 else 0) := p0_14
              have w_14 := gif (P := 97 ≤ (f 0 x3) ∧ (f 0 x3) ≤ 122) p0_14
              have hz_14 : inR z_14 := (by first | omega | (rw [p0_14]; split <;> omega))
              refine gi_zeq (tgt := 70) hx hb dX6_split_56 (by decide) (by omega) (fun c_15 => ?_) (fun c_15 => ?_)
              · refine lv_iload hx hb dX6_split_70 (lv_at hl 0 rfl) ?_
                refine g_cs (As := [.int (iI (f 0 x3))]) (rest := []) (n := 1) C hml (e_To_isDigit l D k A ad hD (va_up (va_up v 6 0) 5 y5_1) (va_up (va_up (va_up f 6 c6_1) 7 c7_1) 8 c8_1) g (f 0 x3) (by omega)) mM_X6_36 mS_X6_isDigit mN_X6 mC_X6_isDigit (by decide +kernel) hP hS (fun _ h => h) ⟨Nat.le_of_ble_eq_true rfl, Nat.le_of_ble_eq_true rfl⟩ ⟨Nat.zero_le _, Nat.zero_le _⟩ hl.1 rfl rfl (Nat.le_of_ble_eq_true rfl) dX6_split_72 (fun r_16 v_16 f_16 g_16 H locs hq_16 hP _ hS => ?_)
                obtain ⟨z_16, rfl, rfl, rfl, rfl, p0_16⟩ := hq_16
                show W p l e (gRm 6 136) s m args below meth c _ _ 0 0 Q (F0 m 75 ls [.int (iI z_16)])
                replace p0_16 : z_16 = (if 48 ≤ (f 0 x3) ∧ (f 0 x3) ≤ 57 then 1 else 0) := p0_16
                have w_16 := gif (P := 48 ≤ (f 0 x3) ∧ (f 0 x3) ≤ 57) p0_16
                have hz_16 : inR z_16 := (by first | omega | (rw [p0_16]; split <;> omega))
                refine gi_zeq (tgt := 89) hx hb dX6_split_75 (by decide) (by omega) (fun c_17 => ?_) (fun c_17 => ?_)
                · refine lv_aload_n hx hb dX6_split_89 rfl (lv_at hl 1 rfl) ?_
                  refine lv_iload hx hb dX6_split_90 (lv_at hl 0 rfl) ?_
                  refine g_cs (As := [.int (iI (f 0 x3))]) (rest := [.ref (ad 10)]) (n := 1) C hml (e_To_isSign l D k A ad hD (va_up (va_up v 6 0) 5 y5_1) (va_up (va_up (va_up f 6 c6_1) 7 c7_1) 8 c8_1) g (f 0 x3) (by omega)) mM_X6_42 mS_X6_isSign mN_X6 mC_X6_isSign (by decide +kernel) hP hS (fun _ h => h) ⟨Nat.le_of_ble_eq_true rfl, Nat.le_of_ble_eq_true rfl⟩ ⟨Nat.zero_le _, Nat.zero_le _⟩ hl.1 rfl rfl (Nat.le_of_ble_eq_true rfl) dX6_split_92 (fun r_18 v_18 f_18 g_18 H locs hq_18 hP _ hS => ?_)
                  obtain ⟨z_18, rfl, rfl, rfl, rfl, p0_18⟩ := hq_18
                  show W p l e (gRm 6 136) s m args below meth c _ _ 0 0 Q (F0 m 95 ls [.int (iI z_18), .ref (ad 10)])
                  replace p0_18 : z_18 = (if (f 0 x3) = 43 ∨ (f 0 x3) = 45 ∨ (f 0 x3) = 42 ∨ (f 0 x3) = 40 ∨ (f 0 x3) = 41 ∨ (f 0 x3) = 44 ∨ (f 0 x3) = 59 then 1 else 0) := p0_18
                  have w_18 := gif (P := (f 0 x3) = 43 ∨ (f 0 x3) = 45 ∨ (f 0 x3) = 42 ∨ (f 0 x3) = 40 ∨ (f 0 x3) = 41 ∨ (f 0 x3) = 44 ∨ (f 0 x3) = 59) p0_18
                  have hz_18 : inR z_18 := (by first | omega | (rw [p0_18]; split <;> omega))
                  refine gi_zeq (tgt := 103) hx hb dX6_split_95 (by decide) (by omega) (fun c_19 => ?_) (fun c_19 => ?_)
                  · refine lv_sipush (v := iI 257) hx hb dX6_split_103 (by decide) ?_
                    refine lv_iload_n hx hb dX6_split_106 rfl (lv_at hl 4 rfl) ?_
                    refine lv_iconst (v := iI 0) hx hb dX6_split_107 rfl ?_
                    refine g_cv (As := [.int (iI 257), .int (iI x3), .int (iI 0)]) (rest := []) (n := 3) C hml (e_To_put l D k A ad hD (va_up (va_up v 6 0) 5 y5_1) (va_up (va_up (va_up f 6 c6_1) 7 c7_1) 8 c8_1) g 257 x3 0 (by decide) (by omega) (by decide) (show y5_1 < 701 from by omega) (show 0 ≤ (257 : Int) ∧ (257 : Int) ≤ 300 from by omega) (show 0 ≤ x3 ∧ x3 ≤ 700 from by omega) (show 0 ≤ (0 : Int) ∧ (0 : Int) ≤ 999999 from by omega)) mM_X6_45 mI_X6_put mE_X6_put mN_X6 mC_X6_put (by decide +kernel) 10 (ci := 6) rfl rfl hP hS (fun _ h => h) ⟨Nat.le_of_ble_eq_true rfl, Nat.le_of_ble_eq_true rfl⟩ ⟨Nat.zero_le _, Nat.zero_le _⟩ hl.1 rfl rfl (Nat.le_of_ble_eq_true rfl) dX6_split_108 (fun r_20 v_20 f_20 g_20 H locs hq_20 hP _ hS => ?_)
                    obtain ⟨rfl, rfl, rfl, rfl⟩ := hq_20
                    show W p l e (gRm 6 136) s m args below meth c _ _ 0 0 Q (F0 m 111 ls [])
                    have hP : gWd D (rwT k ad) (va_up (va_up v 6 0) 5 (y5_1 + 1)) (va_up (va_up (va_up f 6 (u1 c6_1 y5_1 (257 : Int))) 7 (u1 c7_1 y5_1 x3)) 8 (u1 c8_1 y5_1 (0 : Int))) g H := ⟨hP.1, (gF_up (V := rwV) (F := rwF) (gF_up (V := rwV) (F := rwF) (gF_up (V := rwV) (F := rwF) (gR_up (V := rwV) (F := rwF) (gR_up (V := rwV) (F := rwF) ⟨hok.1, hok.2⟩ 6 (hP.2.1 6)) 5 (hP.2.1 5)) 6 (hP.2.2 6)) 7 (hP.2.2 7)) 8 (hP.2.2 8))⟩
                    have hk : 257 = tK (f 0) a2 x3 := by first | exact (tK_S (by omega) (by omega)).symm | exact (tK_B (by omega) (by omega) (by omega) (by omega)).symm
                    have hv : (0 : Int) = tV (f 0) a2 x3 := (tV_0 (by omega)).symm
                    have hy : x3 + 1 = tE (f 0) a2 x3 := (tE_S (by omega) (by omega) (by omega)).symm
                    refine lv_iinc (v := iI (x3 + 1)) (lv' := [(3, .int (iI (x3 + 1))), (5, .int (iI (f 0 x3))), (0, .ref (ad 10)), (1, .ref (ad 1)), (2, .int (iI a2)), (4, .int (iI x4))]) hx hb dX6_split_111 hl (k := 4) rfl (by show iI _ + iI 1 = _; rw [iI_add]) (by decide) rfl (fun ls hl => ?_)
                    refine lv_aload_n hx hb dX6_split_114 rfl (lv_at hl 2 rfl) ?_
                    refine rwG_reader_tokens_many C hP mF_X6_25 dX6_split_115 ?_
                    show W p l e (gRm 6 136) s m args below meth c _ _ 0 0 Q (F0 m 118 ls [.int (iI (y5_1 + 1))])
                    have r_21 : 0 ≤ (y5_1 + 1) ∧ (y5_1 + 1) ≤ 701 := hP.2.1 5
                    refine gi_zle (tgt := 139) hx hb dX6_split_118 (by decide) (by omega) (fun c_22 => ?_) (fun c_22 => ?_)
                    · refine lv_iinc (v := iI (x4 + 1)) (lv' := [(4, .int (iI (x4 + 1))), (3, .int (iI (x3 + 1))), (5, .int (iI (f 0 x3))), (0, .ref (ad 10)), (1, .ref (ad 1)), (2, .int (iI a2))]) hx hb dX6_split_139 hl (k := 5) rfl (by show iI _ + iI 1 = _; rw [iI_add]) (by decide) rfl (fun ls hl => ?_)
                      refine lv_goto (tgt := 15) hx hb dX6_split_142 (by decide) ?_
                      exact ih_15 (x3 + 1) (x4 + 1) (y5_1 + 1) (u1 c6_1 y5_1 (257 : Int)) (u1 c7_1 y5_1 x3) (u1 c8_1 y5_1 (0 : Int)) _ _ _ (by omega) (by omega) (by omega) (by omega) (by first | exact tPre_ws hT (by omega) (by omega) | exact tPre_put hT (by omega) (by omega) (by omega) (by omega) hk hv (by omega) hy) hP hS (lv_sub hl [3, 4, 5, 1, 0] rfl)
                    · refine lv_aload_n hx hb dX6_split_121 rfl (lv_at hl 2 rfl) ?_
                      refine rwG_reader_tokens_kinds C hP mF_X6_9 dX6_split_122 ?_
                      refine lv_aload_n hx hb dX6_split_125 rfl (lv_at hl 2 rfl) ?_
                      refine rwG_reader_tokens_many C hP mF_X6_25 dX6_split_126 ?_
                      show W p l e (gRm 6 136) s m args below meth c _ _ 0 0 Q (F0 m 129 ls [.int (iI (y5_1 + 1)), .ref (ad 11)])
                      refine lv_iconst (v := iI 1) hx hb dX6_split_129 rfl ?_
                      refine gi_sub (z := ((y5_1 + 1) - 1)) hx hb dX6_split_130 rfl ?_
                      refine rwL_reader_tokens_kinds C hP (by omega) (by omega) dX6_split_131 ?_
                      show W p l e (gRm 6 136) s m args below meth c _ _ 0 0 Q (F0 m 132 ls [.int (iI ((u1 c6_1 y5_1 (257 : Int)) ((y5_1 + 1) - 1)))])
                      have r_23 : 0 ≤ ((u1 c6_1 y5_1 (257 : Int)) ((y5_1 + 1) - 1)) ∧ ((u1 c6_1 y5_1 (257 : Int)) ((y5_1 + 1) - 1)) ≤ 300 := hP.2.2 6 ((y5_1 + 1) - 1)
                      have q_24 : ((u1 c6_1 y5_1 (257 : Int)) ((y5_1 + 1) - 1)) = (257 : Int) := by rw [show ((y5_1 + 1) - 1) = y5_1 by omega]; exact u1_s
                      refine lv_sipush (v := iI 257) hx hb dX6_split_132 (by decide) ?_
                      refine gi_cne (tgt := 139) hx hb dX6_split_135 (by decide) (by omega) (by decide) (fun c_25 => ?_) (fun c_25 => ?_)
                      · refine lv_iinc (v := iI (x4 + 1)) (lv' := [(4, .int (iI (x4 + 1))), (3, .int (iI (x3 + 1))), (5, .int (iI (f 0 x3))), (0, .ref (ad 10)), (1, .ref (ad 1)), (2, .int (iI a2))]) hx hb dX6_split_139 hl (k := 5) rfl (by show iI _ + iI 1 = _; rw [iI_add]) (by decide) rfl (fun ls hl => ?_)
                        refine lv_goto (tgt := 15) hx hb dX6_split_142 (by decide) ?_
                        exact ih_15 (x3 + 1) (x4 + 1) (y5_1 + 1) (u1 c6_1 y5_1 (257 : Int)) (u1 c7_1 y5_1 x3) (u1 c8_1 y5_1 (0 : Int)) _ _ _ (by omega) (by omega) (by omega) (by omega) (by first | exact tPre_ws hT (by omega) (by omega) | exact tPre_put hT (by omega) (by omega) (by omega) (by omega) hk hv (by omega) hy) hP hS (lv_sub hl [3, 4, 5, 1, 0] rfl)
                      · exact g_vret hQ C hr hlocks hP hS dX6_split_138 ⟨(y5_1 + 1), (u1 c6_1 y5_1 (257 : Int)), (u1 c7_1 y5_1 x3), (u1 c8_1 y5_1 (0 : Int)), rfl, rfl, rfl, rfl, (by first | (exfalso; omega) | exact tPre_end hT (by omega) (by omega) (by omega) (by omega) hk hv (by omega) | exact tPre_end (x := a2) (by have h := hT; rw [show x3 = a2 by omega] at h; exact h) (by omega) (by omega) (by omega) (by omega) (tK_N (by omega)).symm (tV_0 (by omega)).symm (by omega))⟩
                  · refine lv_iload hx hb dX6_split_98 (lv_at hl 0 rfl) ?_
                    refine lv_goto (tgt := 106) hx hb dX6_split_100 (by decide) ?_
                    refine lv_iload_n hx hb dX6_split_106 rfl (lv_at hl 4 rfl) ?_
                    refine lv_iconst (v := iI 0) hx hb dX6_split_107 rfl ?_
                    refine g_cv (As := [.int (iI (f 0 x3)), .int (iI x3), .int (iI 0)]) (rest := []) (n := 3) C hml (e_To_put l D k A ad hD (va_up (va_up v 6 0) 5 y5_1) (va_up (va_up (va_up f 6 c6_1) 7 c7_1) 8 c8_1) g (f 0 x3) x3 0 (by omega) (by omega) (by decide) (show y5_1 < 701 from by omega) (show 0 ≤ (f 0 x3) ∧ (f 0 x3) ≤ 300 from by omega) (show 0 ≤ x3 ∧ x3 ≤ 700 from by omega) (show 0 ≤ (0 : Int) ∧ (0 : Int) ≤ 999999 from by omega)) mM_X6_45 mI_X6_put mE_X6_put mN_X6 mC_X6_put (by decide +kernel) 10 (ci := 6) rfl rfl hP hS (fun _ h => h) ⟨Nat.le_of_ble_eq_true rfl, Nat.le_of_ble_eq_true rfl⟩ ⟨Nat.zero_le _, Nat.zero_le _⟩ hl.1 rfl rfl (Nat.le_of_ble_eq_true rfl) dX6_split_108 (fun r_26 v_26 f_26 g_26 H locs hq_26 hP _ hS => ?_)
                    obtain ⟨rfl, rfl, rfl, rfl⟩ := hq_26
                    show W p l e (gRm 6 136) s m args below meth c _ _ 0 0 Q (F0 m 111 ls [])
                    have hP : gWd D (rwT k ad) (va_up (va_up v 6 0) 5 (y5_1 + 1)) (va_up (va_up (va_up f 6 (u1 c6_1 y5_1 (f 0 x3))) 7 (u1 c7_1 y5_1 x3)) 8 (u1 c8_1 y5_1 (0 : Int))) g H := ⟨hP.1, (gF_up (V := rwV) (F := rwF) (gF_up (V := rwV) (F := rwF) (gF_up (V := rwV) (F := rwF) (gR_up (V := rwV) (F := rwF) (gR_up (V := rwV) (F := rwF) ⟨hok.1, hok.2⟩ 6 (hP.2.1 6)) 5 (hP.2.1 5)) 6 (hP.2.2 6)) 7 (hP.2.2 7)) 8 (hP.2.2 8))⟩
                    have hk : (f 0 x3) = tK (f 0) a2 x3 := by first | exact (tK_S (by omega) (by omega)).symm | exact (tK_B (by omega) (by omega) (by omega) (by omega)).symm
                    have hv : (0 : Int) = tV (f 0) a2 x3 := (tV_0 (by omega)).symm
                    have hy : x3 + 1 = tE (f 0) a2 x3 := (tE_S (by omega) (by omega) (by omega)).symm
                    refine lv_iinc (v := iI (x3 + 1)) (lv' := [(3, .int (iI (x3 + 1))), (5, .int (iI (f 0 x3))), (0, .ref (ad 10)), (1, .ref (ad 1)), (2, .int (iI a2)), (4, .int (iI x4))]) hx hb dX6_split_111 hl (k := 4) rfl (by show iI _ + iI 1 = _; rw [iI_add]) (by decide) rfl (fun ls hl => ?_)
                    refine lv_aload_n hx hb dX6_split_114 rfl (lv_at hl 2 rfl) ?_
                    refine rwG_reader_tokens_many C hP mF_X6_25 dX6_split_115 ?_
                    show W p l e (gRm 6 136) s m args below meth c _ _ 0 0 Q (F0 m 118 ls [.int (iI (y5_1 + 1))])
                    have r_27 : 0 ≤ (y5_1 + 1) ∧ (y5_1 + 1) ≤ 701 := hP.2.1 5
                    refine gi_zle (tgt := 139) hx hb dX6_split_118 (by decide) (by omega) (fun c_28 => ?_) (fun c_28 => ?_)
                    · refine lv_iinc (v := iI (x4 + 1)) (lv' := [(4, .int (iI (x4 + 1))), (3, .int (iI (x3 + 1))), (5, .int (iI (f 0 x3))), (0, .ref (ad 10)), (1, .ref (ad 1)), (2, .int (iI a2))]) hx hb dX6_split_139 hl (k := 5) rfl (by show iI _ + iI 1 = _; rw [iI_add]) (by decide) rfl (fun ls hl => ?_)
                      refine lv_goto (tgt := 15) hx hb dX6_split_142 (by decide) ?_
                      exact ih_15 (x3 + 1) (x4 + 1) (y5_1 + 1) (u1 c6_1 y5_1 (f 0 x3)) (u1 c7_1 y5_1 x3) (u1 c8_1 y5_1 (0 : Int)) _ _ _ (by omega) (by omega) (by omega) (by omega) (by first | exact tPre_ws hT (by omega) (by omega) | exact tPre_put hT (by omega) (by omega) (by omega) (by omega) hk hv (by omega) hy) hP hS (lv_sub hl [3, 4, 5, 1, 0] rfl)
                    · refine lv_aload_n hx hb dX6_split_121 rfl (lv_at hl 2 rfl) ?_
                      refine rwG_reader_tokens_kinds C hP mF_X6_9 dX6_split_122 ?_
                      refine lv_aload_n hx hb dX6_split_125 rfl (lv_at hl 2 rfl) ?_
                      refine rwG_reader_tokens_many C hP mF_X6_25 dX6_split_126 ?_
                      show W p l e (gRm 6 136) s m args below meth c _ _ 0 0 Q (F0 m 129 ls [.int (iI (y5_1 + 1)), .ref (ad 11)])
                      refine lv_iconst (v := iI 1) hx hb dX6_split_129 rfl ?_
                      refine gi_sub (z := ((y5_1 + 1) - 1)) hx hb dX6_split_130 rfl ?_
                      refine rwL_reader_tokens_kinds C hP (by omega) (by omega) dX6_split_131 ?_
                      show W p l e (gRm 6 136) s m args below meth c _ _ 0 0 Q (F0 m 132 ls [.int (iI ((u1 c6_1 y5_1 (f 0 x3)) ((y5_1 + 1) - 1)))])
                      have r_29 : 0 ≤ ((u1 c6_1 y5_1 (f 0 x3)) ((y5_1 + 1) - 1)) ∧ ((u1 c6_1 y5_1 (f 0 x3)) ((y5_1 + 1) - 1)) ≤ 300 := hP.2.2 6 ((y5_1 + 1) - 1)
                      have q_30 : ((u1 c6_1 y5_1 (f 0 x3)) ((y5_1 + 1) - 1)) = (f 0 x3) := by rw [show ((y5_1 + 1) - 1) = y5_1 by omega]; exact u1_s
                      refine lv_sipush (v := iI 257) hx hb dX6_split_132 (by decide) ?_
                      refine gi_cne (tgt := 139) hx hb dX6_split_135 (by decide) (by omega) (by decide) (fun c_31 => ?_) (fun c_31 => ?_)
                      · refine lv_iinc (v := iI (x4 + 1)) (lv' := [(4, .int (iI (x4 + 1))), (3, .int (iI (x3 + 1))), (5, .int (iI (f 0 x3))), (0, .ref (ad 10)), (1, .ref (ad 1)), (2, .int (iI a2))]) hx hb dX6_split_139 hl (k := 5) rfl (by show iI _ + iI 1 = _; rw [iI_add]) (by decide) rfl (fun ls hl => ?_)
                        refine lv_goto (tgt := 15) hx hb dX6_split_142 (by decide) ?_
                        exact ih_15 (x3 + 1) (x4 + 1) (y5_1 + 1) (u1 c6_1 y5_1 (f 0 x3)) (u1 c7_1 y5_1 x3) (u1 c8_1 y5_1 (0 : Int)) _ _ _ (by omega) (by omega) (by omega) (by omega) (by first | exact tPre_ws hT (by omega) (by omega) | exact tPre_put hT (by omega) (by omega) (by omega) (by omega) hk hv (by omega) hy) hP hS (lv_sub hl [3, 4, 5, 1, 0] rfl)
                      · exact g_vret hQ C hr hlocks hP hS dX6_split_138 ⟨(y5_1 + 1), (u1 c6_1 y5_1 (f 0 x3)), (u1 c7_1 y5_1 x3), (u1 c8_1 y5_1 (0 : Int)), rfl, rfl, rfl, rfl, (by first | (exfalso; omega) | exact tPre_end hT (by omega) (by omega) (by omega) (by omega) hk hv (by omega) | exact tPre_end (x := a2) (by have h := hT; rw [show x3 = a2 by omega] at h; exact h) (by omega) (by omega) (by omega) (by omega) (tK_N (by omega)).symm (tV_0 (by omega)).symm (by omega))⟩
                · refine lv_aload_n hx hb dX6_split_78 rfl (lv_at hl 1 rfl) ?_
                  refine lv_aload_n hx hb dX6_split_79 rfl (lv_at hl 2 rfl) ?_
                  refine lv_iload_n hx hb dX6_split_80 rfl (lv_at hl 4 rfl) ?_
                  refine lv_iload_n hx hb dX6_split_81 rfl (lv_at hl 3 rfl) ?_
                  refine g_cv (As := [.ref (ad 1), .int (iI x3), .int (iI a2)]) (rest := []) (n := 3) C hml (e_To_putNumber l D k A ad hD (va_up (va_up v 6 0) 5 y5_1) (va_up (va_up (va_up f 6 c6_1) 7 c7_1) 8 c8_1) g x3 a2 (by omega) (by omega) (show y5_1 < 701 from by omega) (show 0 ≤ x3 ∧ x3 ≤ a2 from by omega) (show a2 ≤ 700 from by omega)) mM_X6_39 mI_X6_putNumber mE_X6_putNumber mN_X6 mC_X6_putNumber (by decide +kernel) 10 (ci := 6) rfl rfl hP hS (fun _ h => h) ⟨Nat.le_of_ble_eq_true rfl, Nat.le_of_ble_eq_true rfl⟩ ⟨Nat.zero_le _, Nat.zero_le _⟩ hl.1 rfl rfl (Nat.le_of_ble_eq_true rfl) dX6_split_82 (fun r_32 v_32 f_32 g_32 H locs hq_32 hP _ hS => ?_)
                  obtain ⟨z_32, rfl, rfl, rfl, rfl, p0_32, p1_32⟩ := hq_32
                  show W p l e (gRm 6 136) s m args below meth c _ _ 0 0 Q (F0 m 85 ls [.int (iI z_32)])
                  have hP : gWd D (rwT k ad) (va_up (va_up v 6 0) 5 (y5_1 + 1)) (va_up (va_up (va_up f 6 (u1 c6_1 y5_1 (if 6 < z_32 - x3 then 257 else 258))) 7 (u1 c7_1 y5_1 x3)) 8 (u1 c8_1 y5_1 (nV (f 0) x3 (z_32 - x3).toNat))) g H := ⟨hP.1, (gF_up (V := rwV) (F := rwF) (gF_up (V := rwV) (F := rwF) (gF_up (V := rwV) (F := rwF) (gR_up (V := rwV) (F := rwF) (gR_up (V := rwV) (F := rwF) ⟨hok.1, hok.2⟩ 6 (hP.2.1 6)) 5 (hP.2.1 5)) 6 (hP.2.2 6)) 7 (hP.2.2 7)) 8 (hP.2.2 8))⟩
                  replace p0_32 : z_32 = (run bD (f 0) a2 x3) := p0_32
                  replace p1_32 : x3 ≤ z_32 ∧ z_32 ≤ a2 := p1_32
                  have hz_32 : inR z_32 := (by first | omega | (rw [p0_32]; split <;> omega))
                  have hk : (if 6 < z_32 - x3 then (257 : Int) else 258) = tK (f 0) a2 x3 := by rw [p0_32, tK_D (by omega) (by omega)]
                  have hy : z_32 = tE (f 0) a2 x3 := by rw [p0_32, tE_D (by omega) (by omega)]
                  have hv : nV (f 0) x3 (z_32 - x3).toNat = tV (f 0) a2 x3 := by rw [p0_32, tV_D (by omega) (by omega)]
                  have hup := tE_up (B := (f 0)) (n := a2) (q := x3) (by omega)
                  refine lv_istore_n (lv' := [(3, .int (iI z_32)), (5, .int (iI (f 0 x3))), (0, .ref (ad 10)), (1, .ref (ad 1)), (2, .int (iI a2)), (4, .int (iI x4))]) hx hb dX6_split_85 rfl hl (by decide) rfl (fun ls hl => ?_)
                  refine lv_goto (tgt := 114) hx hb dX6_split_86 (by decide) ?_
                  refine lv_aload_n hx hb dX6_split_114 rfl (lv_at hl 2 rfl) ?_
                  refine rwG_reader_tokens_many C hP mF_X6_25 dX6_split_115 ?_
                  show W p l e (gRm 6 136) s m args below meth c _ _ 0 0 Q (F0 m 118 ls [.int (iI (y5_1 + 1))])
                  have r_33 : 0 ≤ (y5_1 + 1) ∧ (y5_1 + 1) ≤ 701 := hP.2.1 5
                  refine gi_zle (tgt := 139) hx hb dX6_split_118 (by decide) (by omega) (fun c_34 => ?_) (fun c_34 => ?_)
                  · refine lv_iinc (v := iI (x4 + 1)) (lv' := [(4, .int (iI (x4 + 1))), (3, .int (iI z_32)), (5, .int (iI (f 0 x3))), (0, .ref (ad 10)), (1, .ref (ad 1)), (2, .int (iI a2))]) hx hb dX6_split_139 hl (k := 5) rfl (by show iI _ + iI 1 = _; rw [iI_add]) (by decide) rfl (fun ls hl => ?_)
                    refine lv_goto (tgt := 15) hx hb dX6_split_142 (by decide) ?_
                    exact ih_15 z_32 (x4 + 1) (y5_1 + 1) (u1 c6_1 y5_1 (if 6 < z_32 - x3 then 257 else 258)) (u1 c7_1 y5_1 x3) (u1 c8_1 y5_1 (nV (f 0) x3 (z_32 - x3).toNat)) _ _ _ (by omega) (by omega) (by omega) (by omega) (by first | exact tPre_ws hT (by omega) (by omega) | exact tPre_put hT (by omega) (by omega) (by omega) (by omega) hk hv (by omega) hy) hP hS (lv_sub hl [3, 4, 5, 1, 0] rfl)
                  · refine lv_aload_n hx hb dX6_split_121 rfl (lv_at hl 2 rfl) ?_
                    refine rwG_reader_tokens_kinds C hP mF_X6_9 dX6_split_122 ?_
                    refine lv_aload_n hx hb dX6_split_125 rfl (lv_at hl 2 rfl) ?_
                    refine rwG_reader_tokens_many C hP mF_X6_25 dX6_split_126 ?_
                    show W p l e (gRm 6 136) s m args below meth c _ _ 0 0 Q (F0 m 129 ls [.int (iI (y5_1 + 1)), .ref (ad 11)])
                    refine lv_iconst (v := iI 1) hx hb dX6_split_129 rfl ?_
                    refine gi_sub (z := ((y5_1 + 1) - 1)) hx hb dX6_split_130 rfl ?_
                    refine rwL_reader_tokens_kinds C hP (by omega) (by omega) dX6_split_131 ?_
                    show W p l e (gRm 6 136) s m args below meth c _ _ 0 0 Q (F0 m 132 ls [.int (iI ((u1 c6_1 y5_1 (if 6 < z_32 - x3 then 257 else 258)) ((y5_1 + 1) - 1)))])
                    have r_35 : 0 ≤ ((u1 c6_1 y5_1 (if 6 < z_32 - x3 then 257 else 258)) ((y5_1 + 1) - 1)) ∧ ((u1 c6_1 y5_1 (if 6 < z_32 - x3 then 257 else 258)) ((y5_1 + 1) - 1)) ≤ 300 := hP.2.2 6 ((y5_1 + 1) - 1)
                    have q_36 : ((u1 c6_1 y5_1 (if 6 < z_32 - x3 then 257 else 258)) ((y5_1 + 1) - 1)) = (if 6 < z_32 - x3 then 257 else 258) := by rw [show ((y5_1 + 1) - 1) = y5_1 by omega]; exact u1_s
                    refine lv_sipush (v := iI 257) hx hb dX6_split_132 (by decide) ?_
                    refine gi_cne (tgt := 139) hx hb dX6_split_135 (by decide) (by omega) (by decide) (fun c_37 => ?_) (fun c_37 => ?_)
                    · refine lv_iinc (v := iI (x4 + 1)) (lv' := [(4, .int (iI (x4 + 1))), (3, .int (iI z_32)), (5, .int (iI (f 0 x3))), (0, .ref (ad 10)), (1, .ref (ad 1)), (2, .int (iI a2))]) hx hb dX6_split_139 hl (k := 5) rfl (by show iI _ + iI 1 = _; rw [iI_add]) (by decide) rfl (fun ls hl => ?_)
                      refine lv_goto (tgt := 15) hx hb dX6_split_142 (by decide) ?_
                      exact ih_15 z_32 (x4 + 1) (y5_1 + 1) (u1 c6_1 y5_1 (if 6 < z_32 - x3 then 257 else 258)) (u1 c7_1 y5_1 x3) (u1 c8_1 y5_1 (nV (f 0) x3 (z_32 - x3).toNat)) _ _ _ (by omega) (by omega) (by omega) (by omega) (by first | exact tPre_ws hT (by omega) (by omega) | exact tPre_put hT (by omega) (by omega) (by omega) (by omega) hk hv (by omega) hy) hP hS (lv_sub hl [3, 4, 5, 1, 0] rfl)
                    · exact g_vret hQ C hr hlocks hP hS dX6_split_138 ⟨(y5_1 + 1), (u1 c6_1 y5_1 (if 6 < z_32 - x3 then 257 else 258)), (u1 c7_1 y5_1 x3), (u1 c8_1 y5_1 (nV (f 0) x3 (z_32 - x3).toNat)), rfl, rfl, rfl, rfl, (by first | (exfalso; omega) | exact tPre_end hT (by omega) (by omega) (by omega) (by omega) hk hv (by omega) | exact tPre_end (x := a2) (by have h := hT; rw [show x3 = a2 by omega] at h; exact h) (by omega) (by omega) (by omega) (by omega) (tK_N (by omega)).symm (tV_0 (by omega)).symm (by omega))⟩
              · refine lv_aload_n hx hb dX6_split_59 rfl (lv_at hl 1 rfl) ?_
                refine lv_aload_n hx hb dX6_split_60 rfl (lv_at hl 2 rfl) ?_
                refine lv_iload_n hx hb dX6_split_61 rfl (lv_at hl 4 rfl) ?_
                refine lv_iload_n hx hb dX6_split_62 rfl (lv_at hl 3 rfl) ?_
                refine g_cvE (As := [.ref (ad 1), .int (iI x3), .int (iI a2)]) (rest := []) (n := 3) C hE hml (e_To_putWord l D k A ad hD za (va_up (va_up v 6 0) 5 y5_1) (va_up (va_up (va_up f 6 c6_1) 7 c7_1) 8 c8_1) g x3 a2 (by omega) (by omega) (show y5_1 < 701 from by omega) (show 0 ≤ x3 ∧ x3 ≤ a2 from by omega) (show a2 ≤ 700 from by omega)) mM_X6_32 mI_X6_putWord mE_X6_putWord mN_X6 mC_X6_putWord (by decide +kernel) 10 (ci := 6) rfl rfl hP hS (fun _ h => h) ⟨Nat.le_of_ble_eq_true rfl, Nat.le_of_ble_eq_true rfl⟩ ⟨Nat.zero_le _, Nat.zero_le _⟩ hl.1 rfl rfl (Nat.le_of_ble_eq_true rfl) dX6_split_63 (fun r_38 v_38 f_38 g_38 H locs hq_38 hP _ hS => ?_)
                obtain ⟨z_38, rfl, rfl, rfl, rfl, p0_38, p1_38⟩ := hq_38
                show W p l e (gRm 6 136) s m args below meth c _ _ 0 0 Q (F0 m 66 ls [.int (iI z_38)])
                have hP : gWd D (rwT k ad) (va_up (va_up v 6 0) 5 (y5_1 + 1)) (va_up (va_up (va_up f 6 (u1 c6_1 y5_1 (wK (f 0) x3 z_38))) 7 (u1 c7_1 y5_1 x3)) 8 (u1 c8_1 y5_1 0)) g H := ⟨hP.1, (gF_up (V := rwV) (F := rwF) (gF_up (V := rwV) (F := rwF) (gF_up (V := rwV) (F := rwF) (gR_up (V := rwV) (F := rwF) (gR_up (V := rwV) (F := rwF) ⟨hok.1, hok.2⟩ 6 (hP.2.1 6)) 5 (hP.2.1 5)) 6 (hP.2.2 6)) 7 (hP.2.2 7)) 8 (hP.2.2 8))⟩
                replace p0_38 : z_38 = (run bL (f 0) a2 x3) := p0_38
                replace p1_38 : x3 ≤ z_38 ∧ z_38 ≤ a2 := p1_38
                have hz_38 : inR z_38 := (by first | omega | (rw [p0_38]; split <;> omega))
                have hk : wK (f 0) x3 z_38 = tK (f 0) a2 x3 := by rw [p0_38, tK_L (by omega) (by omega)]
                have hwr := wK_rng (f 0) x3 z_38
                have hy : z_38 = tE (f 0) a2 x3 := by rw [p0_38, tE_L (by omega) (by omega)]
                have hv : (0 : Int) = tV (f 0) a2 x3 := (tV_0 (by omega)).symm
                have hup := tE_up (B := (f 0)) (n := a2) (q := x3) (by omega)
                refine lv_istore_n (lv' := [(3, .int (iI z_38)), (5, .int (iI (f 0 x3))), (0, .ref (ad 10)), (1, .ref (ad 1)), (2, .int (iI a2)), (4, .int (iI x4))]) hx hb dX6_split_66 rfl hl (by decide) rfl (fun ls hl => ?_)
                refine lv_goto (tgt := 114) hx hb dX6_split_67 (by decide) ?_
                refine lv_aload_n hx hb dX6_split_114 rfl (lv_at hl 2 rfl) ?_
                refine rwG_reader_tokens_many C hP mF_X6_25 dX6_split_115 ?_
                show W p l e (gRm 6 136) s m args below meth c _ _ 0 0 Q (F0 m 118 ls [.int (iI (y5_1 + 1))])
                have r_39 : 0 ≤ (y5_1 + 1) ∧ (y5_1 + 1) ≤ 701 := hP.2.1 5
                refine gi_zle (tgt := 139) hx hb dX6_split_118 (by decide) (by omega) (fun c_40 => ?_) (fun c_40 => ?_)
                · refine lv_iinc (v := iI (x4 + 1)) (lv' := [(4, .int (iI (x4 + 1))), (3, .int (iI z_38)), (5, .int (iI (f 0 x3))), (0, .ref (ad 10)), (1, .ref (ad 1)), (2, .int (iI a2))]) hx hb dX6_split_139 hl (k := 5) rfl (by show iI _ + iI 1 = _; rw [iI_add]) (by decide) rfl (fun ls hl => ?_)
                  refine lv_goto (tgt := 15) hx hb dX6_split_142 (by decide) ?_
                  exact ih_15 z_38 (x4 + 1) (y5_1 + 1) (u1 c6_1 y5_1 (wK (f 0) x3 z_38)) (u1 c7_1 y5_1 x3) (u1 c8_1 y5_1 0) _ _ _ (by omega) (by omega) (by omega) (by omega) (by first | exact tPre_ws hT (by omega) (by omega) | exact tPre_put hT (by omega) (by omega) (by omega) (by omega) hk hv (by omega) hy) hP hS (lv_sub hl [3, 4, 5, 1, 0] rfl)
                · refine lv_aload_n hx hb dX6_split_121 rfl (lv_at hl 2 rfl) ?_
                  refine rwG_reader_tokens_kinds C hP mF_X6_9 dX6_split_122 ?_
                  refine lv_aload_n hx hb dX6_split_125 rfl (lv_at hl 2 rfl) ?_
                  refine rwG_reader_tokens_many C hP mF_X6_25 dX6_split_126 ?_
                  show W p l e (gRm 6 136) s m args below meth c _ _ 0 0 Q (F0 m 129 ls [.int (iI (y5_1 + 1)), .ref (ad 11)])
                  refine lv_iconst (v := iI 1) hx hb dX6_split_129 rfl ?_
                  refine gi_sub (z := ((y5_1 + 1) - 1)) hx hb dX6_split_130 rfl ?_
                  refine rwL_reader_tokens_kinds C hP (by omega) (by omega) dX6_split_131 ?_
                  show W p l e (gRm 6 136) s m args below meth c _ _ 0 0 Q (F0 m 132 ls [.int (iI ((u1 c6_1 y5_1 (wK (f 0) x3 z_38)) ((y5_1 + 1) - 1)))])
                  have r_41 : 0 ≤ ((u1 c6_1 y5_1 (wK (f 0) x3 z_38)) ((y5_1 + 1) - 1)) ∧ ((u1 c6_1 y5_1 (wK (f 0) x3 z_38)) ((y5_1 + 1) - 1)) ≤ 300 := hP.2.2 6 ((y5_1 + 1) - 1)
                  have q_42 : ((u1 c6_1 y5_1 (wK (f 0) x3 z_38)) ((y5_1 + 1) - 1)) = (wK (f 0) x3 z_38) := by rw [show ((y5_1 + 1) - 1) = y5_1 by omega]; exact u1_s
                  refine lv_sipush (v := iI 257) hx hb dX6_split_132 (by decide) ?_
                  refine gi_cne (tgt := 139) hx hb dX6_split_135 (by decide) (by omega) (by decide) (fun c_43 => ?_) (fun c_43 => ?_)
                  · refine lv_iinc (v := iI (x4 + 1)) (lv' := [(4, .int (iI (x4 + 1))), (3, .int (iI z_38)), (5, .int (iI (f 0 x3))), (0, .ref (ad 10)), (1, .ref (ad 1)), (2, .int (iI a2))]) hx hb dX6_split_139 hl (k := 5) rfl (by show iI _ + iI 1 = _; rw [iI_add]) (by decide) rfl (fun ls hl => ?_)
                    refine lv_goto (tgt := 15) hx hb dX6_split_142 (by decide) ?_
                    exact ih_15 z_38 (x4 + 1) (y5_1 + 1) (u1 c6_1 y5_1 (wK (f 0) x3 z_38)) (u1 c7_1 y5_1 x3) (u1 c8_1 y5_1 0) _ _ _ (by omega) (by omega) (by omega) (by omega) (by first | exact tPre_ws hT (by omega) (by omega) | exact tPre_put hT (by omega) (by omega) (by omega) (by omega) hk hv (by omega) hy) hP hS (lv_sub hl [3, 4, 5, 1, 0] rfl)
                  · exact g_vret hQ C hr hlocks hP hS dX6_split_138 ⟨(y5_1 + 1), (u1 c6_1 y5_1 (wK (f 0) x3 z_38)), (u1 c7_1 y5_1 x3), (u1 c8_1 y5_1 0), rfl, rfl, rfl, rfl, (by first | (exfalso; omega) | exact tPre_end hT (by omega) (by omega) (by omega) (by omega) hk hv (by omega) | exact tPre_end (x := a2) (by have h := hT; rw [show x3 = a2 by omega] at h; exact h) (by omega) (by omega) (by omega) (by omega) (tK_N (by omega)).symm (tV_0 (by omega)).symm (by omega))⟩
            · refine lv_iinc (v := iI (x3 + 1)) (lv' := [(3, .int (iI (x3 + 1))), (5, .int (iI (f 0 x3))), (0, .ref (ad 10)), (1, .ref (ad 1)), (2, .int (iI a2)), (4, .int (iI x4))]) hx hb dX6_split_45 hl (k := 4) rfl (by show iI _ + iI 1 = _; rw [iI_add]) (by decide) rfl (fun ls hl => ?_)
              refine lv_goto (tgt := 114) hx hb dX6_split_48 (by decide) ?_
              refine lv_aload_n hx hb dX6_split_114 rfl (lv_at hl 2 rfl) ?_
              refine rwG_reader_tokens_many C hP mF_X6_25 dX6_split_115 ?_
              show W p l e (gRm 6 136) s m args below meth c _ _ 0 0 Q (F0 m 118 ls [.int (iI y5_1)])
              have r_44 : 0 ≤ y5_1 ∧ y5_1 ≤ 701 := hP.2.1 5
              refine gi_zle (tgt := 139) hx hb dX6_split_118 (by decide) (by omega) (fun c_45 => ?_) (fun c_45 => ?_)
              · refine lv_iinc (v := iI (x4 + 1)) (lv' := [(4, .int (iI (x4 + 1))), (3, .int (iI (x3 + 1))), (5, .int (iI (f 0 x3))), (0, .ref (ad 10)), (1, .ref (ad 1)), (2, .int (iI a2))]) hx hb dX6_split_139 hl (k := 5) rfl (by show iI _ + iI 1 = _; rw [iI_add]) (by decide) rfl (fun ls hl => ?_)
                refine lv_goto (tgt := 15) hx hb dX6_split_142 (by decide) ?_
                exact ih_15 (x3 + 1) (x4 + 1) y5_1 c6_1 c7_1 c8_1 _ _ _ (by omega) (by omega) (by omega) (by omega) (by first | exact tPre_ws hT (by omega) (by omega) | exact tPre_put hT (by omega) (by omega) (by omega) (by omega) hk hv (by omega) hy) hP hS (lv_sub hl [3, 4, 5, 1, 0] rfl)
              · refine lv_aload_n hx hb dX6_split_121 rfl (lv_at hl 2 rfl) ?_
                refine rwG_reader_tokens_kinds C hP mF_X6_9 dX6_split_122 ?_
                refine lv_aload_n hx hb dX6_split_125 rfl (lv_at hl 2 rfl) ?_
                refine rwG_reader_tokens_many C hP mF_X6_25 dX6_split_126 ?_
                show W p l e (gRm 6 136) s m args below meth c _ _ 0 0 Q (F0 m 129 ls [.int (iI y5_1), .ref (ad 11)])
                refine lv_iconst (v := iI 1) hx hb dX6_split_129 rfl ?_
                refine gi_sub (z := (y5_1 - 1)) hx hb dX6_split_130 rfl ?_
                refine rwL_reader_tokens_kinds C hP (by omega) (by omega) dX6_split_131 ?_
                show W p l e (gRm 6 136) s m args below meth c _ _ 0 0 Q (F0 m 132 ls [.int (iI (c6_1 (y5_1 - 1)))])
                have r_46 : 0 ≤ (c6_1 (y5_1 - 1)) ∧ (c6_1 (y5_1 - 1)) ≤ 300 := hP.2.2 6 (y5_1 - 1)
                have q_47 : (c6_1 (y5_1 - 1)) ≠ 257 := tPre_at hT (by omega) (by omega)
                refine lv_sipush (v := iI 257) hx hb dX6_split_132 (by decide) ?_
                refine gi_cne (tgt := 139) hx hb dX6_split_135 (by decide) (by omega) (by decide) (fun c_48 => ?_) (fun c_48 => ?_)
                · refine lv_iinc (v := iI (x4 + 1)) (lv' := [(4, .int (iI (x4 + 1))), (3, .int (iI (x3 + 1))), (5, .int (iI (f 0 x3))), (0, .ref (ad 10)), (1, .ref (ad 1)), (2, .int (iI a2))]) hx hb dX6_split_139 hl (k := 5) rfl (by show iI _ + iI 1 = _; rw [iI_add]) (by decide) rfl (fun ls hl => ?_)
                  refine lv_goto (tgt := 15) hx hb dX6_split_142 (by decide) ?_
                  exact ih_15 (x3 + 1) (x4 + 1) y5_1 c6_1 c7_1 c8_1 _ _ _ (by omega) (by omega) (by omega) (by omega) (by first | exact tPre_ws hT (by omega) (by omega) | exact tPre_put hT (by omega) (by omega) (by omega) (by omega) hk hv (by omega) hy) hP hS (lv_sub hl [3, 4, 5, 1, 0] rfl)
                · exact g_vret hQ C hr hlocks hP hS dX6_split_138 ⟨y5_1, c6_1, c7_1, c8_1, rfl, rfl, rfl, rfl, (by first | (exfalso; omega) | exact tPre_end hT (by omega) (by omega) (by omega) (by omega) hk hv (by omega) | exact tPre_end (x := a2) (by have h := hT; rw [show x3 = a2 by omega] at h; exact h) (by omega) (by omega) (by omega) (by omega) (tK_N (by omega)).symm (tV_0 (by omega)).symm (by omega))⟩
  exact L_1 701 0 0 0 (f 6) (f 7) (f 8) _ _ _ (by omega) (by omega) (by omega) (by omega) tPre0 hP hS (lv_sub hl [2, 3, 4, 1, 0] rfl)
end
