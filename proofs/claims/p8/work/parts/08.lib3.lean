theorem dJ7_fill_d0a16_0 : decode cJ7_fill_d0a16 0 = .ok (.iconst 0, 1) := by decide +kernel
theorem dJ7_fill_d0a16_1 : decode cJ7_fill_d0a16 1 = .ok (.istore_n 3, 1) := by decide +kernel
theorem dJ7_fill_d0a16_2 : decode cJ7_fill_d0a16 2 = .ok (.aload_n 0, 1) := by decide +kernel
theorem dJ7_fill_d0a16_3 : decode cJ7_fill_d0a16 3 = .ok (.arraylength, 1) := by decide +kernel
theorem dJ7_fill_d0a16_4 : decode cJ7_fill_d0a16 4 = .ok (.istore 4, 2) := by decide +kernel
theorem dJ7_fill_d0a16_6 : decode cJ7_fill_d0a16 6 = .ok (.iload_n 3, 1) := by decide +kernel
theorem dJ7_fill_d0a16_7 : decode cJ7_fill_d0a16 7 = .ok (.iload 4, 2) := by decide +kernel
theorem dJ7_fill_d0a16_9 : decode cJ7_fill_d0a16 9 = .ok (.if_icmp .ge 13, 3) := by decide +kernel
theorem dJ7_fill_d0a16_12 : decode cJ7_fill_d0a16 12 = .ok (.aload_n 0, 1) := by decide +kernel
theorem dJ7_fill_d0a16_13 : decode cJ7_fill_d0a16 13 = .ok (.iload_n 3, 1) := by decide +kernel
theorem dJ7_fill_d0a16_14 : decode cJ7_fill_d0a16 14 = .ok (.lload_n 1, 1) := by decide +kernel
theorem dJ7_fill_d0a16_15 : decode cJ7_fill_d0a16 15 = .ok (.lastore, 1) := by decide +kernel
theorem dJ7_fill_d0a16_16 : decode cJ7_fill_d0a16 16 = .ok (.iinc 3 1, 3) := by decide +kernel
theorem dJ7_fill_d0a16_19 : decode cJ7_fill_d0a16 19 = .ok (.goto (-13), 3) := by decide +kernel
theorem dJ7_fill_d0a16_22 : decode cJ7_fill_d0a16 22 = .ok (.return_, 1) := by decide +kernel
theorem dJ7_fill_53178_0 : decode cJ7_fill_53178 0 = .ok (.iconst 0, 1) := by decide +kernel
theorem dJ7_fill_53178_1 : decode cJ7_fill_53178 1 = .ok (.istore_n 2, 1) := by decide +kernel
theorem dJ7_fill_53178_2 : decode cJ7_fill_53178 2 = .ok (.aload_n 0, 1) := by decide +kernel
theorem dJ7_fill_53178_3 : decode cJ7_fill_53178 3 = .ok (.arraylength, 1) := by decide +kernel
theorem dJ7_fill_53178_4 : decode cJ7_fill_53178 4 = .ok (.istore_n 3, 1) := by decide +kernel
theorem dJ7_fill_53178_5 : decode cJ7_fill_53178 5 = .ok (.iload_n 2, 1) := by decide +kernel
theorem dJ7_fill_53178_6 : decode cJ7_fill_53178 6 = .ok (.iload_n 3, 1) := by decide +kernel
theorem dJ7_fill_53178_7 : decode cJ7_fill_53178 7 = .ok (.if_icmp .ge 13, 3) := by decide +kernel
theorem dJ7_fill_53178_10 : decode cJ7_fill_53178 10 = .ok (.aload_n 0, 1) := by decide +kernel
theorem dJ7_fill_53178_11 : decode cJ7_fill_53178 11 = .ok (.iload_n 2, 1) := by decide +kernel
theorem dJ7_fill_53178_12 : decode cJ7_fill_53178 12 = .ok (.iload_n 1, 1) := by decide +kernel
theorem dJ7_fill_53178_13 : decode cJ7_fill_53178 13 = .ok (.iastore, 1) := by decide +kernel
theorem dJ7_fill_53178_14 : decode cJ7_fill_53178 14 = .ok (.iinc 2 1, 3) := by decide +kernel
theorem dJ7_fill_53178_17 : decode cJ7_fill_53178 17 = .ok (.goto (-12), 3) := by decide +kernel
theorem dJ7_fill_53178_20 : decode cJ7_fill_53178 20 = .ok (.return_, 1) := by decide +kernel
/-- the first n places of a row filled, copied -/
def gfill (a : Int → Int) (n x : Int) : Int → Int := fun k => if 0 ≤ k ∧ k < n then x else a k
theorem gfill_0 (a : Int → Int) (x : Int) : gfill a 0 x = a := by
  funext k
  unfold gfill
  exact if_neg (by omega)
theorem gfill_s (a : Int → Int) {i : Int} (x : Int) (h : 0 ≤ i) : u1 (gfill a i x) i x = gfill a (i + 1) x := by
  funext k
  unfold u1 gfill
  by_cases hk : k = i
  · rw [if_pos hk, if_pos (by omega)]
  · rw [if_neg hk]
    by_cases h2 : 0 ≤ k ∧ k < i
    · rw [if_pos h2, if_pos (by omega)]
    · rw [if_neg h2, if_neg (by omega)]
theorem gfill_rng {r : Int × Int} {a : Int → Int} {n x : Int} (h : ∀ k, rng r (a k)) (hx : rng r x) : ∀ k, rng r (gfill a n x k) := fun k => by
  unfold gfill
  by_cases hk : 0 ≤ k ∧ k < n
  · rw [if_pos hk]; exact hx
  · rw [if_neg hk]; exact h k
def gcpy (n : Int) (a b : Int → Int) : Int → Int := fun k => if 0 ≤ k ∧ k < n then a k else b k
theorem gcpy_rng {r : Int × Int} {a b : Int → Int} {n : Int} (h : ∀ k, rng r (a k)) (h2 : ∀ k, rng r (b k)) : ∀ k, rng r (gcpy n a b k) := fun k => by
  unfold gcpy
  by_cases hk : 0 ≤ k ∧ k < n
  · rw [if_pos hk]; exact h k
  · rw [if_neg hk]; exact h2 k
theorem iI_nat (n : Nat) : Int32.ofNat n = iI (n : Int) := (Int32.ofInt_eq_ofNat).symm
section G3
variable {p : Program} {l : Launch} {e : Env} {R : Room} {s : State} {m : MethodId} {args : Array Value} {below : List Frame} {meth : Method} {c : Code} {H H0 : Heap} {locs : List Loc} {cells slots : Nat} {Q : State → Prop}
variable {cc : ByteArray} {pc idx nL : Nat} {ls : Array Slot} {rest : List Value} {own : String} {D : va_G} {k : Nat → ClassId} {A : Nat → Prop} {ws ws' : va_W} {a0 a1 n : Nat} {r0 r1 : Int → Int}
theorem g_copy (C : gC D k p s m args c cc own) (hml : c.maxLocals = nL) (hsz : ls.size = nL) (hP : va_P D vwCl ws H) (hD : va_D A ws) (hS : va_S A H0 H locs) (q0 q1 : Nat) (ha0 : ws[q0]? = some (a0, rI (k 0) n r0)) (ha1 : ws[q1]? = some (a1, rI (k 0) n r1)) (hm : Cond.methodLink own idx arraycopyName ∈ gWs) (hw : ws.set q1 (a1, rI (k 0) n (gcpy n r0 r1)) = ws') (hn : n ≤ 1000000) {N : Int} (hN : N = (n : Int)) (hfr : 1 ≤ R.frames) (hlo : (rest.map fun v => v.category).sum + (nativeFrameWords "java/lang/System" "arraycopy" 5 + 11) ≤ R.locals) (hdg : decode cc pc = .ok (.invokestatic idx, 3))
    (kk : ∀ (H1 : Heap) (locs1 : List Loc), va_P D vwCl ws' H1 → va_S A H0 H1 locs1 → W p l e R s m args below meth c H1 locs1 cells slots Q (F0 m (pc + 3) ls rest)) : W p l e R s m args below meth c H locs cells slots Q (F0 m pc ls (.int (iI N) :: .int (iI 0) :: .ref a1 :: .int (iI 0) :: .ref a0 :: rest)) := by
  subst hN
  have h0 : (iI 0).toNatClampNeg = 0 := by decide
  have hc : (iI (n : Int)).toNatClampNeg = n := by
    have := iI_cl (a := (n : Int)) (by omega) (by omega)
    omega
  have hz : ¬ (iI (n : Int)) < 0 := by
    rw [iI_zero, iI_lt ⟨by omega, by omega⟩ (by decide)]
    omega
  refine va_copyi (D := D) C.1 C.2.1 (hml.trans hsz.symm) C.2.2.2.1 (C.2.2.1 _ hm) (C.2.2.1 _ mV_java_lang_System_arraycopy__Ljava_lang_Object_ILjava_lang_Object_II_V) (C.2.2.1 _ mS_java_lang_System_arraycopy__Ljava_lang_Object_ILjava_lang_Object_II_V) (C.2.2.1 _ mN_J10) C.2.2.2.2 hP hD hS q0 q1 0 0 ha0 ha1 rfl rfl rfl (by decide) (by decide) hz (by rw [h0, hc]; omega) (by rw [h0, hc]; omega) (fun _ _ => rfl) hfr hlo hdg (fun H1 locs1 hP1 _ hS1 => kk H1 locs1 ?_ hS1)
  rw [← hw]
  have e1 : va_cpy (fun (k : Nat) => iI (r0 (k : Int))) (fun (k : Nat) => iI (r1 (k : Int))) (iI 0).toNatClampNeg (iI 0).toNatClampNeg (iI (n : Int)).toNatClampNeg = fun (k : Nat) => iI (gcpy n r0 r1 (k : Int)) := by
    funext j
    rw [h0, hc]
    unfold va_cpy gcpy
    by_cases hj : j < n
    · rw [if_pos (by omega), if_pos (by omega), Nat.zero_add, Nat.sub_zero]
    · rw [if_neg (by omega), if_neg (by omega)]
  rw [e1] at hP1
  exact hP1
end G3
set_option maxHeartbeats 4000000 in
/-- Arrays.fill(int[], int) -/
theorem c_fillI (l : Launch) (D : va_G) (k : Nat → ClassId) (A : Nat → Prop) (Wd : gWt) (a q j n : Nat) (hq : ∀ v f g, (Wd.1 v f g)[q]? = some (a, rI (k 0) n (f j))) (hs : ∀ v f g r, (Wd.1 v f g).set q (a, rI (k 0) n r) = Wd.1 v (va_up f j r) g) (hDw : ∀ v f g, va_D A (Wd.1 v f g)) (hn : n ≤ 1000000) (v : gV) (f g : gF) (x : Int) (h_x : inR x) (h_r : rng (Wd.2.2 j) x) : GM l D k A Wd yJ7_fill_53178 cJ7_fill_53178 4 none 0 0 [.ref a, .int (iI x)] v f g (fun r v1 f1 g1 => r = none ∧ v = v1 ∧ va_up f j (gfill (f j) n x) = f1 ∧ g = g1) := by
  refine GM.of (by decide) (Nat.le_of_ble_eq_true rfl) ?_
  intro p e s m args below meth c Q ls hQ C hml hr hlocks hP hl
  have hx := C.1
  have hb := C.2.1
  have hok := hP.2
  have hS : va_S A s.heap s.heap [] := va_S.rf
  have hl : lv_has ls 4 [(0, .ref a), (1, .int (iI x))] := hl
  refine lv_iconst (v := iI 0) hx hb dJ7_fill_53178_0 rfl ?_
  refine lv_istore_n (lv' := [(2, .int (iI 0)), (0, .ref a), (1, .int (iI x))]) hx hb dJ7_fill_53178_1 rfl hl (by decide) rfl (fun ls hl => ?_)
  refine lv_aload_n hx hb dJ7_fill_53178_2 rfl (lv_at hl 1 rfl) ?_
  refine va_alen (D := D) C.1 C.2.1 C.2.2.2.2 hP.1 q 0 (hq v f g) rfl (v := iI (n : Int)) (iI_nat n) dJ7_fill_53178_3 ?_
  refine lv_istore_n (lv' := [(3, .int (iI (n : Int))), (2, .int (iI 0)), (0, .ref a), (1, .int (iI x))]) hx hb dJ7_fill_53178_4 rfl hl (by decide) rfl (fun ls hl => ?_)
  have L_1 : ∀ (t : Nat) (i : Int) (H : Heap) (locs : List Loc) (ls : Array Slot), (n : Int) - i < (t : Int) → 0 ≤ i → i ≤ n → gWd D Wd v (va_up f j (gfill (f j) i x)) g H → va_S A s.heap H locs → lv_has ls 4 [(0, .ref a), (1, .int (iI x)), (2, .int (iI i)), (3, .int (iI (n : Int)))] → W p l e (gRm 0 0) s m args below meth c H locs 0 0 Q (F0 m 5 ls []) := by
    intro t
    induction t with
    | zero =>
      intro i H locs ls h1 h2 h3 hP hS hl
      exfalso; omega
    | succ t ih =>
      intro i H locs ls h1 h2 h3 hP hS hl
      refine lv_iload_n hx hb dJ7_fill_53178_5 rfl (lv_at hl 2 rfl) ?_
      refine lv_iload_n hx hb dJ7_fill_53178_6 rfl (lv_at hl 3 rfl) ?_
      refine gi_cge (tgt := 20) hx hb dJ7_fill_53178_7 (by decide) (by omega) (by omega) (fun c_1 => ?_) (fun c_1 => ?_)
      · have e1 : i = n := by omega
        subst e1
        exact g_vret hQ C hr hlocks hP hS dJ7_fill_53178_20 ⟨rfl, rfl, rfl, rfl⟩
      · refine lv_aload_n hx hb dJ7_fill_53178_10 rfl (lv_at hl 0 rfl) ?_
        refine lv_iload_n hx hb dJ7_fill_53178_11 rfl (lv_at hl 2 rfl) ?_
        refine lv_iload_n hx hb dJ7_fill_53178_12 rfl (lv_at hl 1 rfl) ?_
        have hq1 := hq v (va_up f j (gfill (f j) i x)) g
        rw [va_up_self] at hq1
        refine g_iast (ws' := Wd.1 v (va_up f j (gfill (f j) (i + 1) x)) g) C hP.1 (hDw _ _ _) hS q hq1 (by omega) h2 c_1 ?_ dJ7_fill_53178_13 (fun H locs hP1 hS => ?_)
        · rw [hs, bx_uu, gfill_s _ _ h2]
        · refine lv_iinc (v := iI (i + 1)) (lv' := [(2, .int (iI (i + 1))), (0, .ref a), (1, .int (iI x)), (3, .int (iI (n : Int)))]) hx hb dJ7_fill_53178_14 hl (k := 2) rfl (by show iI _ + iI 1 = _; rw [iI_add]) (by decide) rfl (fun ls hl => ?_)
          refine lv_goto (tgt := 5) hx hb dJ7_fill_53178_17 (by decide) ?_
          exact ih (i + 1) _ _ _ (by omega) (by omega) (by omega) ⟨hP1, gF_up hok j (gfill_rng (hok.2 j) h_r)⟩ hS (lv_sub hl [1, 2, 0, 3] rfl)
  refine L_1 (n + 1) 0 _ _ _ (by omega) (by omega) (by omega) ?_ hS (lv_sub hl [2, 3, 1, 0] rfl)
  rw [gfill_0]
  have e1 : va_up f j (f j) = f := by
    funext j2
    unfold va_up
    by_cases h : j2 = j
    · rw [if_pos h, h]
    · rw [if_neg h]
  rw [e1]
  exact hP
set_option maxHeartbeats 4000000 in
/-- Arrays.fill(long[], long) -/
theorem c_fillL (l : Launch) (D : va_G) (k : Nat → ClassId) (A : Nat → Prop) (Wd : gWt) (a q j n : Nat) (hq : ∀ v f g, (Wd.1 v f g)[q]? = some (a, rL (k 1) n (g j))) (hs : ∀ v f g r, (Wd.1 v f g).set q (a, rL (k 1) n r) = Wd.1 v f (va_up g j r)) (hDw : ∀ v f g, va_D A (Wd.1 v f g)) (hn : n ≤ 1000000) (v : gV) (f g : gF) (x : Int) : GM l D k A Wd yJ7_fill_d0a16 cJ7_fill_d0a16 5 none 0 0 [.ref a, .long (iL x)] v f g (fun r v1 f1 g1 => r = none ∧ v = v1 ∧ f = f1 ∧ va_up g j (gfill (g j) n x) = g1) := by
  refine GM.of (by decide) (Nat.le_of_ble_eq_true rfl) ?_
  intro p e s m args below meth c Q ls hQ C hml hr hlocks hP hl
  have hx := C.1
  have hb := C.2.1
  have hok := hP.2
  have hS : va_S A s.heap s.heap [] := va_S.rf
  have hl : lv_has ls 5 [(0, .ref a), (1, .long (iL x))] := hl
  refine lv_iconst (v := iI 0) hx hb dJ7_fill_d0a16_0 rfl ?_
  refine lv_istore_n (lv' := [(3, .int (iI 0)), (0, .ref a), (1, .long (iL x))]) hx hb dJ7_fill_d0a16_1 rfl hl (by decide) rfl (fun ls hl => ?_)
  refine lv_aload_n hx hb dJ7_fill_d0a16_2 rfl (lv_at hl 1 rfl) ?_
  refine va_alen (D := D) C.1 C.2.1 C.2.2.2.2 hP.1 q 1 (hq v f g) rfl (v := iI (n : Int)) (iI_nat n) dJ7_fill_d0a16_3 ?_
  refine lv_istore (lv' := [(4, .int (iI (n : Int))), (3, .int (iI 0)), (0, .ref a), (1, .long (iL x))]) hx hb dJ7_fill_d0a16_4 hl (by decide) rfl (fun ls hl => ?_)
  have L_1 : ∀ (t : Nat) (i : Int) (H : Heap) (locs : List Loc) (ls : Array Slot), (n : Int) - i < (t : Int) → 0 ≤ i → i ≤ n → gWd D Wd v f (va_up g j (gfill (g j) i x)) H → va_S A s.heap H locs → lv_has ls 5 [(0, .ref a), (1, .long (iL x)), (3, .int (iI i)), (4, .int (iI (n : Int)))] → W p l e (gRm 0 0) s m args below meth c H locs 0 0 Q (F0 m 6 ls []) := by
    intro t
    induction t with
    | zero =>
      intro i H locs ls h1 h2 h3 hP hS hl
      exfalso; omega
    | succ t ih =>
      intro i H locs ls h1 h2 h3 hP hS hl
      refine lv_iload_n hx hb dJ7_fill_d0a16_6 rfl (lv_at hl 2 rfl) ?_
      refine lv_iload hx hb dJ7_fill_d0a16_7 (lv_at hl 3 rfl) ?_
      refine gi_cge (tgt := 22) hx hb dJ7_fill_d0a16_9 (by decide) (by omega) (by omega) (fun c_1 => ?_) (fun c_1 => ?_)
      · have e1 : i = n := by omega
        subst e1
        exact g_vret hQ C hr hlocks hP hS dJ7_fill_d0a16_22 ⟨rfl, rfl, rfl, rfl⟩
      · refine lv_aload_n hx hb dJ7_fill_d0a16_12 rfl (lv_at hl 0 rfl) ?_
        refine lv_iload_n hx hb dJ7_fill_d0a16_13 rfl (lv_at hl 2 rfl) ?_
        refine lv_lload_n hx hb dJ7_fill_d0a16_14 rfl (lv_at hl 1 rfl) ?_
        have hq1 := hq v f (va_up g j (gfill (g j) i x))
        rw [va_up_self] at hq1
        refine g_last (ws' := Wd.1 v f (va_up g j (gfill (g j) (i + 1) x))) C hP.1 (hDw _ _ _) hS q hq1 (by omega) h2 c_1 ?_ dJ7_fill_d0a16_15 (fun H locs hP1 hS => ?_)
        · rw [hs, bx_uu, gfill_s _ _ h2]
        · refine lv_iinc (v := iI (i + 1)) (lv' := [(3, .int (iI (i + 1))), (0, .ref a), (1, .long (iL x)), (4, .int (iI (n : Int)))]) hx hb dJ7_fill_d0a16_16 hl (k := 2) rfl (by show iI _ + iI 1 = _; rw [iI_add]) (by decide) rfl (fun ls hl => ?_)
          refine lv_goto (tgt := 6) hx hb dJ7_fill_d0a16_19 (by decide) ?_
          exact ih (i + 1) _ _ _ (by omega) (by omega) (by omega) ⟨hP1, hok⟩ hS (lv_sub hl [1, 2, 0, 3] rfl)
  refine L_1 (n + 1) 0 _ _ _ (by omega) (by omega) (by omega) ?_ hS (lv_sub hl [2, 3, 1, 0] rfl)
  rw [gfill_0]
  have e1 : va_up g j (g j) = g := by
    funext j2
    unfold va_up
    by_cases h : j2 = j
    · rw [if_pos h, h]
    · rw [if_neg h]
  rw [e1]
  exact hP
