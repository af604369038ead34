section GA
variable {p : Program} {l : Launch} {e : Env} {R : Room} {s : State} {m : MethodId} {args : Array Value} {below : List Frame} {meth : Method} {c : Code} {H H0 : Heap} {locs : List Loc} {cells slots : Nat} {Q : State → Prop}
variable {cc : ByteArray} {pc : Nat} {ls : Array Slot} {rest : List Value} {own : String} {D : va_G} {k : Nat → ClassId} {A : Nat → Prop} {ws ws' : va_W} {a n : Nat} {r : Int → Int} {i x : Int}
theorem g_iald (C : gC D k p s m args c cc own) (hP : va_P D vwCl ws H) (q0 : Nat) (ha : ws[q0]? = some (a, rI (k 0) n r)) (hn : n ≤ 2147483647) (h0 : 0 ≤ i) (h1 : i < (n : Int)) (hdg : decode cc pc = .ok (.iaload, 1)) (kk : W p l e R s m args below meth c H locs cells slots Q (F0 m (pc + 1) ls (.int (iI (r i)) :: rest))) : W p l e R s m args below meth c H locs cells slots Q (F0 m pc ls (.int (iI i) :: .ref a :: rest)) := by
  refine va_iald (D := D) C.1 C.2.1 C.2.2.2.2 hP q0 0 ha rfl (iI_in h0 h1 hn) hdg ?_
  rw [show ((iI i).toNatClampNeg : Int) = i from iI_cl h0 (by omega)]
  exact kk
theorem g_zald (C : gC D k p s m args c cc own) (hP : va_P D vwCl ws H) (q0 : Nat) (ha : ws[q0]? = some (a, rI (k 3) n r)) (hn : n ≤ 2147483647) (h0 : 0 ≤ i) (h1 : i < (n : Int)) (hdg : decode cc pc = .ok (.baload, 1)) (kk : W p l e R s m args below meth c H locs cells slots Q (F0 m (pc + 1) ls (.int (iI (r i)) :: rest))) : W p l e R s m args below meth c H locs cells slots Q (F0 m pc ls (.int (iI i) :: .ref a :: rest)) := by
  refine va_zald (D := D) C.1 C.2.1 C.2.2.2.2 hP q0 3 ha rfl (iI_in h0 h1 hn) hdg ?_
  rw [show ((iI i).toNatClampNeg : Int) = i from iI_cl h0 (by omega)]
  exact kk
theorem g_bald (C : gC D k p s m args c cc own) (hP : va_P D vwCl ws H) (q0 : Nat) (ha : ws[q0]? = some (a, rI (k 2) n r)) (hn : n ≤ 2147483647) (h0 : 0 ≤ i) (h1 : i < (n : Int)) (hdg : decode cc pc = .ok (.baload, 1)) (kk : W p l e R s m args below meth c H locs cells slots Q (F0 m (pc + 1) ls (.int (iI (r i)) :: rest))) : W p l e R s m args below meth c H locs cells slots Q (F0 m pc ls (.int (iI i) :: .ref a :: rest)) := by
  refine va_bald (D := D) C.1 C.2.1 C.2.2.2.2 hP q0 2 ha rfl (iI_in h0 h1 hn) hdg ?_
  rw [show ((iI i).toNatClampNeg : Int) = i from iI_cl h0 (by omega)]
  exact kk
theorem g_lald (C : gC D k p s m args c cc own) (hP : va_P D vwCl ws H) (q0 : Nat) (ha : ws[q0]? = some (a, rL (k 1) n r)) (hn : n ≤ 2147483647) (h0 : 0 ≤ i) (h1 : i < (n : Int)) (hdg : decode cc pc = .ok (.laload, 1)) (kk : W p l e R s m args below meth c H locs cells slots Q (F0 m (pc + 1) ls (.long (iL (r i)) :: rest))) : W p l e R s m args below meth c H locs cells slots Q (F0 m pc ls (.int (iI i) :: .ref a :: rest)) := by
  refine va_lald (D := D) C.1 C.2.1 C.2.2.2.2 hP q0 1 ha rfl (iI_in h0 h1 hn) hdg ?_
  rw [show ((iI i).toNatClampNeg : Int) = i from iI_cl h0 (by omega)]
  exact kk
theorem g_iast (C : gC D k p s m args c cc own) (hP : va_P D vwCl ws H) (hD : va_D A ws) (hS : va_S A H0 H locs) (q0 : Nat) (ha : ws[q0]? = some (a, rI (k 0) n r)) (hn : n ≤ 2147483647) (h0 : 0 ≤ i) (h1 : i < (n : Int)) (hw : ws.set q0 (a, rI (k 0) n (u1 r i x)) = ws') (hdg : decode cc pc = .ok (.iastore, 1)) (kk : ∀ (H1 : Heap) (locs1 : List Loc), va_P D vwCl ws' H1 → va_S A H0 H1 locs1 → W p l e R s m args below meth c H1 locs1 cells slots Q (F0 m (pc + 1) ls rest)) : W p l e R s m args below meth c H locs cells slots Q (F0 m pc ls (.int (iI x) :: .int (iI i) :: .ref a :: rest)) := by
  refine va_iast (D := D) C.1 C.2.1 C.2.2.2.2 hP hD hS q0 0 ha rfl (iI_in h0 h1 hn) hdg (fun H1 locs1 hP1 _ hS1 => kk H1 locs1 ?_ hS1)
  rw [rI_upd h0 (by omega)] at hP1
  rw [← hw]
  exact hP1
theorem g_last (C : gC D k p s m args c cc own) (hP : va_P D vwCl ws H) (hD : va_D A ws) (hS : va_S A H0 H locs) (q0 : Nat) (ha : ws[q0]? = some (a, rL (k 1) n r)) (hn : n ≤ 2147483647) (h0 : 0 ≤ i) (h1 : i < (n : Int)) (hw : ws.set q0 (a, rL (k 1) n (u1 r i x)) = ws') (hdg : decode cc pc = .ok (.lastore, 1)) (kk : ∀ (H1 : Heap) (locs1 : List Loc), va_P D vwCl ws' H1 → va_S A H0 H1 locs1 → W p l e R s m args below meth c H1 locs1 cells slots Q (F0 m (pc + 1) ls rest)) : W p l e R s m args below meth c H locs cells slots Q (F0 m pc ls (.long (iL x) :: .int (iI i) :: .ref a :: rest)) := by
  refine va_last (D := D) C.1 C.2.1 C.2.2.2.2 hP hD hS q0 1 ha rfl (iI_in h0 h1 hn) hdg (fun H1 locs1 hP1 _ hS1 => kk H1 locs1 ?_ hS1)
  rw [rL_upd h0 (by omega)] at hP1
  rw [← hw]
  exact hP1
theorem g_bast (C : gC D k p s m args c cc own) (hP : va_P D vwCl ws H) (hD : va_D A ws) (hS : va_S A H0 H locs) (q0 : Nat) (ha : ws[q0]? = some (a, rI (k 2) n r)) (hn : n ≤ 2147483647) (h0 : 0 ≤ i) (h1 : i < (n : Int)) (hx : (iI x).toInt8.toInt32 = iI x) (hw : ws.set q0 (a, rI (k 2) n (u1 r i x)) = ws') (hdg : decode cc pc = .ok (.bastore, 1)) (kk : ∀ (H1 : Heap) (locs1 : List Loc), va_P D vwCl ws' H1 → va_S A H0 H1 locs1 → W p l e R s m args below meth c H1 locs1 cells slots Q (F0 m (pc + 1) ls rest)) : W p l e R s m args below meth c H locs cells slots Q (F0 m pc ls (.int (iI x) :: .int (iI i) :: .ref a :: rest)) := by
  refine va_bast (D := D) C.1 C.2.1 C.2.2.2.2 hP hD hS q0 2 ha rfl (iI_in h0 h1 hn) hdg (fun H1 locs1 hP1 _ hS1 => kk H1 locs1 ?_ hS1)
  rw [vp_nar_byte, hx, rI_upd h0 (by omega)] at hP1
  rw [← hw]
  exact hP1
theorem vp_nar_bool {y : Int} (h : y = 0 ∨ y = 1) : vp_nar .boolean (iI y) = iI y := by
  rcases h with rfl | rfl <;> rfl
theorem g_zast (C : gC D k p s m args c cc own) (hP : va_P D vwCl ws H) (hD : va_D A ws) (hS : va_S A H0 H locs) (q0 : Nat) (ha : ws[q0]? = some (a, rI (k 3) n r)) (hn : n ≤ 2147483647) (h0 : 0 ≤ i) (h1 : i < (n : Int)) (hx : x = 0 ∨ x = 1) (hw : ws.set q0 (a, rI (k 3) n (u1 r i x)) = ws') (hdg : decode cc pc = .ok (.bastore, 1)) (kk : ∀ (H1 : Heap) (locs1 : List Loc), va_P D vwCl ws' H1 → va_S A H0 H1 locs1 → W p l e R s m args below meth c H1 locs1 cells slots Q (F0 m (pc + 1) ls rest)) : W p l e R s m args below meth c H locs cells slots Q (F0 m pc ls (.int (iI x) :: .int (iI i) :: .ref a :: rest)) := by
  refine va_zast (D := D) C.1 C.2.1 C.2.2.2.2 hP hD hS q0 3 ha rfl (iI_in h0 h1 hn) hdg (fun H1 locs1 hP1 _ hS1 => kk H1 locs1 ?_ hS1)
  rw [vp_nar_bool hx, rI_upd h0 (by omega)] at hP1
  rw [← hw]
  exact hP1
theorem g_newa (C : gC D k p s m args c cc own) {atype : ArrayType} {ty : FieldType} (hty : newarray.typeOf atype = ty) (hm : Cond.arrayClass ty ∈ gWs) (t0 : Nat) {cA : ClassId} (ht : (gT k)[t0]? = some (cA, ty)) (hra : ∀ c1, va_RA s c1 ty → s.vm.findClass ("[" ++ ty.toString) = some c1) (hP : va_P D vwCl ws H) (hD : va_D A ws) (hS : va_S A H0 H locs) (hA : ∀ q, H0.size ≤ q → A q)
    {n1 : Int32} {N' : Nat} {a0 : vp_A} (ha : ∀ c1 : ClassId, vp_cell c1 a0 = arrV c1 N' (fun _ => defaultValue ty)) (hn : ¬ n1 < 0) (hN : n1.toNatClampNeg = N') (hbytes : N' * componentBytes ty ≤ 536870912) (hcells : cells + 1 ≤ R.cells) (hslots : slots + N' ≤ R.slots) (hdg : decode cc pc = .ok (.newarray atype, 2))
    (kk : ∀ (q : Nat) (H1 : Heap), va_P D vwCl (ws ++ [(q, .inl (cA, a0))]) H1 → va_D A (ws ++ [(q, .inl (cA, a0))]) → va_S A H0 H1 locs →
      W p l e R s m args below meth c H1 locs (cells + 1) (slots + N') Q (F0 m (pc + 2) ls (.ref q :: rest))) : W p l e R s m args below meth c H locs cells slots Q (F0 m pc ls (.int n1 :: rest)) := by
  subst hty
  refine va_newa (D := D) C.1 C.2.1 (C.2.2.1 _ hm) rfl C.2.2.2.2 hP hD hS hA ha hn hN hbytes hcells hslots hdg (fun q c1 H1 hK hP1 hD1 hS1 => ?_)
  have e1 : c1 = cA := by
    have h1 := hra c1 (hK.2 ((gT k).length) (c1, newarray.typeOf atype) (by simp)).2
    have h2 := hra cA (C.2.2.2.2.2 t0 (cA, newarray.typeOf atype) ht).2
    exact Option.some.inj (h1.symm.trans h2)
  subst e1
  exact kk q H1 hP1 hD1 hS1
end GA
/-! contracts over a world of fixed addresses -/
def gPre (D : va_G) (k : Nat → ClassId) (Wd : gWt) (v : gV) (f g : gF) (av : List Value) : Array Value → State → Prop := va_Pc av (fun U => gWd D Wd v f g U.heap ∧ va_K D vwCl (gT k) U)
def gPost (D : va_G) (A : Nat → Prop) (Wd : gWt) (post : Option Value → gV → gF → gF → Prop) : Array Value → State → Outcome → State → Prop := fun _ st oc t => (∃ r v f g, oc = .returned r ∧ post r v f g ∧ gWd D Wd v f g t.heap) ∧ va_F A st t
abbrev gRm (fr lo : Nat) : Room := { frames := fr, cells := 0, slots := 0, locals := lo }
def GM (l : Launch) (D : va_G) (k : Nat → ClassId) (A : Nat → Prop) (Wd : gWt) (y : MethodName) (cc : ByteArray) (maxL : Nat) (ret : Option FieldType) (fr lo : Nat) (av : List Value) (v : gV) (f g : gF) (post : Option Value → gV → gF → gF → Prop) : Prop :=
  Met l y (Cond.code y cc maxL ret :: gWs) (gRm fr lo) (gPre D k Wd v f g av) (gPost D A Wd post) 0 0 A
theorem gPre_blind {D : va_G} {k : Nat → ClassId} {Wd : gWt} {v : gV} {f g : gF} {av : List Value} : FrameBlind (gPre D k Wd v f g av) := fun a U gg mk q => by
  obtain ⟨q0, q1, q2⟩ := q
  exact ⟨q0, q1, va_K.moved (u := U) (U := U.calling gg mk a) (Vm.Alike.refl U.vm) q2⟩
section GMs
variable {l : Launch} {D : va_G} {k : Nat → ClassId} {A : Nat → Prop} {Wd : gWt} {y : MethodName} {cc : ByteArray} {maxL : Nat} {ret : Option FieldType} {fr lo : Nat} {av : List Value} {v : gV} {f g : gF} {post : Option Value → gV → gF → gF → Prop}
theorem GM.of (hy : plainName y.cls = true) (hn : (lg_sl av).length ≤ maxL)
    (body : ∀ (p : Program) (e : Env) (s : State) (m : MethodId) (args : Array Value) (below : List Frame) (meth : Method) (c : Code) (Q : State → Prop) (ls : Array Slot), Q = MQ below (gPost D A Wd post) args s 0 0 A → gC D k p s m args c cc y.cls → c.maxLocals = maxL → meth.sig.returnType = ret → meth.locks = false → gWd D Wd v f g s.heap → lv_has ls maxL (lv_args 0 av) →
      W p l e (gRm fr lo) s m args below meth c s.heap [] 0 0 Q (F0 m 0 ls [])) : GM l D k A Wd y cc maxL ret fr lo av v f g post := by
  refine Met.ofW (cc := cc) (maxL := maxL) (ret := ret) hy rfl ?_
  intro p e s m args below meth c s₁ B hml hv
  obtain ⟨rfl, hP, hK⟩ := hv
  have hts := atoms_spec (ws := Cond.code y cc maxL ret :: gWs) B.pre
  have hl := lv_entry av hn
  rw [lg_entry_eq]
  exact body p e s m _ below meth c _ _ rfl ⟨B.exec, B.bytes, fun w h => hts w (List.mem_cons_of_mem _ h), findClass_of_methodNamed B.named, hK⟩ hml B.returns B.notSynchronized hP hl
variable {p : Program} {e : Env} {R : Room} {s : State} {m : MethodId} {args : Array Value} {below : List Frame} {meth : Method} {c : Code} {H H0 : Heap} {locs : List Loc} {cells slots : Nat} {Q : State → Prop}
variable {pc nL n idx : Nat} {ls : Array Slot} {rest st0 As : List Value} {own C1 : String} {A0 : Nat → Prop} {c1 : ByteArray} {b : Nat}
theorem g_call {a : Array Value} (hr : va_Run p l e R s m args below meth c H locs cells slots 0 0 (F0 m pc ls st0) rest (gPost D A Wd post a) A) (hS : va_S A0 H0 H locs) (hA : ∀ q, A q → A0 q)
    (kk : ∀ (r : Option Value) (v : gV) (f g : gF) (H1 : Heap) (locs1 : List Loc), post r v f g → gWd D Wd v f g H1 → (∀ q : Nat, q < H.size → ¬ A q → H1[q]? = H[q]?) → va_S A0 H0 H1 locs1 → W p l e R s m args below meth c H1 locs1 cells slots Q (F0 m (pc + 3) ls (r.toList ++ rest))) : W p l e R s m args below meth c H locs cells slots Q (F0 m pc ls st0) := by
  intro T hT X
  obtain ⟨vv, st₀, t, T', L, h0, X', hL, e1, e2, ⟨⟨r, v, f, g, hv, hp, hb⟩, hz, hk⟩, st⟩ := hr T hT X
  cases hv
  rw [h0] at hz hk
  obtain ⟨t2, a1, b1⟩ := kk _ v f g T'.heap (locs ++ L) hp (by rw [e1]; exact hb) (fun q h1 h2 => by rw [e1]; exact hk q h1 h2)
    ⟨Nat.le_trans hS.1 (by rw [e1]; exact hz), fun q h1 h2 => by rw [e1, hk q (Nat.lt_of_lt_of_le h1 hS.1) (fun z => h2 (hA q z))]; exact hS.2.1 q h1 h2, fun q hq => by
      rcases List.mem_append.mp hq with h | h
      · exact hS.2.2 q h
      · exact hA _ (hL q h)⟩ T' rfl X'
  exact ⟨t2, st t2 a1, b1⟩
theorem gWs_GoodIn (h : Cond.code y cc maxL ret ∈ gWs) : GoodIn gWs (Cond.code y cc maxL ret :: gWs) := fun w hw => by
  rcases List.mem_cons.mp hw with rfl | hw
  · exact ⟨h, gWs_good h⟩
  · exact ⟨hw, gWs_good hw⟩
/-- a call on a cell of the world -/
theorem g_cv (C : gC D k p s m args c c1 own) (hml : c.maxLocals = nL) (hM : GM l D k A Wd y cc maxL ret fr lo (.ref b :: As) v f g post) (m1 : Cond.methodLink own idx y ∈ gWs) (m2 : Cond.instanceMethod y ∈ gWs) (m3 : Cond.selects C1 y y ∈ gWs) (m4 : Cond.initialized C1 ∈ gWs) (m5 : Cond.code y cc maxL ret ∈ gWs)
    (hd : y.cls = C1 ∧ y.cls ≠ "java/lang/invoke/MethodHandle" ∧ y.cls ≠ "java/lang/invoke/VarHandle" ∧ (parseMethodDescriptor y.desc).map (fun d => d.parameters.length) = some n) (q0 : Nat) {ci : Nat} {T : u_T} {N : Nat} {fs : List Value} (hc : vwCl[ci]? = some (C1, T, N)) (he : (Wd.1 v f g)[q0]? = some (b, .inr (ci, fs)))
    (hP : gWd D Wd v f g H) (hS : va_S A0 H0 H locs) (hA : ∀ q, A q → A0 q) (hR : fr + 1 ≤ R.frames ∧ 8 + (maxL + 11) + lo ≤ R.locals) (hcs : cells ≤ R.cells ∧ slots ≤ R.slots) (hsz : ls.size = nL) (hn : As.length = n) (hst : st0 = As.reverse ++ .ref b :: rest) (hW : (rest.map fun v => v.category).sum ≤ 8) (hdg : decode c1 pc = .ok (.invokevirtual idx, 3))
    (kk : ∀ (r : Option Value) (v : gV) (f g : gF) (H1 : Heap) (locs1 : List Loc), post r v f g → gWd D Wd v f g H1 → (∀ q : Nat, q < H.size → ¬ A q → H1[q]? = H[q]?) → va_S A0 H0 H1 locs1 → W p l e R s m args below meth c H1 locs1 cells slots Q (F0 m (pc + 3) ls (r.toList ++ rest))) : W p l e R s m args below meth c H locs cells slots Q (F0 m pc ls st0) := by
  refine g_call (va_runV (As := As) (rest := rest) (n := n) ⟨C.1, C.2.1, hml, C.2.2.2.1, C.2.2.1⟩ hM (cwV n C.2.2.1 ?_ rfl rfl rfl hd hR) ⟨gPre_blind, va_recv C.2.2.2.2 hP.1 hc he, fun U hU hW => ⟨rfl, by rw [hU]; exact hP, va_K.moved hW.alike C.2.2.2.2⟩⟩ rfl hn hsz hst (lv_room hW) hdg hcs) hS hA kk
  intro w hw
  unfold wsV at hw
  rcases List.mem_append.mp hw with h | h
  · have hg : w ∈ gWs := by
      simp only [List.mem_cons, List.not_mem_nil, or_false] at h
      rcases h with rfl | rfl | rfl | rfl <;> assumption
    exact ⟨hg, gWs_good hg⟩
  · exact gWs_GoodIn m5 w h
/-- a call without a receiver -/
theorem g_cs (C : gC D k p s m args c c1 own) (hml : c.maxLocals = nL) (hM : GM l D k A Wd y cc maxL ret fr lo As v f g post) (m1 : Cond.methodLink own idx y ∈ gWs) (m2 : Cond.static y ∈ gWs) (m4 : Cond.initialized y.cls ∈ gWs) (m5 : Cond.code y cc maxL ret ∈ gWs)
    (hd : y.cls ≠ "java/lang/invoke/MethodHandle" ∧ y.cls ≠ "java/lang/invoke/VarHandle" ∧ (parseMethodDescriptor y.desc).map (fun d => d.parameters.length) = some n)
    (hP : gWd D Wd v f g H) (hS : va_S A0 H0 H locs) (hA : ∀ q, A q → A0 q) (hR : fr + 1 ≤ R.frames ∧ 8 + (maxL + 11) + lo ≤ R.locals) (hcs : cells ≤ R.cells ∧ slots ≤ R.slots) (hsz : ls.size = nL) (hn : As.length = n) (hst : st0 = As.reverse ++ rest) (hW : (rest.map fun v => v.category).sum ≤ 8) (hdg : decode c1 pc = .ok (.invokestatic idx, 3))
    (kk : ∀ (r : Option Value) (v : gV) (f g : gF) (H1 : Heap) (locs1 : List Loc), post r v f g → gWd D Wd v f g H1 → (∀ q : Nat, q < H.size → ¬ A q → H1[q]? = H[q]?) → va_S A0 H0 H1 locs1 → W p l e R s m args below meth c H1 locs1 cells slots Q (F0 m (pc + 3) ls (r.toList ++ rest))) : W p l e R s m args below meth c H locs cells slots Q (F0 m pc ls st0) := by
  refine g_call (va_runS (As := As) (rest := rest) (n := n) ⟨C.1, C.2.1, hml, C.2.2.2.1, C.2.2.1⟩ hM ⟨callB_of n C.2.2.1 (gWs_GoodIn m5) rfl rfl rfl (C.2.2.1 _ m4) (C.2.2.1 _ m1) hd hR, C.2.2.1 _ m2⟩ ⟨gPre_blind, fun U hU hW => ⟨rfl, by rw [hU]; exact hP, va_K.moved hW.alike C.2.2.2.2⟩⟩ rfl hn hsz hst (lv_room hW) hdg hcs) hS hA kk
/-- the ends -/
theorem g_iret (hQ : Q = MQ below (gPost D A Wd post) args s 0 0 A) (C : gC D k p s m args c cc own) {v1 : gV} {f1 g1 : gF} {z : Int} (hr : meth.sig.returnType = some .int) (hlocks : meth.locks = false) (hP : gWd D Wd v1 f1 g1 H) (hS : va_S A s.heap H locs) (hdg : decode cc pc = .ok (.ireturn, 1)) (hq : post (some (.int (iI z))) v1 f1 g1) : W p l e R s m args below meth c H locs 0 0 Q (F0 m pc ls [.int (iI z)]) := by
  subst hQ
  exact W.iret C.1 C.2.1 hr (fun t ht _ => ⟨⟨_, v1, f1, g1, rfl, hq, by rw [ht]; exact hP⟩, hS.F ht⟩) hS.2.2 hdg hlocks
theorem g_zret (hQ : Q = MQ below (gPost D A Wd post) args s 0 0 A) (C : gC D k p s m args c cc own) {v1 : gV} {f1 g1 : gF} {z : Int} (hr : meth.sig.returnType = some .boolean) (hlocks : meth.locks = false) (hz : z = 0 ∨ z = 1) (hP : gWd D Wd v1 f1 g1 H) (hS : va_S A s.heap H locs) (hdg : decode cc pc = .ok (.ireturn, 1)) (hq : post (some (.int (iI z))) v1 f1 g1) : W p l e R s m args below meth c H locs 0 0 Q (F0 m pc ls [.int (iI z)]) := by
  subst hQ
  exact W.zret C.1 C.2.1 hr (by rcases hz with rfl | rfl <;> rfl) (fun t ht _ => ⟨⟨_, v1, f1, g1, rfl, hq, by rw [ht]; exact hP⟩, hS.F ht⟩) hS.2.2 hdg hlocks
theorem g_vret (hQ : Q = MQ below (gPost D A Wd post) args s 0 0 A) (C : gC D k p s m args c cc own) {v1 : gV} {f1 g1 : gF} (hr : meth.sig.returnType = none) (hlocks : meth.locks = false) (hP : gWd D Wd v1 f1 g1 H) (hS : va_S A s.heap H locs) (hdg : decode cc pc = .ok (.return_, 1)) (hq : post none v1 f1 g1) : W p l e R s m args below meth c H locs 0 0 Q (F0 m pc ls []) := by
  subst hQ
  exact W.vret C.1 C.2.1 hr (fun t ht _ => ⟨⟨_, v1, f1, g1, rfl, hq, by rw [ht]; exact hP⟩, hS.F ht⟩) hS.2.2 hdg hlocks
theorem g_lret (hQ : Q = MQ below (gPost D A Wd post) args s 0 0 A) (C : gC D k p s m args c cc own) {v1 : gV} {f1 g1 : gF} {z : Int} (hr : meth.sig.returnType = some .long) (hlocks : meth.locks = false) (hP : gWd D Wd v1 f1 g1 H) (hS : va_S A s.heap H locs) (hdg : decode cc pc = .ok (.lreturn, 1)) (hq : post (some (.long (iL z))) v1 f1 g1) : W p l e R s m args below meth c H locs 0 0 Q (F0 m pc ls [.long (iL z)]) := by
  subst hQ
  exact W.lret C.1 C.2.1 hr (fun t ht _ => ⟨⟨_, v1, f1, g1, rfl, hq, by rw [ht]; exact hP⟩, hS.F ht⟩) hS.2.2 hdg hlocks
theorem gi_i2l (hx : p.tables.exec = Jvm.exec) (hb : c.code = cc) {a : Int} (ha : inR a) (hdg : decode cc pc = .ok (.i2l, 1)) (kk : W p l e R s m args below meth c H locs cells slots Q (F0 m (pc + 1) ls (.long (iL a) :: rest))) : W p l e R s m args below meth c H locs cells slots Q (F0 m pc ls (.int (iI a) :: rest)) := by
  refine lv_i2l hx hb hdg ?_ kk
  exact Int32.toInt64_ofInt (Int.le_trans (by decide) ha.1) (Int.le_trans ha.2 (by decide))
end GMs
theorem gif {P : Prop} [Decidable P] {z : Int} (h : z = if P then 1 else 0) : (z = 1 ∧ P) ∨ (z = 0 ∧ ¬ P) := by
  by_cases hp : P
  · exact Or.inl ⟨by rw [h, if_pos hp], hp⟩
  · exact Or.inr ⟨by rw [h, if_neg hp], hp⟩
theorem gB8 {a z : Int} (h : (iI a).toInt8.toInt32 = iI z) : (iI z).toInt8.toInt32 = iI z := by
  rw [← h]
  simp
