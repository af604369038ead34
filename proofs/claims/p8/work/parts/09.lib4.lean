/-! constructors: what a new object is -/
def gNest (U : State) : Prop := va_Nw (.methodLinkNest RX10 15 yX4_init RX10) U ∧ va_Nw (.methodLinkNest RX10 22 yX3_init RX10) U ∧ va_Nw (.methodLinkNest RX3 11 yX6_init RX10) U ∧ va_Nw (.methodLinkNest RX3 20 yX4_init RX10) U ∧ va_Nw (.methodLinkNest RX3 27 yX1_init RX10) U ∧ va_Nw (.methodLinkNest RX10 29 yX8_init RX10) U ∧ va_Nw (.methodLinkNest RX10 36 yX2_init RX10) U ∧ va_Nw (.methodLinkNest RX10 43 yX7_init RX10) U ∧ va_Nw (.methodLinkNest RX10 50 yX0_init RX10) U ∧ va_Nw (.methodLinkNest RX10 57 yX9_init RX10) U
theorem gNest.same {u U : State} (h : u.vm = U.vm) (q : gNest u) : gNest U := ⟨(q.1).same rfl h, (q.2.1).same rfl h, (q.2.2.1).same rfl h, (q.2.2.2.1).same rfl h, (q.2.2.2.2.1).same rfl h, (q.2.2.2.2.2.1).same rfl h, (q.2.2.2.2.2.2.1).same rfl h, (q.2.2.2.2.2.2.2.1).same rfl h, (q.2.2.2.2.2.2.2.2.1).same rfl h, (q.2.2.2.2.2.2.2.2.2).same rfl h⟩
theorem gNest.warm {s U : State} (hW : s.WarmedH U.vm) (q : gNest s) : gNest U := ⟨va_Nw.warmM hW (q.1), va_Nw.warmM hW (q.2.1), va_Nw.warmM hW (q.2.2.1), va_Nw.warmM hW (q.2.2.2.1), va_Nw.warmM hW (q.2.2.2.2.1), va_Nw.warmM hW (q.2.2.2.2.2.1), va_Nw.warmM hW (q.2.2.2.2.2.2.1), va_Nw.warmM hW (q.2.2.2.2.2.2.2.1), va_Nw.warmM hW (q.2.2.2.2.2.2.2.2.1), va_Nw.warmM hW (q.2.2.2.2.2.2.2.2.2)⟩
theorem gN_X10_15 {U : State} (q : gNest U) : va_Nw (.methodLinkNest RX10 15 yX4_init RX10) U := q.1
theorem gN_X10_22 {U : State} (q : gNest U) : va_Nw (.methodLinkNest RX10 22 yX3_init RX10) U := q.2.1
theorem gN_X3_11 {U : State} (q : gNest U) : va_Nw (.methodLinkNest RX3 11 yX6_init RX10) U := q.2.2.1
theorem gN_X3_20 {U : State} (q : gNest U) : va_Nw (.methodLinkNest RX3 20 yX4_init RX10) U := q.2.2.2.1
theorem gN_X3_27 {U : State} (q : gNest U) : va_Nw (.methodLinkNest RX3 27 yX1_init RX10) U := q.2.2.2.2.1
theorem gN_X10_29 {U : State} (q : gNest U) : va_Nw (.methodLinkNest RX10 29 yX8_init RX10) U := q.2.2.2.2.2.1
theorem gN_X10_36 {U : State} (q : gNest U) : va_Nw (.methodLinkNest RX10 36 yX2_init RX10) U := q.2.2.2.2.2.2.1
theorem gN_X10_43 {U : State} (q : gNest U) : va_Nw (.methodLinkNest RX10 43 yX7_init RX10) U := q.2.2.2.2.2.2.2.1
theorem gN_X10_50 {U : State} (q : gNest U) : va_Nw (.methodLinkNest RX10 50 yX0_init RX10) U := q.2.2.2.2.2.2.2.2.1
theorem gN_X10_57 {U : State} (q : gNest U) : va_Nw (.methodLinkNest RX10 57 yX9_init RX10) U := q.2.2.2.2.2.2.2.2.2
def gIPre (D : va_G) (k : Nat → ClassId) (w0 : va_W) (sz : Nat) (av : List Value) : Array Value → State → Prop := va_Pc av (fun U => U.heap.size = sz ∧ va_P D vwCl w0 U.heap ∧ va_K D vwCl (gT k) U ∧ va_D (fun _ => True) w0 ∧ gNest U)
theorem gIPre_blind {D : va_G} {k : Nat → ClassId} {w0 : va_W} {sz : Nat} {av : List Value} : FrameBlind (gIPre D k w0 sz av) := fun a U gg mk q => by
  obtain ⟨q0, q1, q2, q3, q4, q5⟩ := q
  exact ⟨q0, q1, q2, va_K.moved (u := U) (U := U.calling gg mk a) (Vm.Alike.refl U.vm) q3, q4, gNest.same rfl q5⟩
def gIPost (D : va_G) (w0 : va_W) (sz : Nat) (Wn : (Nat → Nat) → va_W) : Array Value → State → Outcome → State → Prop := fun _ st oc t => (∃ u : Nat → Nat, oc = .returned none ∧ va_P D vwCl (Wn u) t.heap ∧ va_D (va_A w0 sz) (Wn u)) ∧ va_F (va_A w0 sz) st t
abbrev gRi (fr lo mc ms : Nat) : Room := { frames := fr, cells := mc, slots := ms, locals := lo }
def GI (l : Launch) (D : va_G) (k : Nat → ClassId) (y : MethodName) (cc : ByteArray) (maxL fr lo mc ms : Nat) (av : List Value) (w0 : va_W) (sz : Nat) (Wn : (Nat → Nat) → va_W) : Prop :=
  Met l y (Cond.code y cc maxL none :: gWs) (gRi fr lo mc ms) (gIPre D k w0 sz av) (gIPost D w0 sz Wn) mc ms (va_A w0 sz)
section GIs
variable {l : Launch} {D : va_G} {k : Nat → ClassId} {y : MethodName} {cc : ByteArray} {maxL fr lo mc ms sz : Nat} {av : List Value} {w0 : va_W} {Wn : (Nat → Nat) → va_W}
theorem GI.of (hy : plainName y.cls = true) (hn : (lg_sl av).length ≤ maxL) (hy2 : y.name = "<init>")
    (body : ∀ (p : Program) (e : Env) (s : State) (m : MethodId) (args : Array Value) (below : List Frame) (meth : Method) (c : Code) (Q : State → Prop) (ls : Array Slot) (A : Nat → Prop), A = va_A w0 sz → Q = MQ below (gIPost D w0 sz Wn) args s mc ms A → gC D k p s m args c cc y.cls → c.maxLocals = maxL → meth.sig.returnType = none → meth.locks = false → meth.name = "<init>" → gNest s → va_P D vwCl w0 s.heap → va_D A w0 → (∀ q : Nat, s.heap.size ≤ q → A q) → lv_has ls maxL (lv_args 0 av) →
      W p l e (gRi fr lo mc ms) s m args below meth c s.heap [] 0 0 Q (F0 m 0 ls [])) : GI l D k y cc maxL fr lo mc ms av w0 sz Wn := by
  refine Met.ofW (cc := cc) (maxL := maxL) (ret := none) hy rfl ?_
  intro p e s m args below meth c s₁ B hml hv
  obtain ⟨rfl, hsz, hP, hK, hD, hN⟩ := hv
  have hts := atoms_spec (ws := Cond.code y cc maxL none :: gWs) B.pre
  have hl := lv_entry av hn
  rw [lg_entry_eq]
  exact body p e s m _ below meth c _ _ _ rfl rfl ⟨B.exec, B.bytes, fun w h => hts w (List.mem_cons_of_mem _ h), findClass_of_methodNamed B.named, hK⟩ hml B.returns B.notSynchronized ((name_of_methodNamed B.named B.method).1.trans hy2) hN hP hD.self (fun q h => Or.inr (by rw [← hsz]; exact h)) hl
variable {p : Program} {e : Env} {R : Room} {s : State} {m : MethodId} {args : Array Value} {below : List Frame} {meth : Method} {c : Code} {H H0 : Heap} {locs : List Loc} {cells slots : Nat} {Q : State → Prop}
variable {pc nL n idx : Nat} {ls : Array Slot} {rest st0 As : List Value} {own host : String} {A : Nat → Prop} {c1 : ByteArray} {b : Nat} {e0 : va_E} {ws wr : va_W}
theorem g_iend {u : Nat → Nat} (hA : A = va_A w0 sz) (hQ : Q = MQ below (gIPost D w0 sz Wn) args s mc ms A) (C : gC D k p s m args c cc own) (hr : meth.sig.returnType = none) (hlocks : meth.locks = false) (hP : va_P D vwCl (Wn u) H) (hD : va_D A (Wn u)) (hS : va_S A s.heap H locs) (hdg : decode cc pc = .ok (.return_, 1)) : W p l e R s m args below meth c H locs mc ms Q (F0 m pc ls []) := by
  subst hQ; subst hA
  exact W.vret C.1 C.2.1 hr (fun t ht _ => ⟨⟨u, rfl, by rw [ht]; exact hP, hD⟩, hS.F ht⟩) hS.2.2 hdg hlocks
theorem g_cret {a : Array Value} (hr : va_Run p l e R s m args below meth c H locs cells slots mc ms (F0 m pc ls st0) rest (gIPost D [(b, e0)] H.size Wn a) (va_A [(b, e0)] H.size)) (hP : va_P D vwCl ws H) (hD : va_D A ws) (hS : va_S A H0 H locs) (hA : ∀ q : Nat, H0.size ≤ q → A q) (q0 : Nat) (isR : List Nat) (hC : [q0].map (fun i => ws[i]?) = [(b, e0)].map some) (hR : isR.map (fun i => ws[i]?) = wr.map some) (hn1 : va_nd isR = true) (hdis : ∀ i ∈ isR, i ∉ [q0])
    (kk : ∀ (u : Nat → Nat) (H1 : Heap) (locs1 : List Loc), va_P D vwCl (wr ++ Wn u) H1 → va_D A (wr ++ Wn u) → va_S A H0 H1 locs1 → W p l e R s m args below meth c H1 locs1 (cells + mc) (slots + ms) Q (F0 m (pc + 3) ls rest)) : W p l e R s m args below meth c H locs cells slots Q (F0 m pc ls st0) := by
  have hF := va_free (wc := [(b, e0)]) hD hS hA [q0] hC
  refine va_callv (post := fun _ : Nat → Nat => True) (B := fun u t => va_P D vwCl (Wn u) t.heap ∧ va_D (va_A [(b, e0)] H.size) (Wn u)) (A1 := va_A [(b, e0)] H.size) (mc := mc) (ms := ms) (a := a) (rest := rest) ?_ hS (fun q _ h => hF q h) hF (fun u t H1 locs1 ht _ _ hB _ hk1 hS1 => ?_)
  · intro T hT X
    obtain ⟨v, st₀, t, T', L, h0, X', hL, e1, e2, ⟨⟨u, hv, hp, hb⟩, hf⟩, st⟩ := hr T hT X
    exact ⟨v, st₀, t, T', L, h0, X', hL, e1, e2, ⟨⟨u, hv, trivial, hp, hb⟩, hf⟩, st⟩
  · obtain ⟨hP1, hD1⟩ := hB
    rw [ht] at hP1
    obtain ⟨hP2, hD2⟩ := va_join (wr := wr) (w1 := Wn u) hP hD [q0] isR hC hR hn1 hdis hk1 hF hP1 hD1
    exact kk u H1 locs1 hP2 hD2 hS1
/-- a constructor of a nest mate -/
theorem g_cin (C : gC D k p s m args c c1 own) (hml : c.maxLocals = nL) (hM : ∀ sz, GI l D k y cc maxL fr lo mc ms [.ref b] [(b, e0)] sz Wn) (hl : va_Nw (.methodLinkNest own idx y host) s) (m2 : Cond.instanceMethod y ∈ gWs) (m4 : Cond.initialized y.cls ∈ gWs) (m5 : Cond.code y cc maxL none ∈ gWs)
    (hd : y.cls ≠ "java/lang/invoke/MethodHandle" ∧ y.cls ≠ "java/lang/invoke/VarHandle" ∧ (parseMethodDescriptor y.desc).map (fun d => d.parameters.length) = some 0) (hy : y.name = "<init>") (hN : gNest s)
    (hP : va_P D vwCl ws H) (hD : va_D A ws) (hS : va_S A H0 H locs) (hA : ∀ q : Nat, H0.size ≤ q → A q) (q0 : Nat) (isR : List Nat) (hC : [q0].map (fun i => ws[i]?) = [(b, e0)].map some) (hR : isR.map (fun i => ws[i]?) = wr.map some) (hn1 : va_nd isR = true) (hdis : ∀ i ∈ isR, i ∉ [q0])
    (hRm : fr + 1 ≤ R.frames ∧ 8 + (maxL + 11) + lo ≤ R.locals) (hcs : cells + mc ≤ R.cells ∧ slots + ms ≤ R.slots) (hsz : ls.size = nL) (hW : (rest.map fun v => v.category).sum ≤ 8) (hdg : decode c1 pc = .ok (.invokespecial idx, 3))
    (kk : ∀ (u : Nat → Nat) (H1 : Heap) (locs1 : List Loc), va_P D vwCl (wr ++ Wn u) H1 → va_D A (wr ++ Wn u) → va_S A H0 H1 locs1 → W p l e R s m args below meth c H1 locs1 (cells + mc) (slots + ms) Q (F0 m (pc + 3) ls rest)) : W p l e R s m args below meth c H locs cells slots Q (F0 m pc ls (.ref b :: rest)) := by
  have hPc : va_P D vwCl [(b, e0)] H := fun i q hq => by
    match i, hq with
    | 0, hq =>
      cases hq
      have := congrArg (fun l => l[0]?) hC
      simp at this
      exact hP q0 _ this
    | i + 1, hq => simp at hq
  have hDc : va_D (fun _ => True) [(b, e0)] := ⟨fun i j x y hi hj _ => by
    match i, j, hi, hj with
    | 0, 0, _, _ => rfl
    | i + 1, _, hi, _ => simp at hi
    | _, j + 1, _, hj => simp at hj, fun _ _ _ => trivial⟩
  refine g_cret (va_runIN (As := []) (rest := rest) (n := 0) ⟨C.1, C.2.1, hml, C.2.2.2.1, C.2.2.1⟩ (hM H.size) ⟨va_cnB 0 C.2.2.1 (gWs_GoodIn m5) rfl rfl rfl hl (C.2.2.1 _ m4) hd hRm, hy, C.2.2.1 _ m2⟩ ⟨gIPre_blind, fun U hU hW => ⟨rfl, by rw [hU], by rw [hU]; exact hPc, va_K.moved hW.alike C.2.2.2.2, hDc, gNest.warm hW hN⟩⟩ rfl rfl hsz rfl (lv_room hW) hdg hcs) hP hD hS hA q0 isR hC hR hn1 hdis kk
/-- any other constructor -/
theorem g_cio (C : gC D k p s m args c c1 own) (hml : c.maxLocals = nL) (hM : ∀ sz, GI l D k y cc maxL fr lo mc ms (.ref b :: As) [(b, e0)] sz Wn) (m1 : Cond.methodLink own idx y ∈ gWs) (m2 : Cond.instanceMethod y ∈ gWs) (m4 : Cond.initialized y.cls ∈ gWs) (m5 : Cond.code y cc maxL none ∈ gWs)
    (hd : y.cls ≠ "java/lang/invoke/MethodHandle" ∧ y.cls ≠ "java/lang/invoke/VarHandle" ∧ (parseMethodDescriptor y.desc).map (fun d => d.parameters.length) = some n) (hy : y.name = "<init>") (hN : gNest s)
    (hP : va_P D vwCl ws H) (hD : va_D A ws) (hS : va_S A H0 H locs) (hA : ∀ q : Nat, H0.size ≤ q → A q) (q0 : Nat) (isR : List Nat) (hC : [q0].map (fun i => ws[i]?) = [(b, e0)].map some) (hR : isR.map (fun i => ws[i]?) = wr.map some) (hn1 : va_nd isR = true) (hdis : ∀ i ∈ isR, i ∉ [q0])
    (hRm : fr + 1 ≤ R.frames ∧ 8 + (maxL + 11) + lo ≤ R.locals) (hcs : cells + mc ≤ R.cells ∧ slots + ms ≤ R.slots) (hsz : ls.size = nL) (hn : As.length = n) (hst : st0 = As.reverse ++ .ref b :: rest) (hW : (rest.map fun v => v.category).sum ≤ 8) (hdg : decode c1 pc = .ok (.invokespecial idx, 3))
    (kk : ∀ (u : Nat → Nat) (H1 : Heap) (locs1 : List Loc), va_P D vwCl (wr ++ Wn u) H1 → va_D A (wr ++ Wn u) → va_S A H0 H1 locs1 → W p l e R s m args below meth c H1 locs1 (cells + mc) (slots + ms) Q (F0 m (pc + 3) ls rest)) : W p l e R s m args below meth c H locs cells slots Q (F0 m pc ls st0) := by
  have hPc : va_P D vwCl [(b, e0)] H := fun i q hq => by
    match i, hq with
    | 0, hq =>
      cases hq
      have := congrArg (fun l => l[0]?) hC
      simp at this
      exact hP q0 _ this
    | i + 1, hq => simp at hq
  have hDc : va_D (fun _ => True) [(b, e0)] := ⟨fun i j x y hi hj _ => by
    match i, j, hi, hj with
    | 0, 0, _, _ => rfl
    | i + 1, _, hi, _ => simp at hi
    | _, j + 1, _, hj => simp at hj, fun _ _ _ => trivial⟩
  refine g_cret (va_runI (As := As) (rest := rest) (n := n) ⟨C.1, C.2.1, hml, C.2.2.2.1, C.2.2.1⟩ (hM H.size) (cwI n C.2.2.1 (gWs_GoodIn m5) rfl rfl rfl (C.2.2.1 _ m4) (C.2.2.1 _ m1) (C.2.2.1 _ m2) hy hd hRm) ⟨gIPre_blind, fun U hU hW => ⟨rfl, by rw [hU], by rw [hU]; exact hPc, va_K.moved hW.alike C.2.2.2.2, hDc, gNest.warm hW hN⟩⟩ rfl hn hsz hst (lv_room hW) hdg hcs) hP hD hS hA q0 isR hC hR hn1 hdis kk
end GIs
theorem va_D_fst {A : Nat → Prop} {ws ws' : va_W} (h : ws.map (fun q => q.1) = ws'.map (fun q => q.1)) (hD : va_D A ws) : va_D A ws' := by
  have key : ∀ (i : Nat) (q : Nat × va_E), ws'[i]? = some q → ∃ q0, ws[i]? = some q0 ∧ q0.1 = q.1 := by
    intro i q hq
    have h1 := congrArg (fun l => l[i]?) h
    simp only [List.getElem?_map, hq] at h1
    cases hw : ws[i]? with
    | none => rw [hw] at h1; cases h1
    | some q0 => rw [hw] at h1; exact ⟨q0, rfl, Option.some.inj h1⟩
  refine ⟨fun i j x y hi hj hxy => ?_, fun i q hq => ?_⟩
  · obtain ⟨x0, h1, h2⟩ := key i x hi
    obtain ⟨y0, h3, h4⟩ := key j y hj
    exact hD.1 i j x0 y0 h1 h3 (h2.trans (hxy.trans h4.symm))
  · obtain ⟨q0, h1, h2⟩ := key i q hq
    rw [← h2]
    exact hD.2 i q0 h1
