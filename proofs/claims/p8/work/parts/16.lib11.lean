theorem dJ0_length_8abf5_0 : decode cJ0_length_8abf5 0 = .ok (.aload_n 0, 1) := by decide +kernel
theorem dJ0_length_8abf5_1 : decode cJ0_length_8abf5 1 = .ok (.getfield 9, 3) := by decide +kernel
theorem dJ0_length_8abf5_4 : decode cJ0_length_8abf5 4 = .ok (.arraylength, 1) := by decide +kernel
theorem dJ0_length_8abf5_5 : decode cJ0_length_8abf5 5 = .ok (.aload_n 0, 1) := by decide +kernel
theorem dJ0_length_8abf5_6 : decode cJ0_length_8abf5 6 = .ok (.invokevirtual 335, 3) := by decide +kernel
theorem dJ0_length_8abf5_9 : decode cJ0_length_8abf5 9 = .ok (.ishr, 1) := by decide +kernel
theorem dJ0_length_8abf5_10 : decode cJ0_length_8abf5 10 = .ok (.ireturn, 1) := by decide +kernel
theorem dJ0_charAt_5068e_0 : decode cJ0_charAt_5068e 0 = .ok (.aload_n 0, 1) := by decide +kernel
theorem dJ0_charAt_5068e_1 : decode cJ0_charAt_5068e 1 = .ok (.invokevirtual 492, 3) := by decide +kernel
theorem dJ0_charAt_5068e_4 : decode cJ0_charAt_5068e 4 = .ok (.ifCond .eq 12, 3) := by decide +kernel
theorem dJ0_charAt_5068e_7 : decode cJ0_charAt_5068e 7 = .ok (.aload_n 0, 1) := by decide +kernel
theorem dJ0_charAt_5068e_8 : decode cJ0_charAt_5068e 8 = .ok (.getfield 9, 3) := by decide +kernel
theorem dJ0_charAt_5068e_11 : decode cJ0_charAt_5068e 11 = .ok (.iload_n 1, 1) := by decide +kernel
theorem dJ0_charAt_5068e_12 : decode cJ0_charAt_5068e 12 = .ok (.invokestatic 495, 3) := by decide +kernel
theorem dJ0_charAt_5068e_15 : decode cJ0_charAt_5068e 15 = .ok (.ireturn, 1) := by decide +kernel
theorem dJ0_charAt_5068e_16 : decode cJ0_charAt_5068e 16 = .ok (.aload_n 0, 1) := by decide +kernel
theorem dJ0_charAt_5068e_17 : decode cJ0_charAt_5068e 17 = .ok (.getfield 9, 3) := by decide +kernel
theorem dJ0_charAt_5068e_20 : decode cJ0_charAt_5068e 20 = .ok (.iload_n 1, 1) := by decide +kernel
theorem dJ0_charAt_5068e_21 : decode cJ0_charAt_5068e 21 = .ok (.invokestatic 498, 3) := by decide +kernel
theorem dJ0_charAt_5068e_24 : decode cJ0_charAt_5068e 24 = .ok (.ireturn, 1) := by decide +kernel
theorem dJ0_coder_7d493_0 : decode cJ0_coder_7d493 0 = .ok (.getstatic 38, 3) := by decide +kernel
theorem dJ0_coder_7d493_3 : decode cJ0_coder_7d493 3 = .ok (.ifCond .eq 10, 3) := by decide +kernel
theorem dJ0_coder_7d493_6 : decode cJ0_coder_7d493 6 = .ok (.aload_n 0, 1) := by decide +kernel
theorem dJ0_coder_7d493_7 : decode cJ0_coder_7d493 7 = .ok (.getfield 15, 3) := by decide +kernel
theorem dJ0_coder_7d493_10 : decode cJ0_coder_7d493 10 = .ok (.goto 4, 3) := by decide +kernel
theorem dJ0_coder_7d493_13 : decode cJ0_coder_7d493 13 = .ok (.iconst 1, 1) := by decide +kernel
theorem dJ0_coder_7d493_14 : decode cJ0_coder_7d493 14 = .ok (.ireturn, 1) := by decide +kernel
theorem dJ0_isLatin1_aae02_0 : decode cJ0_isLatin1_aae02 0 = .ok (.getstatic 38, 3) := by decide +kernel
theorem dJ0_isLatin1_aae02_3 : decode cJ0_isLatin1_aae02 3 = .ok (.ifCond .eq 14, 3) := by decide +kernel
theorem dJ0_isLatin1_aae02_6 : decode cJ0_isLatin1_aae02 6 = .ok (.aload_n 0, 1) := by decide +kernel
theorem dJ0_isLatin1_aae02_7 : decode cJ0_isLatin1_aae02 7 = .ok (.getfield 15, 3) := by decide +kernel
theorem dJ0_isLatin1_aae02_10 : decode cJ0_isLatin1_aae02 10 = .ok (.ifCond .ne 7, 3) := by decide +kernel
theorem dJ0_isLatin1_aae02_13 : decode cJ0_isLatin1_aae02 13 = .ok (.iconst 1, 1) := by decide +kernel
theorem dJ0_isLatin1_aae02_14 : decode cJ0_isLatin1_aae02 14 = .ok (.goto 4, 3) := by decide +kernel
theorem dJ0_isLatin1_aae02_17 : decode cJ0_isLatin1_aae02 17 = .ok (.iconst 0, 1) := by decide +kernel
theorem dJ0_isLatin1_aae02_18 : decode cJ0_isLatin1_aae02 18 = .ok (.ireturn, 1) := by decide +kernel
theorem dJ0_checkIndex_df160_0 : decode cJ0_checkIndex_df160 0 = .ok (.iload_n 0, 1) := by decide +kernel
theorem dJ0_checkIndex_df160_1 : decode cJ0_checkIndex_df160 1 = .ok (.iload_n 1, 1) := by decide +kernel
theorem dJ0_checkIndex_df160_2 : decode cJ0_checkIndex_df160 2 = .ok (.getstatic 1053, 3) := by decide +kernel
theorem dJ0_checkIndex_df160_5 : decode cJ0_checkIndex_df160 5 = .ok (.invokestatic 1059, 3) := by decide +kernel
theorem dJ0_checkIndex_df160_8 : decode cJ0_checkIndex_df160 8 = .ok (.pop, 1) := by decide +kernel
theorem dJ0_checkIndex_df160_9 : decode cJ0_checkIndex_df160 9 = .ok (.return_, 1) := by decide +kernel
theorem dJ1_charAt_3b067_0 : decode cJ1_charAt_3b067 0 = .ok (.iload_n 1, 1) := by decide +kernel
theorem dJ1_charAt_3b067_1 : decode cJ1_charAt_3b067 1 = .ok (.aload_n 0, 1) := by decide +kernel
theorem dJ1_charAt_3b067_2 : decode cJ1_charAt_3b067 2 = .ok (.arraylength, 1) := by decide +kernel
theorem dJ1_charAt_3b067_3 : decode cJ1_charAt_3b067 3 = .ok (.invokestatic 9, 3) := by decide +kernel
theorem dJ1_charAt_3b067_6 : decode cJ1_charAt_3b067 6 = .ok (.aload_n 0, 1) := by decide +kernel
theorem dJ1_charAt_3b067_7 : decode cJ1_charAt_3b067 7 = .ok (.iload_n 1, 1) := by decide +kernel
theorem dJ1_charAt_3b067_8 : decode cJ1_charAt_3b067 8 = .ok (.baload, 1) := by decide +kernel
theorem dJ1_charAt_3b067_9 : decode cJ1_charAt_3b067 9 = .ok (.sipush 255, 3) := by decide +kernel
theorem dJ1_charAt_3b067_12 : decode cJ1_charAt_3b067 12 = .ok (.iand, 1) := by decide +kernel
theorem dJ1_charAt_3b067_13 : decode cJ1_charAt_3b067 13 = .ok (.i2c, 1) := by decide +kernel
theorem dJ1_charAt_3b067_14 : decode cJ1_charAt_3b067 14 = .ok (.ireturn, 1) := by decide +kernel
theorem dJ3_checkIndex_8e157_0 : decode cJ3_checkIndex_8e157 0 = .ok (.iload_n 0, 1) := by decide +kernel
theorem dJ3_checkIndex_8e157_1 : decode cJ3_checkIndex_8e157 1 = .ok (.ifCond .lt 8, 3) := by decide +kernel
theorem dJ3_checkIndex_8e157_4 : decode cJ3_checkIndex_8e157 4 = .ok (.iload_n 0, 1) := by decide +kernel
theorem dJ3_checkIndex_8e157_5 : decode cJ3_checkIndex_8e157 5 = .ok (.iload_n 1, 1) := by decide +kernel
theorem dJ3_checkIndex_8e157_6 : decode cJ3_checkIndex_8e157 6 = .ok (.if_icmp .lt 10, 3) := by decide +kernel
theorem dJ3_checkIndex_8e157_9 : decode cJ3_checkIndex_8e157 9 = .ok (.aload_n 2, 1) := by decide +kernel
theorem dJ3_checkIndex_8e157_10 : decode cJ3_checkIndex_8e157 10 = .ok (.iload_n 0, 1) := by decide +kernel
theorem dJ3_checkIndex_8e157_11 : decode cJ3_checkIndex_8e157 11 = .ok (.iload_n 1, 1) := by decide +kernel
theorem dJ3_checkIndex_8e157_12 : decode cJ3_checkIndex_8e157 12 = .ok (.invokestatic 95, 3) := by decide +kernel
theorem dJ3_checkIndex_8e157_15 : decode cJ3_checkIndex_8e157 15 = .ok (.athrow, 1) := by decide +kernel
theorem dJ3_checkIndex_8e157_16 : decode cJ3_checkIndex_8e157 16 = .ok (.iload_n 0, 1) := by decide +kernel
theorem dJ3_checkIndex_8e157_17 : decode cJ3_checkIndex_8e157 17 = .ok (.ireturn, 1) := by decide +kernel
/-! what the class takes of constants: two static rows, one text -/
def gEtx : String := "round points keys ties back shared up down sum most tops zones top zone hold tries seconds flash "
def gEby : List Int32 := [114, 111, 117, 110, 100, 32, 112, 111, 105, 110, 116, 115, 32, 107, 101, 121, 115, 32, 116, 105, 101, 115, 32, 98, 97, 99, 107, 32, 115, 104, 97, 114, 101, 100, 32, 117, 112, 32, 100, 111, 119, 110, 32, 115, 117, 109, 32, 109, 111, 115, 116, 32, 116, 111, 112, 115, 32, 122, 111, 110, 101, 115, 32, 116, 111, 112, 32, 122, 111, 110, 101, 32, 104, 111, 108, 100, 32, 116, 114, 105, 101, 115, 32, 115, 101, 99, 111, 110, 100, 115, 32, 102, 108, 97, 115, 104, 32]
def gElo : Nat → Int := fun j => ([1, 1, 10, 0] : List Int).getD j 0
def gEhi : Nat → Int := fun j => ([5, 9, 999, 999] : List Int).getD j 0
def gEv (z : Nat → Nat) (A : Nat → Prop) (U : State) (H : Heap) : Prop :=
  va_Z "RouteWall" "SHAPE_LEAST" "[I" (.ref (z 0)) A U H ∧ va_T .int (z 0) 4 (fun j => .int (iI (gElo j))) A U H ∧ va_Z "RouteWall" "SHAPE_GREATEST" "[I" (.ref (z 1)) A U H ∧ va_T .int (z 1) 4 (fun j => .int (iI (gEhi j))) A U H ∧ va_Z "java/lang/String" "COMPACT_STRINGS" "Z" (.int (iI 1)) A U H ∧ vk_S 1 [97] [gEby] (fun _ => z 2) (fun _ => z 3) A U H ∧ va_Zq "jdk/internal/util/Preconditions" "SIOOBE_FORMATTER" "Ljava/util/function/BiFunction;" A U H ∧ vk_R "RouteWall$Tokens" 52 gEtx (z 2) U ∧ va_Nw (.fieldLinkNest "RouteWall$LawReader" 106 "RouteWall" "SHAPE_LEAST" "[I" "RouteWall") U ∧ va_Nw (.fieldLinkNest "RouteWall$LawReader" 110 "RouteWall" "SHAPE_GREATEST" "[I" "RouteWall") U
theorem gEv.p0 {z : Nat → Nat} {A : Nat → Prop} {U : State} {H : Heap} (h : gEv z A U H) : va_Z "RouteWall" "SHAPE_LEAST" "[I" (.ref (z 0)) A U H := h.1
theorem gEv.p1 {z : Nat → Nat} {A : Nat → Prop} {U : State} {H : Heap} (h : gEv z A U H) : va_T .int (z 0) 4 (fun j => .int (iI (gElo j))) A U H := h.2.1
theorem gEv.p2 {z : Nat → Nat} {A : Nat → Prop} {U : State} {H : Heap} (h : gEv z A U H) : va_Z "RouteWall" "SHAPE_GREATEST" "[I" (.ref (z 1)) A U H := h.2.2.1
theorem gEv.p3 {z : Nat → Nat} {A : Nat → Prop} {U : State} {H : Heap} (h : gEv z A U H) : va_T .int (z 1) 4 (fun j => .int (iI (gEhi j))) A U H := h.2.2.2.1
theorem gEv.p4 {z : Nat → Nat} {A : Nat → Prop} {U : State} {H : Heap} (h : gEv z A U H) : va_Z "java/lang/String" "COMPACT_STRINGS" "Z" (.int (iI 1)) A U H := h.2.2.2.2.1
theorem gEv.p5 {z : Nat → Nat} {A : Nat → Prop} {U : State} {H : Heap} (h : gEv z A U H) : vk_S 1 [97] [gEby] (fun _ => z 2) (fun _ => z 3) A U H := h.2.2.2.2.2.1
theorem gEv.p6 {z : Nat → Nat} {A : Nat → Prop} {U : State} {H : Heap} (h : gEv z A U H) : va_Zq "jdk/internal/util/Preconditions" "SIOOBE_FORMATTER" "Ljava/util/function/BiFunction;" A U H := h.2.2.2.2.2.2.1
theorem gEv.p7 {z : Nat → Nat} {A : Nat → Prop} {U : State} {H : Heap} (h : gEv z A U H) : vk_R "RouteWall$Tokens" 52 gEtx (z 2) U := h.2.2.2.2.2.2.2.1
theorem gEv.p8 {z : Nat → Nat} {A : Nat → Prop} {U : State} {H : Heap} (h : gEv z A U H) : va_Nw (.fieldLinkNest "RouteWall$LawReader" 106 "RouteWall" "SHAPE_LEAST" "[I" "RouteWall") U := h.2.2.2.2.2.2.2.2.1
theorem gEv.p9 {z : Nat → Nat} {A : Nat → Prop} {U : State} {H : Heap} (h : gEv z A U H) : va_Nw (.fieldLinkNest "RouteWall$LawReader" 110 "RouteWall" "SHAPE_GREATEST" "[I" "RouteWall") U := h.2.2.2.2.2.2.2.2.2
theorem gEv.kept {z : Nat → Nat} {A : Nat → Prop} {U : State} {H H1 : Heap} (h : gEv z A U H) (hq : ∀ a : Nat, a < H.size → ¬ A a → H1[a]? = H[a]?) : gEv z A U H1 :=
  ⟨h.p0.kept hq, h.p1.kept hq, h.p2.kept hq, h.p3.kept hq, h.p4.kept hq, h.p5.kept hq, h.p6.kept hq, h.p7, h.p8, h.p9⟩
theorem gEv.narrow {z : Nat → Nat} {A B : Nat → Prop} {U : State} {H : Heap} (h : gEv z A U H) (hq : ∀ a : Nat, B a → A a) : gEv z B U H :=
  ⟨h.p0.narrow hq, h.p1.narrow hq, h.p2.narrow hq, h.p3.narrow hq, h.p4.narrow hq, h.p5.narrow hq, h.p6.narrow hq, h.p7, h.p8, h.p9⟩
theorem gEv.warm {z : Nat → Nat} {A : Nat → Prop} {s U : State} {H : Heap} (hW : s.WarmedH U.vm) (h : gEv z A s H) : gEv z A U H :=
  ⟨h.p0.moved hW.alike, h.p1.moved hW.alike, h.p2.moved hW.alike, h.p3.moved hW.alike, h.p4.moved hW.alike, h.p5.moved hW.alike, h.p6.moved hW.alike, h.p7.warm hW, va_Nw.warmF hW h.p8, va_Nw.warmF hW h.p9⟩
theorem gEv.same {z : Nat → Nat} {A : Nat → Prop} {s U : State} {H : Heap} (hv : U.vm = s.vm) (h : gEv z A s H) : gEv z A U H := by
  have hW : s.vm.Alike U.vm := by rw [hv]; exact Vm.Alike.refl s.vm
  exact ⟨h.p0.moved hW, h.p1.moved hW, h.p2.moved hW, h.p3.moved hW, h.p4.moved hW, h.p5.moved hW, h.p6.moved hW, h.p7.same hv, h.p8.same rfl hv.symm, h.p9.same rfl hv.symm⟩
def gPreE (D : va_G) (k : Nat → ClassId) (z : Nat → Nat) (A : Nat → Prop) (Wd : gWt) (v : gV) (f g : gF) (av : List Value) : Array Value → State → Prop := va_Pc av (fun U => (gWd D Wd v f g U.heap ∧ va_K D vwCl (gT k) U) ∧ gEv z A U U.heap)
def GE (l : Launch) (D : va_G) (k : Nat → ClassId) (z : Nat → Nat) (A : Nat → Prop) (Wd : gWt) (y : MethodName) (cc : ByteArray) (maxL : Nat) (ret : Option FieldType) (fr lo : Nat) (av : List Value) (v : gV) (f g : gF) (post : Option Value → gV → gF → gF → Prop) : Prop :=
  Met l y (Cond.code y cc maxL ret :: gWs) (gRm fr lo) (gPreE D k z A Wd v f g av) (gPost D A Wd post) 0 0 A
theorem gPreE_blind {D : va_G} {k : Nat → ClassId} {z : Nat → Nat} {A : Nat → Prop} {Wd : gWt} {v : gV} {f g : gF} {av : List Value} : FrameBlind (gPreE D k z A Wd v f g av) := fun a U gg mk q => by
  obtain ⟨q0, ⟨q1, q2⟩, q3⟩ := q
  exact ⟨q0, ⟨q1, va_K.moved (u := U) (U := U.calling gg mk a) (Vm.Alike.refl U.vm) q2⟩, gEv.same (s := U) (U := U.calling gg mk a) rfl q3⟩
section GEs
variable {l : Launch} {D : va_G} {k : Nat → ClassId} {z : Nat → Nat} {A : Nat → Prop} {Wd : gWt} {y : MethodName} {cc : ByteArray} {maxL : Nat} {ret : Option FieldType} {fr lo : Nat} {av : List Value} {v : gV} {f g : gF} {post : Option Value → gV → gF → gF → Prop}
theorem GE.of (hy : plainName y.cls = true) (hn : (lg_sl av).length ≤ maxL)
    (body : ∀ (p : Program) (e : Env) (s : State) (m : MethodId) (args : Array Value) (below : List Frame) (meth : Method) (c : Code) (Q : State → Prop) (ls : Array Slot), Q = MQ below (gPost D A Wd post) args s 0 0 A → gC D k p s m args c cc y.cls → c.maxLocals = maxL → meth.sig.returnType = ret → meth.locks = false → gWd D Wd v f g s.heap → lv_has ls maxL (lv_args 0 av) → gEv z A s s.heap →
      W p l e (gRm fr lo) s m args below meth c s.heap [] 0 0 Q (F0 m 0 ls [])) : GE l D k z A Wd y cc maxL ret fr lo av v f g post := by
  refine Met.ofW (cc := cc) (maxL := maxL) (ret := ret) hy rfl ?_
  intro p e s m args below meth c s₁ B hml hv
  obtain ⟨rfl, ⟨hP, hK⟩, hE⟩ := hv
  have hts := atoms_spec (ws := Cond.code y cc maxL ret :: gWs) B.pre
  have hl := lv_entry av hn
  rw [lg_entry_eq]
  exact body p e s m _ below meth c _ _ rfl ⟨B.exec, B.bytes, fun w h => hts w (List.mem_cons_of_mem _ h), findClass_of_methodNamed B.named, hK⟩ hml B.returns B.notSynchronized hP hl hE
variable {p : Program} {e : Env} {R : Room} {s : State} {m : MethodId} {args : Array Value} {below : List Frame} {meth : Method} {c : Code} {H H0 : Heap} {locs : List Loc} {cells slots : Nat} {Q : State → Prop}
variable {pc nL n idx : Nat} {ls : Array Slot} {rest st0 As : List Value} {own C1 : String} {A0 : Nat → Prop} {c1 : ByteArray} {b : Nat}
/-- a call on any cell of a known class, of a method that takes constants -/
theorem g_cvX (C : gC D k p s m args c c1 own) (hE : gEv z A0 s s.heap) (hml : c.maxLocals = nL) (hM : GE l D k z A Wd y cc maxL ret fr lo (.ref b :: As) v f g post) (m1 : Cond.methodLink own idx y ∈ gWs) (m2 : Cond.instanceMethod y ∈ gWs) (m3 : Cond.selects C1 y y ∈ gWs) (m4 : Cond.initialized C1 ∈ gWs) (m5 : Cond.code y cc maxL ret ∈ gWs)
    (hd : y.cls = C1 ∧ y.cls ≠ "java/lang/invoke/MethodHandle" ∧ y.cls ≠ "java/lang/invoke/VarHandle" ∧ (parseMethodDescriptor y.desc).map (fun d => d.parameters.length) = some n) (hrc : ∃ cell : Cell, H[b]? = some cell ∧ cell.vm.isStatics = false ∧ s.vm.findClass C1 = some cell.cls)
    (hP : gWd D Wd v f g H) (hS : va_S A0 s.heap H locs) (hA : ∀ q, A q → A0 q) (hR : fr + 1 ≤ R.frames ∧ 8 + (maxL + 11) + lo ≤ R.locals) (hcs : cells ≤ R.cells ∧ slots ≤ R.slots) (hsz : ls.size = nL) (hn : As.length = n) (hst : st0 = As.reverse ++ .ref b :: rest) (hW : (rest.map fun v => v.category).sum ≤ 8) (hdg : decode c1 pc = .ok (.invokevirtual idx, 3))
    (kk : ∀ (r : Option Value) (v : gV) (f g : gF) (H1 : Heap) (locs1 : List Loc), post r v f g → gWd D Wd v f g H1 → (∀ q : Nat, q < H.size → ¬ A q → H1[q]? = H[q]?) → va_S A0 s.heap H1 locs1 → W p l e R s m args below meth c H1 locs1 cells slots Q (F0 m (pc + 3) ls (r.toList ++ rest))) : W p l e R s m args below meth c H locs cells slots Q (F0 m pc ls st0) := by
  refine g_call (va_runV (As := As) (rest := rest) (n := n) ⟨C.1, C.2.1, hml, C.2.2.2.1, C.2.2.1⟩ hM (cwV n C.2.2.1 ?_ rfl rfl rfl hd hR) ⟨gPreE_blind, hrc, fun U hU hW => ⟨rfl, ⟨by rw [hU]; exact hP, va_K.moved hW.alike C.2.2.2.2⟩, gEv.warm hW (by rw [hU]; exact (hE.kept hS.2.1).narrow hA)⟩⟩ rfl hn hsz hst (lv_room hW) hdg hcs) hS hA kk
  intro w hw
  unfold wsV at hw
  rcases List.mem_append.mp hw with h | h
  · have hg : w ∈ gWs := by
      simp only [List.mem_cons, List.not_mem_nil, or_false] at h
      rcases h with rfl | rfl | rfl | rfl <;> assumption
    exact ⟨hg, gWs_good hg⟩
  · exact gWs_GoodIn m5 w h
/-- the same on a cell of the world -/
theorem g_cvE (C : gC D k p s m args c c1 own) (hE : gEv z A0 s s.heap) (hml : c.maxLocals = nL) (hM : GE l D k z A Wd y cc maxL ret fr lo (.ref b :: As) v f g post) (m1 : Cond.methodLink own idx y ∈ gWs) (m2 : Cond.instanceMethod y ∈ gWs) (m3 : Cond.selects C1 y y ∈ gWs) (m4 : Cond.initialized C1 ∈ gWs) (m5 : Cond.code y cc maxL ret ∈ gWs)
    (hd : y.cls = C1 ∧ y.cls ≠ "java/lang/invoke/MethodHandle" ∧ y.cls ≠ "java/lang/invoke/VarHandle" ∧ (parseMethodDescriptor y.desc).map (fun d => d.parameters.length) = some n) (q0 : Nat) {ci : Nat} {T : u_T} {N : Nat} {fs : List Value} (hc : vwCl[ci]? = some (C1, T, N)) (he : (Wd.1 v f g)[q0]? = some (b, .inr (ci, fs)))
    (hP : gWd D Wd v f g H) (hS : va_S A0 s.heap H locs) (hA : ∀ q, A q → A0 q) (hR : fr + 1 ≤ R.frames ∧ 8 + (maxL + 11) + lo ≤ R.locals) (hcs : cells ≤ R.cells ∧ slots ≤ R.slots) (hsz : ls.size = nL) (hn : As.length = n) (hst : st0 = As.reverse ++ .ref b :: rest) (hW : (rest.map fun v => v.category).sum ≤ 8) (hdg : decode c1 pc = .ok (.invokevirtual idx, 3))
    (kk : ∀ (r : Option Value) (v : gV) (f g : gF) (H1 : Heap) (locs1 : List Loc), post r v f g → gWd D Wd v f g H1 → (∀ q : Nat, q < H.size → ¬ A q → H1[q]? = H[q]?) → va_S A0 s.heap H1 locs1 → W p l e R s m args below meth c H1 locs1 cells slots Q (F0 m (pc + 3) ls (r.toList ++ rest))) : W p l e R s m args below meth c H locs cells slots Q (F0 m pc ls st0) :=
  g_cvX C hE hml hM m1 m2 m3 m4 m5 hd (va_recv C.2.2.2.2 hP.1 hc he) hP hS hA hR hcs hsz hn hst hW hdg kk
theorem g_csE (C : gC D k p s m args c c1 own) (hE : gEv z A0 s s.heap) (hml : c.maxLocals = nL) (hM : GE l D k z A Wd y cc maxL ret fr lo As v f g post) (m1 : Cond.methodLink own idx y ∈ gWs) (m2 : Cond.static y ∈ gWs) (m4 : Cond.initialized y.cls ∈ gWs) (m5 : Cond.code y cc maxL ret ∈ gWs)
    (hd : y.cls ≠ "java/lang/invoke/MethodHandle" ∧ y.cls ≠ "java/lang/invoke/VarHandle" ∧ (parseMethodDescriptor y.desc).map (fun d => d.parameters.length) = some n)
    (hP : gWd D Wd v f g H) (hS : va_S A0 s.heap H locs) (hA : ∀ q, A q → A0 q) (hR : fr + 1 ≤ R.frames ∧ 8 + (maxL + 11) + lo ≤ R.locals) (hcs : cells ≤ R.cells ∧ slots ≤ R.slots) (hsz : ls.size = nL) (hn : As.length = n) (hst : st0 = As.reverse ++ rest) (hW : (rest.map fun v => v.category).sum ≤ 8) (hdg : decode c1 pc = .ok (.invokestatic idx, 3))
    (kk : ∀ (r : Option Value) (v : gV) (f g : gF) (H1 : Heap) (locs1 : List Loc), post r v f g → gWd D Wd v f g H1 → (∀ q : Nat, q < H.size → ¬ A q → H1[q]? = H[q]?) → va_S A0 s.heap H1 locs1 → W p l e R s m args below meth c H1 locs1 cells slots Q (F0 m (pc + 3) ls (r.toList ++ rest))) : W p l e R s m args below meth c H locs cells slots Q (F0 m pc ls st0) := by
  refine g_call (va_runS (As := As) (rest := rest) (n := n) ⟨C.1, C.2.1, hml, C.2.2.2.1, C.2.2.1⟩ hM ⟨callB_of n C.2.2.1 (gWs_GoodIn m5) rfl rfl rfl (C.2.2.1 _ m4) (C.2.2.1 _ m1) hd hR, C.2.2.1 _ m2⟩ ⟨gPreE_blind, fun U hU hW => ⟨rfl, ⟨by rw [hU]; exact hP, va_K.moved hW.alike C.2.2.2.2⟩, gEv.warm hW (by rw [hU]; exact (hE.kept hS.2.1).narrow hA)⟩⟩ rfl hn hsz hst (lv_room hW) hdg hcs) hS hA kk
/-- the ends of a byte, of a char -/
theorem g_nret (hQ : Q = MQ below (gPost D A Wd post) args s 0 0 A) (C : gC D k p s m args c cc own) {v1 : gV} {f1 g1 : gF} {z : Int} {ty : FieldType} (hr : meth.sig.returnType = some ty) (hlocks : meth.locks = false) (hz : narrow ty (.int (iI z)) = .int (iI z)) (hP : gWd D Wd v1 f1 g1 H) (hS : va_S A s.heap H locs) (hdg : decode cc pc = .ok (.ireturn, 1)) (hq : post (some (.int (iI z))) v1 f1 g1) : W p l e R s m args below meth c H locs 0 0 Q (F0 m pc ls [.int (iI z)]) := by
  subst hQ
  exact W.zret C.1 C.2.1 hr hz (fun t ht _ => ⟨⟨_, v1, f1, g1, rfl, hq, by rw [ht]; exact hP⟩, hS.F ht⟩) hS.2.2 hdg hlocks
end GEs
/-! the JDK's members over the text -/
def gEch (a : Int) : Int := (gEby.getD a.toNat 0).toInt
theorem gEby_ok : ∀ j : Nat, j < 97 → ((((gEby.getD j 0) &&& 255).toUInt32 % 65536).toInt32 = gEby.getD j 0 ∧ narrow .char (.int (gEby.getD j 0)) = .int (gEby.getD j 0) ∧ 32 ≤ (gEby.getD j 0).toInt ∧ (gEby.getD j 0).toInt ≤ 122) := by decide +kernel
def gEsp (a : Int) : Int := (((gEby.take a.toNat).filter (fun x => x == 32)).length : Int)
theorem gEsp_ok : ∀ j : Nat, j < 97 → ((((gEby.getD j 0).toInt = 32 ∧ ((gEby.take (j + 1)).filter (fun x => x == 32)).length = ((gEby.take j).filter (fun x => x == 32)).length + 1) ∨ ((gEby.getD j 0).toInt ≠ 32 ∧ ((gEby.take (j + 1)).filter (fun x => x == 32)).length = ((gEby.take j).filter (fun x => x == 32)).length)) ∧ ((gEby.take j).filter (fun x => x == 32)).length ≤ 17) := by decide +kernel
theorem gEsp_step {i : Int} (h0 : 0 ≤ i) (h1 : i < 97) : ((gEch i = 32 ∧ gEsp (i + 1) = gEsp i + 1) ∨ (gEch i ≠ 32 ∧ gEsp (i + 1) = gEsp i)) ∧ 0 ≤ gEsp i ∧ gEsp i ≤ 17 ∧ 32 ≤ gEch i ∧ gEch i ≤ 122 := by
  obtain ⟨j, rfl⟩ : ∃ j : Nat, i = (j : Int) := ⟨i.toNat, by omega⟩
  have h := gEsp_ok j (by omega)
  have h2 := gEby_ok j (by omega)
  have e1 : ((j : Int) + 1).toNat = j + 1 := by omega
  unfold gEsp gEch
  rw [e1, Int.toNat_natCast]
  exact ⟨by omega, by omega, by omega, h2.2.2.1, h2.2.2.2⟩
section GJ
variable {l : Launch} {D : va_G} {k : Nat → ClassId} {z : Nat → Nat} {A : Nat → Prop} {Wd : gWt} {v : gV} {f g : gF}
abbrev gJp (v : gV) (f g : gF) (r0 : Option Value) : Option Value → gV → gF → gF → Prop := fun r v1 f1 g1 => r = r0 ∧ v = v1 ∧ f = f1 ∧ g = g1
theorem j_pre {a n : Int} {X : Value} (hX : X = .null ∨ ∃ t : Nat, X = .ref t) (h0 : 0 ≤ a) (h1 : a < n) (h2 : n ≤ 2147483647) : GM l D k A Wd yJ3_checkIndex_8e157 cJ3_checkIndex_8e157 3 (some .int) 0 0 [.int (iI a), .int (iI n), X] v f g (gJp v f g (some (.int (iI a)))) := by
  rcases hX with rfl | ⟨t, rfl⟩
  · refine GM.of (by decide) (Nat.le_of_ble_eq_true rfl) ?_
    intro p e s m args below meth c Q ls hQ C hml hr hlocks hP hl
    have hx := C.1
    have hb := C.2.1
    have hS : va_S A s.heap s.heap [] := va_S.rf
    have hl : lv_has ls 3 [(0, .int (iI a)), (1, .int (iI n)), (2, .null)] := hl
    refine lv_iload_n hx hb dJ3_checkIndex_8e157_0 rfl (lv_at hl 0 rfl) ?_
    refine gi_zlt (tgt := 9) hx hb dJ3_checkIndex_8e157_1 (by decide) (by omega) (fun c_1 => ?_) (fun c_1 => ?_)
    · exfalso; omega
    refine lv_iload_n hx hb dJ3_checkIndex_8e157_4 rfl (lv_at hl 0 rfl) ?_
    refine lv_iload_n hx hb dJ3_checkIndex_8e157_5 rfl (lv_at hl 1 rfl) ?_
    refine gi_clt (tgt := 16) hx hb dJ3_checkIndex_8e157_6 (by decide) (by omega) (by omega) (fun c_2 => ?_) (fun c_2 => ?_)
    · refine lv_iload_n hx hb dJ3_checkIndex_8e157_16 rfl (lv_at hl 0 rfl) ?_
      exact g_iret hQ C hr hlocks hP hS dJ3_checkIndex_8e157_17 ⟨rfl, rfl, rfl, rfl⟩
    · exfalso; omega
  · refine GM.of (by decide) (Nat.le_of_ble_eq_true rfl) ?_
    intro p e s m args below meth c Q ls hQ C hml hr hlocks hP hl
    have hx := C.1
    have hb := C.2.1
    have hS : va_S A s.heap s.heap [] := va_S.rf
    have hl : lv_has ls 3 [(0, .int (iI a)), (1, .int (iI n)), (2, .ref t)] := hl
    refine lv_iload_n hx hb dJ3_checkIndex_8e157_0 rfl (lv_at hl 0 rfl) ?_
    refine gi_zlt (tgt := 9) hx hb dJ3_checkIndex_8e157_1 (by decide) (by omega) (fun c_1 => ?_) (fun c_1 => ?_)
    · exfalso; omega
    refine lv_iload_n hx hb dJ3_checkIndex_8e157_4 rfl (lv_at hl 0 rfl) ?_
    refine lv_iload_n hx hb dJ3_checkIndex_8e157_5 rfl (lv_at hl 1 rfl) ?_
    refine gi_clt (tgt := 16) hx hb dJ3_checkIndex_8e157_6 (by decide) (by omega) (by omega) (fun c_2 => ?_) (fun c_2 => ?_)
    · refine lv_iload_n hx hb dJ3_checkIndex_8e157_16 rfl (lv_at hl 0 rfl) ?_
      exact g_iret hQ C hr hlocks hP hS dJ3_checkIndex_8e157_17 ⟨rfl, rfl, rfl, rfl⟩
    · exfalso; omega
theorem j_chk {a n : Int} (h0 : 0 ≤ a) (h1 : a < n) (h2 : n ≤ 2147483647) : GE l D k z A Wd yJ0_checkIndex_df160 cJ0_checkIndex_df160 2 none 1 22 [.int (iI a), .int (iI n)] v f g (gJp v f g none) := by
  refine GE.of (by decide) (Nat.le_of_ble_eq_true rfl) ?_
  intro p e s m args below meth c Q ls hQ C hml hr hlocks hP hl hE
  have hx := C.1
  have hb := C.2.1
  have hS : va_S A s.heap s.heap [] := va_S.rf
  have hl : lv_has ls 2 [(0, .int (iI a)), (1, .int (iI n))] := hl
  refine lv_iload_n hx hb dJ0_checkIndex_df160_0 rfl (lv_at hl 0 rfl) ?_
  refine lv_iload_n hx hb dJ0_checkIndex_df160_1 rfl (lv_at hl 1 rfl) ?_
  rcases hE.p6 with hz | ⟨t, hz⟩
  · refine va_gets hx hb hz hS C.2.2.2.1 (C.2.2.1 _ mF_J0_1053) (fun _ h => h) dJ0_checkIndex_df160_2 ?_
    refine g_cs (As := [.int (iI a), .int (iI n), .null]) (rest := []) (n := 3) C hml (j_pre (Or.inl rfl) h0 h1 h2) mM_J0_1059 mS_J3_checkIndex_8e157 mN_J3 mC_J3_checkIndex_8e157 (by decide +kernel) hP hS (fun _ h => h) ⟨Nat.le_of_ble_eq_true rfl, Nat.le_of_ble_eq_true rfl⟩ ⟨Nat.zero_le _, Nat.zero_le _⟩ hl.1 rfl rfl (Nat.le_of_ble_eq_true rfl) dJ0_checkIndex_df160_5 (fun r v1 f1 g1 H locs hq hP _ hS => ?_)
    obtain ⟨rfl, rfl, rfl, rfl⟩ := hq
    refine lv_pop hx hb dJ0_checkIndex_df160_8 rfl ?_
    exact g_vret hQ C hr hlocks hP hS dJ0_checkIndex_df160_9 ⟨rfl, rfl, rfl, rfl⟩
  · refine va_gets hx hb hz hS C.2.2.2.1 (C.2.2.1 _ mF_J0_1053) (fun _ h => h) dJ0_checkIndex_df160_2 ?_
    refine g_cs (As := [.int (iI a), .int (iI n), .ref t]) (rest := []) (n := 3) C hml (j_pre (Or.inr ⟨t, rfl⟩) h0 h1 h2) mM_J0_1059 mS_J3_checkIndex_8e157 mN_J3 mC_J3_checkIndex_8e157 (by decide +kernel) hP hS (fun _ h => h) ⟨Nat.le_of_ble_eq_true rfl, Nat.le_of_ble_eq_true rfl⟩ ⟨Nat.zero_le _, Nat.zero_le _⟩ hl.1 rfl rfl (Nat.le_of_ble_eq_true rfl) dJ0_checkIndex_df160_5 (fun r v1 f1 g1 H locs hq hP _ hS => ?_)
    obtain ⟨rfl, rfl, rfl, rfl⟩ := hq
    refine lv_pop hx hb dJ0_checkIndex_df160_8 rfl ?_
    exact g_vret hQ C hr hlocks hP hS dJ0_checkIndex_df160_9 ⟨rfl, rfl, rfl, rfl⟩
theorem j_lat {a : Int} (h0 : 0 ≤ a) (h1 : a < 97) : GE l D k z A Wd yJ1_charAt_3b067 cJ1_charAt_3b067 2 (some .char) 2 43 [.ref (z 3), .int (iI a)] v f g (gJp v f g (some (.int (iI (gEch a))))) := by
  refine GE.of (by decide) (Nat.le_of_ble_eq_true rfl) ?_
  intro p e s m args below meth c Q ls hQ C hml hr hlocks hP hl hE
  have hx := C.1
  have hb := C.2.1
  have hS : va_S A s.heap s.heap [] := va_S.rf
  have hl : lv_has ls 2 [(0, .ref (z 3)), (1, .int (iI a))] := hl
  have hT : va_T .byte (z 3) 97 (fun j => .int (gEby.getD j 0)) A s s.heap := (hE.p5.1 0 (by decide)).2.2.2
  have hj : (iI a).toNatClampNeg = a.toNat := by
    have := iI_cl h0 (by omega)
    omega
  have q := gEby_ok a.toNat (by omega)
  refine lv_iload_n hx hb dJ1_charAt_3b067_0 rfl (lv_at hl 1 rfl) ?_
  refine lv_aload_n hx hb dJ1_charAt_3b067_1 rfl (lv_at hl 0 rfl) ?_
  refine va_tlen (v := iI 97) hx hb hT hS rfl dJ1_charAt_3b067_2 ?_
  refine g_csE (As := [.int (iI a), .int (iI 97)]) (rest := []) (n := 2) C hE hml (j_chk h0 h1 (by decide)) mM_J1_9 mS_J0_checkIndex_df160 mN_J0 mC_J0_checkIndex_df160 (by decide +kernel) hP hS (fun _ h => h) ⟨Nat.le_of_ble_eq_true rfl, Nat.le_of_ble_eq_true rfl⟩ ⟨Nat.zero_le _, Nat.zero_le _⟩ hl.1 rfl rfl (Nat.le_of_ble_eq_true rfl) dJ1_charAt_3b067_3 (fun r v1 f1 g1 H locs hq hP _ hS => ?_)
  obtain ⟨rfl, rfl, rfl, rfl⟩ := hq
  refine lv_aload_n hx hb dJ1_charAt_3b067_6 rfl (lv_at hl 0 rfl) ?_
  refine lv_iload_n hx hb dJ1_charAt_3b067_7 rfl (lv_at hl 1 rfl) ?_
  refine va_tb (v := .int (gEby.getD a.toNat 0)) hx hb hT hS (iI_in h0 h1 (by decide)) (by rw [hj]) dJ1_charAt_3b067_8 ?_
  refine lv_sipush (v := 255) hx hb dJ1_charAt_3b067_9 (by decide) ?_
  refine lv_iand hx hb dJ1_charAt_3b067_12 ?_
  refine lv_i2c (v := iI (gEch a)) hx hb dJ1_charAt_3b067_13 (by rw [q.1]; exact (iI_of _).symm) ?_
  exact g_nret hQ C hr hlocks (by show narrow .char (.int (iI (gEby.getD a.toNat 0).toInt)) = .int (iI (gEby.getD a.toNat 0).toInt); rw [iI_of]; exact q.2.1) hP hS dJ1_charAt_3b067_14 ⟨rfl, rfl, rfl, rfl⟩
theorem j_coder : GE l D k z A Wd yJ0_coder_7d493 cJ0_coder_7d493 1 (some .byte) 0 0 [.ref (z 2)] v f g (gJp v f g (some (.int (iI 0)))) := by
  refine GE.of (by decide) (Nat.le_of_ble_eq_true rfl) ?_
  intro p e s m args below meth c Q ls hQ C hml hr hlocks hP hl hE
  have hx := C.1
  have hb := C.2.1
  have hS : va_S A s.heap s.heap [] := va_S.rf
  have hl : lv_has ls 1 [(0, .ref (z 2))] := hl
  refine va_gets hx hb hE.p4 hS C.2.2.2.1 (C.2.2.1 _ mF_J0_38) (fun _ h => h) dJ0_coder_7d493_0 ?_
  refine gi_zeq (tgt := 13) hx hb dJ0_coder_7d493_3 (by decide) (by decide) (fun c_1 => ?_) (fun c_1 => ?_)
  · exfalso; omega
  refine lv_aload_n hx hb dJ0_coder_7d493_6 rfl (lv_at hl 0 rfl) ?_
  refine vk_getf (v := .int (iI 0)) hx hb (hE.p5.1 0 (by decide)).2.1 hS C.2.2.2.1 (C.2.2.1 _ mF_J0_15) (fun _ h => h) dJ0_coder_7d493_7 ?_
  refine lv_goto (tgt := 14) hx hb dJ0_coder_7d493_10 (by decide) ?_
  exact g_nret hQ C hr hlocks rfl hP hS dJ0_coder_7d493_14 ⟨rfl, rfl, rfl, rfl⟩
theorem j_isLatin1 : GE l D k z A Wd yJ0_isLatin1_aae02 cJ0_isLatin1_aae02 1 (some .boolean) 0 0 [.ref (z 2)] v f g (gJp v f g (some (.int (iI 1)))) := by
  refine GE.of (by decide) (Nat.le_of_ble_eq_true rfl) ?_
  intro p e s m args below meth c Q ls hQ C hml hr hlocks hP hl hE
  have hx := C.1
  have hb := C.2.1
  have hS : va_S A s.heap s.heap [] := va_S.rf
  have hl : lv_has ls 1 [(0, .ref (z 2))] := hl
  refine va_gets hx hb hE.p4 hS C.2.2.2.1 (C.2.2.1 _ mF_J0_38) (fun _ h => h) dJ0_isLatin1_aae02_0 ?_
  refine gi_zeq (tgt := 17) hx hb dJ0_isLatin1_aae02_3 (by decide) (by decide) (fun c_1 => ?_) (fun c_1 => ?_)
  · exfalso; omega
  refine lv_aload_n hx hb dJ0_isLatin1_aae02_6 rfl (lv_at hl 0 rfl) ?_
  refine vk_getf (v := .int (iI 0)) hx hb (hE.p5.1 0 (by decide)).2.1 hS C.2.2.2.1 (C.2.2.1 _ mF_J0_15) (fun _ h => h) dJ0_isLatin1_aae02_7 ?_
  refine gi_zne (tgt := 17) hx hb dJ0_isLatin1_aae02_10 (by decide) (by decide) (fun c_2 => ?_) (fun c_2 => ?_)
  · exfalso; omega
  refine lv_iconst (v := iI 1) hx hb dJ0_isLatin1_aae02_13 rfl ?_
  refine lv_goto (tgt := 18) hx hb dJ0_isLatin1_aae02_14 (by decide) ?_
  exact g_nret hQ C hr hlocks rfl hP hS dJ0_isLatin1_aae02_18 ⟨rfl, rfl, rfl, rfl⟩
theorem j_len : GE l D k z A Wd yJ0_length_8abf5 cJ0_length_8abf5 1 (some .int) 1 20 [.ref (z 2)] v f g (gJp v f g (some (.int (iI 97)))) := by
  refine GE.of (by decide) (Nat.le_of_ble_eq_true rfl) ?_
  intro p e s m args below meth c Q ls hQ C hml hr hlocks hP hl hE
  have hx := C.1
  have hb := C.2.1
  have hS : va_S A s.heap s.heap [] := va_S.rf
  have hl : lv_has ls 1 [(0, .ref (z 2))] := hl
  have hT : va_T .byte (z 3) 97 (fun j => .int (gEby.getD j 0)) A s s.heap := (hE.p5.1 0 (by decide)).2.2.2
  refine lv_aload_n hx hb dJ0_length_8abf5_0 rfl (lv_at hl 0 rfl) ?_
  refine vk_getf (v := .ref (z 3)) hx hb (hE.p5.1 0 (by decide)).2.2.1 hS C.2.2.2.1 (C.2.2.1 _ mF_J0_9) (fun _ h => h) dJ0_length_8abf5_1 ?_
  refine va_tlen (v := iI 97) hx hb hT hS rfl dJ0_length_8abf5_4 ?_
  refine lv_aload_n hx hb dJ0_length_8abf5_5 rfl (lv_at hl 0 rfl) ?_
  refine g_cvX (As := []) (rest := [.int (iI 97)]) (n := 0) C hE hml j_coder mM_J0_335 mI_J0_coder_7d493 mE_J0_coder_7d493 mN_J0 mC_J0_coder_7d493 (by decide +kernel) (vk_recv (adK := fun _ => z 2) (i := 0) hE.p5 (by decide) hS) hP hS (fun _ h => h) ⟨Nat.le_of_ble_eq_true rfl, Nat.le_of_ble_eq_true rfl⟩ ⟨Nat.zero_le _, Nat.zero_le _⟩ hl.1 rfl rfl (Nat.le_of_ble_eq_true rfl) dJ0_length_8abf5_6 (fun r v1 f1 g1 H locs hq hP _ hS => ?_)
  obtain ⟨rfl, rfl, rfl, rfl⟩ := hq
  refine gi_shr (z := 97) (a := 97) (b := 0) hx hb dJ0_length_8abf5_9 rfl ?_
  exact g_iret hQ C hr hlocks hP hS dJ0_length_8abf5_10 ⟨rfl, rfl, rfl, rfl⟩
theorem j_cat {a : Int} (h0 : 0 ≤ a) (h1 : a < 97) : GE l D k z A Wd yJ0_charAt_5068e cJ0_charAt_5068e 2 (some .char) 3 64 [.ref (z 2), .int (iI a)] v f g (gJp v f g (some (.int (iI (gEch a))))) := by
  refine GE.of (by decide) (Nat.le_of_ble_eq_true rfl) ?_
  intro p e s m args below meth c Q ls hQ C hml hr hlocks hP hl hE
  have hx := C.1
  have hb := C.2.1
  have hS : va_S A s.heap s.heap [] := va_S.rf
  have hl : lv_has ls 2 [(0, .ref (z 2)), (1, .int (iI a))] := hl
  have q := gEby_ok a.toNat (by omega)
  refine lv_aload_n hx hb dJ0_charAt_5068e_0 rfl (lv_at hl 0 rfl) ?_
  refine g_cvX (As := []) (rest := []) (n := 0) C hE hml j_isLatin1 mM_J0_492 mI_J0_isLatin1_aae02 mE_J0_isLatin1_aae02 mN_J0 mC_J0_isLatin1_aae02 (by decide +kernel) (vk_recv (adK := fun _ => z 2) (i := 0) hE.p5 (by decide) hS) hP hS (fun _ h => h) ⟨Nat.le_of_ble_eq_true rfl, Nat.le_of_ble_eq_true rfl⟩ ⟨Nat.zero_le _, Nat.zero_le _⟩ hl.1 rfl rfl (Nat.le_of_ble_eq_true rfl) dJ0_charAt_5068e_1 (fun r v1 f1 g1 H locs hq hP _ hS => ?_)
  obtain ⟨rfl, rfl, rfl, rfl⟩ := hq
  refine gi_zeq (a := 1) (tgt := 16) hx hb dJ0_charAt_5068e_4 (by decide) (by decide) (fun c_1 => ?_) (fun c_1 => ?_)
  · exfalso; omega
  refine lv_aload_n hx hb dJ0_charAt_5068e_7 rfl (lv_at hl 0 rfl) ?_
  refine vk_getf (v := .ref (z 3)) hx hb (hE.p5.1 0 (by decide)).2.2.1 hS C.2.2.2.1 (C.2.2.1 _ mF_J0_9) (fun _ h => h) dJ0_charAt_5068e_8 ?_
  refine lv_iload_n hx hb dJ0_charAt_5068e_11 rfl (lv_at hl 1 rfl) ?_
  refine g_csE (As := [.ref (z 3), .int (iI a)]) (rest := []) (n := 2) C hE hml (j_lat h0 h1) mM_J0_495 mS_J1_charAt_3b067 mN_J1 mC_J1_charAt_3b067 (by decide +kernel) hP hS (fun _ h => h) ⟨Nat.le_of_ble_eq_true rfl, Nat.le_of_ble_eq_true rfl⟩ ⟨Nat.zero_le _, Nat.zero_le _⟩ hl.1 rfl rfl (Nat.le_of_ble_eq_true rfl) dJ0_charAt_5068e_12 (fun r v1 f1 g1 H locs hq hP _ hS => ?_)
  obtain ⟨rfl, rfl, rfl, rfl⟩ := hq
  exact g_nret hQ C hr hlocks (by show narrow .char (.int (iI (gEby.getD a.toNat 0).toInt)) = .int (iI (gEby.getD a.toNat 0).toInt); rw [iI_of]; exact q.2.1) hP hS dJ0_charAt_5068e_15 ⟨rfl, rfl, rfl, rfl⟩
end GJ
