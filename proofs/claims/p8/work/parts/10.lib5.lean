theorem mS_math_max : Cond.static Lib.Math.max.name ∈ gWs := mS_J9_max_7cf53
theorem mC_math_max : Cond.code Lib.Math.max.name Lib.Math.max.code 2 (some .int) ∈ gWs := mC_J9_max_7cf53
theorem mS_math_min : Cond.static Lib.Math.min.name ∈ gWs := mS_J9_min_7cf53
theorem mC_math_min : Cond.code Lib.Math.min.name Lib.Math.min.code 2 (some .int) ∈ gWs := mC_J9_min_7cf53
theorem mS_math_maxl : Cond.static Lib.MathLoose.max_long.x ∈ gWs := mS_J9_max_f86c9
theorem mC_math_maxl : Cond.code Lib.MathLoose.max_long.x Lib.MathLoose.max_long.code 4 (some .long) ∈ gWs := mC_J9_max_f86c9
theorem mS_math_minl : Cond.static Lib.MathLoose.min_long.x ∈ gWs := mS_J9_min_f86c9
theorem mC_math_minl : Cond.code Lib.MathLoose.min_long.x Lib.MathLoose.min_long.code 4 (some .long) ∈ gWs := mC_J9_min_f86c9
/-- a low mask -/
theorem gAnd (a : Int) (m : Int) (k : Nat) (hm : (iI m).toBitVec.toNat = 2 ^ k - 1) (hk : k ≤ 30) : ∃ z : Int, iI a &&& iI m = iI z ∧ 0 ≤ z ∧ z ≤ 2 ^ k - 1 := by
  obtain ⟨j, hj, ej⟩ := pk_andE (iI a) (m := iI m) k hm
  refine ⟨(j : Int), ej.trans (iI_nat j), by omega, ?_⟩
  have h2 : ((2 ^ k : Nat) : Int) = (2 : Int) ^ k := by norm_cast
  omega
theorem gB8r {a z : Int} (h : (iI a).toInt8.toInt32 = iI z) (hz : inR z := by omega) : -128 ≤ z ∧ z ≤ 127 := by
  have h1 := congrArg Int32.toInt h
  rw [iI_toInt hz] at h1
  have h2 := (iI a).toInt8.le_toInt
  have h3 := (iI a).toInt8.toInt_lt
  rw [Int8.toInt_toInt32] at h1
  omega
section GL
variable {p : Program} {l : Launch} {e : Env} {R : Room} {s : State} {m : MethodId} {args : Array Value} {below : List Frame} {meth : Method} {c : Code} {H : Heap} {locs : List Loc} {cells slots : Nat} {Q : State → Prop}
variable {cc : ByteArray} {pc nL idx : Nat} {ls : Array Slot} {rest : List Value} {a b z : Int} {own : String} {D : va_G} {k : Nat → ClassId}
theorem gl_add (hx : p.tables.exec = Jvm.exec) (hb : c.code = cc) (hdg : decode cc pc = .ok (.ladd, 1)) (hz : a + b = z) (k : W p l e R s m args below meth c H locs cells slots Q (F0 m (pc + 1) ls (.long (iL z) :: rest))) : W p l e R s m args below meth c H locs cells slots Q (F0 m pc ls (.long (iL b) :: .long (iL a) :: rest)) := by
  refine lv_ladd hx hb hdg ?_
  rw [show iL a + iL b = iL z from by rw [← hz]; exact (Int64.ofInt_add a b).symm]; exact k
theorem gl_sub (hx : p.tables.exec = Jvm.exec) (hb : c.code = cc) (hdg : decode cc pc = .ok (.lsub, 1)) (hz : a - b = z) (k : W p l e R s m args below meth c H locs cells slots Q (F0 m (pc + 1) ls (.long (iL z) :: rest))) : W p l e R s m args below meth c H locs cells slots Q (F0 m pc ls (.long (iL b) :: .long (iL a) :: rest)) := by
  refine lv_lsub hx hb hdg ?_
  rw [show iL a - iL b = iL z from by rw [← hz]; exact (Int64.ofInt_sub a b).symm]; exact k
theorem gl_mul (hx : p.tables.exec = Jvm.exec) (hb : c.code = cc) (hdg : decode cc pc = .ok (.lmul, 1)) (hz : a * b = z) (k : W p l e R s m args below meth c H locs cells slots Q (F0 m (pc + 1) ls (.long (iL z) :: rest))) : W p l e R s m args below meth c H locs cells slots Q (F0 m pc ls (.long (iL b) :: .long (iL a) :: rest)) := by
  refine lv_lmul hx hb hdg ?_
  rw [show iL a * iL b = iL z from by rw [← hz]; exact (Int64.ofInt_mul a b).symm]; exact k
theorem gl_neg (hx : p.tables.exec = Jvm.exec) (hb : c.code = cc) (hdg : decode cc pc = .ok (.lneg, 1)) (hz : -a = z) (k : W p l e R s m args below meth c H locs cells slots Q (F0 m (pc + 1) ls (.long (iL z) :: rest))) : W p l e R s m args below meth c H locs cells slots Q (F0 m pc ls (.long (iL a) :: rest)) := by
  refine lv_lneg hx hb hdg ?_
  rw [show -iL a = iL z from by rw [← hz]; exact (Int64.ofInt_neg a).symm]; exact k
theorem lg_cmp_rng (x y : Int64) : (lg_cmp x y).toInt = -1 ∨ (lg_cmp x y).toInt = 0 ∨ (lg_cmp x y).toInt = 1 := by
  unfold lg_cmp
  split
  · exact Or.inr (Or.inr rfl)
  · split
    · exact Or.inr (Or.inl rfl)
    · exact Or.inl rfl
theorem gl_cmp (hx : p.tables.exec = Jvm.exec) (hb : c.code = cc) (hdg : decode cc pc = .ok (.lcmp, 1)) (k : ∀ z : Int, -1 ≤ z ∧ z ≤ 1 → W p l e R s m args below meth c H locs cells slots Q (F0 m (pc + 1) ls (.int (iI z) :: rest))) : W p l e R s m args below meth c H locs cells slots Q (F0 m pc ls (.long (iL b) :: .long (iL a) :: rest)) := by
  refine W.lcmp hx hb hdg ?_
  rw [← iI_of (lg_cmp (iL a) (iL b))]
  exact k _ (by rcases lg_cmp_rng (iL a) (iL b) with h | h | h <;> rw [h] <;> decide)
theorem gl_l2i (hx : p.tables.exec = Jvm.exec) (hb : c.code = cc) (hdg : decode cc pc = .ok (.l2i, 1)) (k : ∀ z : Int, (iL a).toInt32 = iI z → inR z → W p l e R s m args below meth c H locs cells slots Q (F0 m (pc + 1) ls (.int (iI z) :: rest))) : W p l e R s m args below meth c H locs cells slots Q (F0 m pc ls (.long (iL a) :: rest)) := by
  refine lv_l2i (v := iI ((iL a).toInt32).toInt) hx hb hdg (iI_of _).symm ?_
  exact k _ (iI_of _).symm (iI_rng _)
theorem gi_max (C : gC D k p s m args c cc own) (hml : c.maxLocals = nL) (hsz : ls.size = nL) (hm : Cond.methodLink own idx Lib.Math.max.name ∈ gWs) (ha : inR a) (hb2 : inR b) (hfr : 1 ≤ R.frames) (hlo : (rest.map fun v => v.category).sum + 13 ≤ R.locals) (hdg : decode cc pc = .ok (.invokestatic idx, 3)) (kk : ∀ z : Int, (z = a ∨ z = b) ∧ a ≤ z ∧ b ≤ z → W p l e R s m args below meth c H locs 0 0 Q (F0 m (pc + 3) ls (.int (iI z) :: rest))) : W p l e R s m args below meth c H locs 0 0 Q (F0 m pc ls (.int (iI b) :: .int (iI a) :: rest)) := by
  refine va_mmax C.1 C.2.1 (hml.trans hsz.symm) C.2.2.2.1 (C.2.2.1 _ hm) (C.2.2.1 _ mS_math_max) (C.2.2.1 _ mN_J9) (C.2.2.1 _ mC_math_max) hfr hlo (Nat.zero_le _) (Nat.zero_le _) hdg ?_
  by_cases h : a < b
  · rw [if_pos ((iI_lt ha hb2).mpr h)]; exact kk b ⟨Or.inr rfl, by omega, by omega⟩
  · rw [if_neg (fun q => h ((iI_lt ha hb2).mp q))]; exact kk a ⟨Or.inl rfl, by omega, by omega⟩
theorem gi_min (C : gC D k p s m args c cc own) (hml : c.maxLocals = nL) (hsz : ls.size = nL) (hm : Cond.methodLink own idx Lib.Math.min.name ∈ gWs) (ha : inR a) (hb2 : inR b) (hfr : 1 ≤ R.frames) (hlo : (rest.map fun v => v.category).sum + 13 ≤ R.locals) (hdg : decode cc pc = .ok (.invokestatic idx, 3)) (kk : ∀ z : Int, (z = a ∨ z = b) ∧ z ≤ a ∧ z ≤ b → W p l e R s m args below meth c H locs 0 0 Q (F0 m (pc + 3) ls (.int (iI z) :: rest))) : W p l e R s m args below meth c H locs 0 0 Q (F0 m pc ls (.int (iI b) :: .int (iI a) :: rest)) := by
  refine va_mmin C.1 C.2.1 (hml.trans hsz.symm) C.2.2.2.1 (C.2.2.1 _ hm) (C.2.2.1 _ mS_math_min) (C.2.2.1 _ mN_J9) (C.2.2.1 _ mC_math_min) hfr hlo (Nat.zero_le _) (Nat.zero_le _) hdg ?_
  by_cases h : b < a
  · rw [if_pos ((iI_lt hb2 ha).mpr h)]; exact kk b ⟨Or.inr rfl, by omega, by omega⟩
  · rw [if_neg (fun q => h ((iI_lt hb2 ha).mp q))]; exact kk a ⟨Or.inl rfl, by omega, by omega⟩
theorem gl_max (C : gC D k p s m args c cc own) (hml : c.maxLocals = nL) (hsz : ls.size = nL) (hm : Cond.methodLink own idx Lib.MathLoose.max_long.x ∈ gWs) (hfr : 1 ≤ R.frames) (hlo : (rest.map fun v => v.category).sum + 15 ≤ R.locals) (hdg : decode cc pc = .ok (.invokestatic idx, 3)) (kk : ∀ z : Int, (if iL b < iL a then iL a else iL b) = iL z → W p l e R s m args below meth c H locs 0 0 Q (F0 m (pc + 3) ls (.long (iL z) :: rest))) : W p l e R s m args below meth c H locs 0 0 Q (F0 m pc ls (.long (iL b) :: .long (iL a) :: rest)) := by
  refine va_mmax_long C.1 C.2.1 (hml.trans hsz.symm) C.2.2.2.1 (C.2.2.1 _ hm) (C.2.2.1 _ mS_math_maxl) (C.2.2.1 _ mN_J9) (C.2.2.1 _ mC_math_maxl) hfr hlo (Nat.zero_le _) (Nat.zero_le _) hdg ?_
  have h := kk (if iL b < iL a then iL a else iL b).toInt (iL_of _).symm
  rw [iL_of] at h
  exact h
theorem gl_min (C : gC D k p s m args c cc own) (hml : c.maxLocals = nL) (hsz : ls.size = nL) (hm : Cond.methodLink own idx Lib.MathLoose.min_long.x ∈ gWs) (hfr : 1 ≤ R.frames) (hlo : (rest.map fun v => v.category).sum + 15 ≤ R.locals) (hdg : decode cc pc = .ok (.invokestatic idx, 3)) (kk : ∀ z : Int, (if iL b < iL a then iL b else iL a) = iL z → W p l e R s m args below meth c H locs 0 0 Q (F0 m (pc + 3) ls (.long (iL z) :: rest))) : W p l e R s m args below meth c H locs 0 0 Q (F0 m pc ls (.long (iL b) :: .long (iL a) :: rest)) := by
  refine va_mmin_long C.1 C.2.1 (hml.trans hsz.symm) C.2.2.2.1 (C.2.2.1 _ hm) (C.2.2.1 _ mS_math_minl) (C.2.2.1 _ mN_J9) (C.2.2.1 _ mC_math_minl) hfr hlo (Nat.zero_le _) (Nat.zero_le _) hdg ?_
  have h := kk (if iL b < iL a then iL b else iL a).toInt (iL_of _).symm
  rw [iL_of] at h
  exact h
end GL
