/-! ===== my rows: ints by their values, worlds by functions ===== -/
def iI (a : Int) : Int32 := Int32.ofInt a
def iL (a : Int) : Int64 := Int64.ofInt a
abbrev inR (a : Int) : Prop := -2147483648 ≤ a ∧ a ≤ 2147483647
theorem iI_toInt {a : Int} (h : inR a) : (iI a).toInt = a := Int32.toInt_ofInt_of_le (by have := h.1; omega) (by have := h.2; omega)
theorem iI_of (x : Int32) : iI x.toInt = x := Int32.ofInt_toInt x
theorem iI_rng (x : Int32) : inR x.toInt := by
  have h1 := Int32.le_toInt x
  have h2 := Int32.toInt_lt x
  constructor <;> omega
theorem iI_add (a b : Int) : iI a + iI b = iI (a + b) := (Int32.ofInt_add a b).symm
theorem iI_sub (a b : Int) : iI a - iI b = iI (a - b) := (Int32.ofInt_sub a b).symm
theorem iI_mul (a b : Int) : iI a * iI b = iI (a * b) := (Int32.ofInt_mul a b).symm
theorem iI_neg (a : Int) : -iI a = iI (-a) := (Int32.ofInt_neg a).symm
theorem iI_lt {a b : Int} (ha : inR a) (hb : inR b) : iI a < iI b ↔ a < b := by rw [Int32.lt_iff_toInt_lt, iI_toInt ha, iI_toInt hb]
theorem iI_le {a b : Int} (ha : inR a) (hb : inR b) : iI a ≤ iI b ↔ a ≤ b := by rw [Int32.le_iff_toInt_le, iI_toInt ha, iI_toInt hb]
theorem iI_eq {a b : Int} (ha : inR a) (hb : inR b) : iI a = iI b ↔ a = b := by rw [← Int32.toInt_inj, iI_toInt ha, iI_toInt hb]
theorem iI_cl {a : Int} (h0 : 0 ≤ a) (h1 : a ≤ 2147483647) : ((iI a).toNatClampNeg : Int) = a := by
  show (((iI a).toInt.toNat : Nat) : Int) = a
  rw [iI_toInt ⟨by omega, h1⟩]
  omega
theorem iI_in {a : Int} {n : Nat} (h0 : 0 ≤ a) (h1 : a < (n : Int)) (hn : n ≤ 2147483647) : vp_in (iI a) n := by
  rw [vp_in_iff, iI_toInt ⟨by omega, by omega⟩]
  exact ⟨h0, h1⟩
theorem iI_zero : (0 : Int32) = iI 0 := rfl
/-- one place of a row changed -/
def u1 (a : Int → Int) (e x : Int) : Int → Int := fun k => if k = e then x else a k
theorem u1_s {a : Int → Int} {e x : Int} : u1 a e x e = x := if_pos rfl
theorem u1_n {a : Int → Int} {e x k : Int} (h : k ≠ e) : u1 a e x k = a k := if_neg h
abbrev gV : Type := Nat → Int
abbrev gF : Type := Nat → Int → Int
/-- a row of ints, of longs, as the heap has it -/
def rI (c : ClassId) (n : Nat) (a : Int → Int) : va_E := .inl (c, n, .inl (fun (k : Nat) => iI (a (k : Int))))
def rL (c : ClassId) (n : Nat) (a : Int → Int) : va_E := .inl (c, n, .inr (.inl (fun (k : Nat) => iL (a (k : Int)))))
theorem rI_upd {a : Int → Int} {e x : Int} (h0 : 0 ≤ e) (h1 : e ≤ 2147483647) : upd (fun (k : Nat) => iI (a (k : Int))) (iI e).toNatClampNeg (iI x) = fun (k : Nat) => iI (u1 a e x (k : Int)) := by
  funext k
  have hc := iI_cl h0 h1
  unfold upd u1
  by_cases hk : k = (iI e).toNatClampNeg
  · rw [if_pos hk, if_pos (by rw [hk]; exact hc)]
  · rw [if_neg hk, if_neg (by omega)]
theorem rL_upd {a : Int → Int} {e x : Int} (h0 : 0 ≤ e) (h1 : e ≤ 2147483647) : vp_updL (fun (k : Nat) => iL (a (k : Int))) (iI e).toNatClampNeg (iL x) = fun (k : Nat) => iL (u1 a e x (k : Int)) := by
  funext k
  have hc := iI_cl h0 h1
  unfold vp_updL u1
  by_cases hk : k = (iI e).toNatClampNeg
  · rw [if_pos hk, if_pos (by rw [hk]; exact hc)]
  · rw [if_neg hk, if_neg (by omega)]
/-- the arrays' classes: k 0 int[], k 1 long[], k 2 byte[], k 3 boolean[] -/
def gT (k : Nat → ClassId) : List (ClassId × FieldType) := [(k 0, .int), (k 1, .long), (k 2, .byte), (k 3, .boolean)]
def gC (D : va_G) (k : Nat → ClassId) (p : Program) (s : State) (m : MethodId) (args : Array Value) (c : Code) (cc : ByteArray) (own : String) : Prop :=
  p.tables.exec = Jvm.exec ∧ c.code = cc ∧ (∀ w ∈ gWs, w.before args s = true) ∧ s.vm.findClass own = some m.cls ∧ va_K D vwCl (gT k) s
/-- ranges: of every number of a world -/
abbrev rng (r : Int × Int) (x : Int) : Prop := r.1 ≤ x ∧ x ≤ r.2
def gOk (V F : Nat → Int × Int) (v : gV) (f : gF) : Prop := (∀ j, rng (V j) (v j)) ∧ ∀ j k, rng (F j) (f j k)
/-- a kind of world: its cells, the ranges of its numbers and rows -/
abbrev gWt : Type := (gV → gF → gF → va_W) × (Nat → Int × Int) × (Nat → Int × Int)
def gWd (D : va_G) (Wd : gWt) (v : gV) (f g : gF) (H : Heap) : Prop := va_P D vwCl (Wd.1 v f g) H ∧ gOk Wd.2.1 Wd.2.2 v f
theorem gR_up {V F : Nat → Int × Int} {v : gV} {f : gF} (h : gOk V F v f) (i : Nat) {x : Int} (hx : rng (V i) x) : gOk V F (va_up v i x) f := ⟨fun j => by
  unfold va_up
  by_cases hj : j = i
  · rw [if_pos hj, hj]; exact hx
  · rw [if_neg hj]; exact h.1 j, h.2⟩
theorem u1_rng {r : Int × Int} {a : Int → Int} {e x : Int} (h : ∀ k, rng r (a k)) (hx : rng r x) : ∀ k, rng r (u1 a e x k) := fun k => by
  unfold u1
  by_cases hk : k = e
  · rw [if_pos hk]; exact hx
  · rw [if_neg hk]; exact h k
theorem gF_up {V F : Nat → Int × Int} {v : gV} {f : gF} (h : gOk V F v f) (i : Nat) {a : Int → Int} (hx : ∀ k, rng (F i) (a k)) : gOk V F v (va_up f i a) := ⟨h.1, fun j k => by
  unfold va_up
  by_cases hj : j = i
  · rw [if_pos hj, hj]; exact hx k
  · rw [if_neg hj]; exact h.2 j k⟩
theorem va_id {α : Type} (f : Nat → α) (i : Nat) : va_up f i (f i) = f := by
  funext j
  unfold va_up
  by_cases h : j = i
  · rw [if_pos h, h]
  · rw [if_neg h]
section GI
variable {p : Program} {l : Launch} {e : Env} {R : Room} {s : State} {m : MethodId} {args : Array Value} {below : List Frame} {meth : Method} {c : Code} {H : Heap} {locs : List Loc} {cells slots : Nat} {Q : State → Prop}
variable {cc : ByteArray} {pc : Nat} {ls : Array Slot} {rest : List Value} {a b z : Int}
theorem gi_add (hx : p.tables.exec = Jvm.exec) (hb : c.code = cc) (hdg : decode cc pc = .ok (.iadd, 1)) (hz : a + b = z) (k : W p l e R s m args below meth c H locs cells slots Q (F0 m (pc + 1) ls (.int (iI z) :: rest))) : W p l e R s m args below meth c H locs cells slots Q (F0 m pc ls (.int (iI b) :: .int (iI a) :: rest)) := by
  refine lv_iadd hx hb hdg ?_
  rw [iI_add, hz]; exact k
theorem gi_sub (hx : p.tables.exec = Jvm.exec) (hb : c.code = cc) (hdg : decode cc pc = .ok (.isub, 1)) (hz : a - b = z) (k : W p l e R s m args below meth c H locs cells slots Q (F0 m (pc + 1) ls (.int (iI z) :: rest))) : W p l e R s m args below meth c H locs cells slots Q (F0 m pc ls (.int (iI b) :: .int (iI a) :: rest)) := by
  refine lv_isub hx hb hdg ?_
  rw [iI_sub, hz]; exact k
theorem gi_mul (hx : p.tables.exec = Jvm.exec) (hb : c.code = cc) (hdg : decode cc pc = .ok (.imul, 1)) (hz : a * b = z) (k : W p l e R s m args below meth c H locs cells slots Q (F0 m (pc + 1) ls (.int (iI z) :: rest))) : W p l e R s m args below meth c H locs cells slots Q (F0 m pc ls (.int (iI b) :: .int (iI a) :: rest)) := by
  refine lv_imul hx hb hdg ?_
  rw [iI_mul, hz]; exact k
theorem gi_neg (hx : p.tables.exec = Jvm.exec) (hb : c.code = cc) (hdg : decode cc pc = .ok (.ineg, 1)) (hz : -a = z) (k : W p l e R s m args below meth c H locs cells slots Q (F0 m (pc + 1) ls (.int (iI z) :: rest))) : W p l e R s m args below meth c H locs cells slots Q (F0 m pc ls (.int (iI a) :: rest)) := by
  refine lv_ineg hx hb hdg ?_
  rw [iI_neg, hz]; exact k
theorem gi_and (hx : p.tables.exec = Jvm.exec) (hb : c.code = cc) (hdg : decode cc pc = .ok (.iand, 1)) (hz : iI a &&& iI b = iI z) (k : W p l e R s m args below meth c H locs cells slots Q (F0 m (pc + 1) ls (.int (iI z) :: rest))) : W p l e R s m args below meth c H locs cells slots Q (F0 m pc ls (.int (iI b) :: .int (iI a) :: rest)) := by
  refine lv_iand hx hb hdg ?_
  rw [hz]; exact k
theorem gi_or (hx : p.tables.exec = Jvm.exec) (hb : c.code = cc) (hdg : decode cc pc = .ok (.ior, 1)) (hz : iI a ||| iI b = iI z) (k : W p l e R s m args below meth c H locs cells slots Q (F0 m (pc + 1) ls (.int (iI z) :: rest))) : W p l e R s m args below meth c H locs cells slots Q (F0 m pc ls (.int (iI b) :: .int (iI a) :: rest)) := by
  refine lv_ior hx hb hdg ?_
  rw [hz]; exact k
theorem gi_ushr (hx : p.tables.exec = Jvm.exec) (hb : c.code = cc) (hdg : decode cc pc = .ok (.iushr, 1)) (hz : ((iI a).toUInt32 >>> ((iI b).toUInt32 &&& Int32.toUInt32 31)).toInt32 = iI z) (k : W p l e R s m args below meth c H locs cells slots Q (F0 m (pc + 1) ls (.int (iI z) :: rest))) : W p l e R s m args below meth c H locs cells slots Q (F0 m pc ls (.int (iI b) :: .int (iI a) :: rest)) := lv_iushr hx hb hdg hz k
theorem gi_shr (hx : p.tables.exec = Jvm.exec) (hb : c.code = cc) (hdg : decode cc pc = .ok (.ishr, 1)) (hz : iI a >>> (iI b &&& 31) = iI z) (k : W p l e R s m args below meth c H locs cells slots Q (F0 m (pc + 1) ls (.int (iI z) :: rest))) : W p l e R s m args below meth c H locs cells slots Q (F0 m pc ls (.int (iI b) :: .int (iI a) :: rest)) := by
  refine lv_ishr hx hb hdg ?_
  rw [hz]; exact k
theorem gi_shl (hx : p.tables.exec = Jvm.exec) (hb : c.code = cc) (hdg : decode cc pc = .ok (.ishl, 1)) (hz : iI a <<< (iI b &&& 31) = iI z) (k : W p l e R s m args below meth c H locs cells slots Q (F0 m (pc + 1) ls (.int (iI z) :: rest))) : W p l e R s m args below meth c H locs cells slots Q (F0 m pc ls (.int (iI b) :: .int (iI a) :: rest)) := by
  refine lv_ishl hx hb hdg ?_
  rw [hz]; exact k
theorem gi_i2b (hx : p.tables.exec = Jvm.exec) (hb : c.code = cc) (hdg : decode cc pc = .ok (.i2b, 1)) (hz : (iI a).toInt8.toInt32 = iI z) (k : W p l e R s m args below meth c H locs cells slots Q (F0 m (pc + 1) ls (.int (iI z) :: rest))) : W p l e R s m args below meth c H locs cells slots Q (F0 m pc ls (.int (iI a) :: rest)) := lv_i2b hx hb hdg hz k
theorem gi_ceq (hx : p.tables.exec = Jvm.exec) (hb : c.code = cc) {off : Int} {tgt : Nat} (hdg : decode cc pc = .ok (.if_icmp .eq off, 3)) (ht : (pc : Int) + off = (tgt : Int)) (ha : inR a) (hbb : inR b) (kt : a = b → W p l e R s m args below meth c H locs cells slots Q (F0 m tgt ls rest)) (kf : a ≠ b → W p l e R s m args below meth c H locs cells slots Q (F0 m (pc + 3) ls rest)) : W p l e R s m args below meth c H locs cells slots Q (F0 m pc ls (.int (iI b) :: .int (iI a) :: rest)) := by
  refine lv_icmp_eq hx hb hdg ht (fun q => kt ?_) (fun q => kf ?_)
  all_goals (first | simp only [iI_eq ha hbb, iI_lt ha hbb, iI_lt hbb ha, iI_le ha hbb, iI_le hbb ha, ne_eq] at q | skip)
  all_goals omega
theorem gi_zeq (hx : p.tables.exec = Jvm.exec) (hb : c.code = cc) {off : Int} {tgt : Nat} (hdg : decode cc pc = .ok (.ifCond .eq off, 3)) (ht : (pc : Int) + off = (tgt : Int)) (ha : inR a) (kt : a = 0 → W p l e R s m args below meth c H locs cells slots Q (F0 m tgt ls rest)) (kf : a ≠ 0 → W p l e R s m args below meth c H locs cells slots Q (F0 m (pc + 3) ls rest)) : W p l e R s m args below meth c H locs cells slots Q (F0 m pc ls (.int (iI a) :: rest)) := by
  have hz : inR 0 := by decide
  refine lv_if_eq hx hb hdg ht (fun q => kt ?_) (fun q => kf ?_)
  all_goals rw [iI_zero] at q
  all_goals (first | simp only [iI_eq ha hz, iI_lt ha hz, iI_lt hz ha, iI_le ha hz, iI_le hz ha, ne_eq] at q | skip)
  all_goals omega
theorem gi_cne (hx : p.tables.exec = Jvm.exec) (hb : c.code = cc) {off : Int} {tgt : Nat} (hdg : decode cc pc = .ok (.if_icmp .ne off, 3)) (ht : (pc : Int) + off = (tgt : Int)) (ha : inR a) (hbb : inR b) (kt : a ≠ b → W p l e R s m args below meth c H locs cells slots Q (F0 m tgt ls rest)) (kf : a = b → W p l e R s m args below meth c H locs cells slots Q (F0 m (pc + 3) ls rest)) : W p l e R s m args below meth c H locs cells slots Q (F0 m pc ls (.int (iI b) :: .int (iI a) :: rest)) := by
  refine lv_icmp_ne hx hb hdg ht (fun q => kt ?_) (fun q => kf ?_)
  all_goals (first | simp only [iI_eq ha hbb, iI_lt ha hbb, iI_lt hbb ha, iI_le ha hbb, iI_le hbb ha, ne_eq] at q | skip)
  all_goals omega
theorem gi_zne (hx : p.tables.exec = Jvm.exec) (hb : c.code = cc) {off : Int} {tgt : Nat} (hdg : decode cc pc = .ok (.ifCond .ne off, 3)) (ht : (pc : Int) + off = (tgt : Int)) (ha : inR a) (kt : a ≠ 0 → W p l e R s m args below meth c H locs cells slots Q (F0 m tgt ls rest)) (kf : a = 0 → W p l e R s m args below meth c H locs cells slots Q (F0 m (pc + 3) ls rest)) : W p l e R s m args below meth c H locs cells slots Q (F0 m pc ls (.int (iI a) :: rest)) := by
  have hz : inR 0 := by decide
  refine lv_if_ne hx hb hdg ht (fun q => kt ?_) (fun q => kf ?_)
  all_goals rw [iI_zero] at q
  all_goals (first | simp only [iI_eq ha hz, iI_lt ha hz, iI_lt hz ha, iI_le ha hz, iI_le hz ha, ne_eq] at q | skip)
  all_goals omega
theorem gi_clt (hx : p.tables.exec = Jvm.exec) (hb : c.code = cc) {off : Int} {tgt : Nat} (hdg : decode cc pc = .ok (.if_icmp .lt off, 3)) (ht : (pc : Int) + off = (tgt : Int)) (ha : inR a) (hbb : inR b) (kt : a < b → W p l e R s m args below meth c H locs cells slots Q (F0 m tgt ls rest)) (kf : b ≤ a → W p l e R s m args below meth c H locs cells slots Q (F0 m (pc + 3) ls rest)) : W p l e R s m args below meth c H locs cells slots Q (F0 m pc ls (.int (iI b) :: .int (iI a) :: rest)) := by
  refine lv_icmp_lt hx hb hdg ht (fun q => kt ?_) (fun q => kf ?_)
  all_goals (first | simp only [iI_eq ha hbb, iI_lt ha hbb, iI_lt hbb ha, iI_le ha hbb, iI_le hbb ha, ne_eq] at q | skip)
  all_goals omega
theorem gi_zlt (hx : p.tables.exec = Jvm.exec) (hb : c.code = cc) {off : Int} {tgt : Nat} (hdg : decode cc pc = .ok (.ifCond .lt off, 3)) (ht : (pc : Int) + off = (tgt : Int)) (ha : inR a) (kt : a < 0 → W p l e R s m args below meth c H locs cells slots Q (F0 m tgt ls rest)) (kf : 0 ≤ a → W p l e R s m args below meth c H locs cells slots Q (F0 m (pc + 3) ls rest)) : W p l e R s m args below meth c H locs cells slots Q (F0 m pc ls (.int (iI a) :: rest)) := by
  have hz : inR 0 := by decide
  refine lv_if_lt hx hb hdg ht (fun q => kt ?_) (fun q => kf ?_)
  all_goals rw [iI_zero] at q
  all_goals (first | simp only [iI_eq ha hz, iI_lt ha hz, iI_lt hz ha, iI_le ha hz, iI_le hz ha, ne_eq] at q | skip)
  all_goals omega
theorem gi_cge (hx : p.tables.exec = Jvm.exec) (hb : c.code = cc) {off : Int} {tgt : Nat} (hdg : decode cc pc = .ok (.if_icmp .ge off, 3)) (ht : (pc : Int) + off = (tgt : Int)) (ha : inR a) (hbb : inR b) (kt : b ≤ a → W p l e R s m args below meth c H locs cells slots Q (F0 m tgt ls rest)) (kf : a < b → W p l e R s m args below meth c H locs cells slots Q (F0 m (pc + 3) ls rest)) : W p l e R s m args below meth c H locs cells slots Q (F0 m pc ls (.int (iI b) :: .int (iI a) :: rest)) := by
  refine lv_icmp_ge hx hb hdg ht (fun q => kt ?_) (fun q => kf ?_)
  all_goals (first | simp only [iI_eq ha hbb, iI_lt ha hbb, iI_lt hbb ha, iI_le ha hbb, iI_le hbb ha, ne_eq] at q | skip)
  all_goals omega
theorem gi_zge (hx : p.tables.exec = Jvm.exec) (hb : c.code = cc) {off : Int} {tgt : Nat} (hdg : decode cc pc = .ok (.ifCond .ge off, 3)) (ht : (pc : Int) + off = (tgt : Int)) (ha : inR a) (kt : 0 ≤ a → W p l e R s m args below meth c H locs cells slots Q (F0 m tgt ls rest)) (kf : a < 0 → W p l e R s m args below meth c H locs cells slots Q (F0 m (pc + 3) ls rest)) : W p l e R s m args below meth c H locs cells slots Q (F0 m pc ls (.int (iI a) :: rest)) := by
  have hz : inR 0 := by decide
  refine lv_if_ge hx hb hdg ht (fun q => kt ?_) (fun q => kf ?_)
  all_goals rw [iI_zero] at q
  all_goals (first | simp only [iI_eq ha hz, iI_lt ha hz, iI_lt hz ha, iI_le ha hz, iI_le hz ha, ne_eq] at q | skip)
  all_goals omega
theorem gi_cgt (hx : p.tables.exec = Jvm.exec) (hb : c.code = cc) {off : Int} {tgt : Nat} (hdg : decode cc pc = .ok (.if_icmp .gt off, 3)) (ht : (pc : Int) + off = (tgt : Int)) (ha : inR a) (hbb : inR b) (kt : b < a → W p l e R s m args below meth c H locs cells slots Q (F0 m tgt ls rest)) (kf : a ≤ b → W p l e R s m args below meth c H locs cells slots Q (F0 m (pc + 3) ls rest)) : W p l e R s m args below meth c H locs cells slots Q (F0 m pc ls (.int (iI b) :: .int (iI a) :: rest)) := by
  refine lv_icmp_gt hx hb hdg ht (fun q => kt ?_) (fun q => kf ?_)
  all_goals (first | simp only [iI_eq ha hbb, iI_lt ha hbb, iI_lt hbb ha, iI_le ha hbb, iI_le hbb ha, ne_eq] at q | skip)
  all_goals omega
theorem gi_zgt (hx : p.tables.exec = Jvm.exec) (hb : c.code = cc) {off : Int} {tgt : Nat} (hdg : decode cc pc = .ok (.ifCond .gt off, 3)) (ht : (pc : Int) + off = (tgt : Int)) (ha : inR a) (kt : 0 < a → W p l e R s m args below meth c H locs cells slots Q (F0 m tgt ls rest)) (kf : a ≤ 0 → W p l e R s m args below meth c H locs cells slots Q (F0 m (pc + 3) ls rest)) : W p l e R s m args below meth c H locs cells slots Q (F0 m pc ls (.int (iI a) :: rest)) := by
  have hz : inR 0 := by decide
  refine lv_if_gt hx hb hdg ht (fun q => kt ?_) (fun q => kf ?_)
  all_goals rw [iI_zero] at q
  all_goals (first | simp only [iI_eq ha hz, iI_lt ha hz, iI_lt hz ha, iI_le ha hz, iI_le hz ha, ne_eq] at q | skip)
  all_goals omega
theorem gi_cle (hx : p.tables.exec = Jvm.exec) (hb : c.code = cc) {off : Int} {tgt : Nat} (hdg : decode cc pc = .ok (.if_icmp .le off, 3)) (ht : (pc : Int) + off = (tgt : Int)) (ha : inR a) (hbb : inR b) (kt : a ≤ b → W p l e R s m args below meth c H locs cells slots Q (F0 m tgt ls rest)) (kf : b < a → W p l e R s m args below meth c H locs cells slots Q (F0 m (pc + 3) ls rest)) : W p l e R s m args below meth c H locs cells slots Q (F0 m pc ls (.int (iI b) :: .int (iI a) :: rest)) := by
  refine lv_icmp_le hx hb hdg ht (fun q => kt ?_) (fun q => kf ?_)
  all_goals (first | simp only [iI_eq ha hbb, iI_lt ha hbb, iI_lt hbb ha, iI_le ha hbb, iI_le hbb ha, ne_eq] at q | skip)
  all_goals omega
theorem gi_zle (hx : p.tables.exec = Jvm.exec) (hb : c.code = cc) {off : Int} {tgt : Nat} (hdg : decode cc pc = .ok (.ifCond .le off, 3)) (ht : (pc : Int) + off = (tgt : Int)) (ha : inR a) (kt : a ≤ 0 → W p l e R s m args below meth c H locs cells slots Q (F0 m tgt ls rest)) (kf : 0 < a → W p l e R s m args below meth c H locs cells slots Q (F0 m (pc + 3) ls rest)) : W p l e R s m args below meth c H locs cells slots Q (F0 m pc ls (.int (iI a) :: rest)) := by
  have hz : inR 0 := by decide
  refine lv_if_le hx hb hdg ht (fun q => kt ?_) (fun q => kf ?_)
  all_goals rw [iI_zero] at q
  all_goals (first | simp only [iI_eq ha hz, iI_lt ha hz, iI_lt hz ha, iI_le ha hz, iI_le hz ha, ne_eq] at q | skip)
  all_goals omega
theorem gi_norm (hz : iI a = iI z) (k : W p l e R s m args below meth c H locs cells slots Q (F0 m pc ls (.int (iI z) :: rest))) : W p l e R s m args below meth c H locs cells slots Q (F0 m pc ls (.int (iI a) :: rest)) := by
  rw [hz]; exact k
end GI
theorem iL_of (x : Int64) : iL x.toInt = x := Int64.ofInt_toInt x
