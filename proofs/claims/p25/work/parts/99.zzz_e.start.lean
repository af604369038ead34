theorem ws_fst {ws ws' : va_W} (h : ws.map (fun q => q.1) = ws'.map (fun q => q.1)) {i : Nat} {q : Nat × va_E} (hq : ws[i]? = some q) : ∃ q2, ws'[i]? = some q2 ∧ q2.1 = q.1 := by
  have h1 := congrArg (fun l => l[i]?) h
  simp only [List.getElem?_map, hq] at h1
  cases hw : ws'[i]? with
  | none => rw [hw] at h1; cases h1
  | some q2 =>
    rw [hw] at h1
    exact ⟨q2, rfl, (Option.some.inj h1).symm⟩
/-! THE CLAIM OUT OF ONE WALK OF THE LAW'S BODY. Your part is whole_start (and what it stands on); all else here is the same for every law, but numbers. -/
def lw_P (b : Addr) (xs : List Int32) (args : Array Value) (s : State) : Prop := args = #[.ref b] ∧ s.IntsAt b xs ∧ xs.length ≤ 3584 ∧ (Jvm.Cond.and given_1 narrow_1).before args s = true
def lw_Q (_ : Array Value) (s : State) (o : Outcome) (t : State) : Prop := o = .returned (some (.int 1)) ∧ Framed s o t [] 100 12380
def lw_Z (below : List Frame) (a : Array Value) (s : State) : State → Prop := fun t => ∃ o, t.status = .running ∧ Ended t below o ∧ lw_Q a s o t
/-- the law's own end, with 1 on the stack, nothing written that was there before, its room as the claim has it -/
theorem lw_ret {p : Program} {l : Launch} {e : Env} {s : State} {m : MethodId} {below : List Frame} {meth : Method} {c : Code} {b : Nat} (hx : p.tables.exec = Jvm.exec) (hb : c.code = code) (hr : meth.sig.returnType = ret) (hlocks : meth.locks = false) {pc : Nat} {H : Heap} {ls : Array Slot} (hdg : decode code pc = .ok (.ireturn, 1)) : W p l e room_1 s m #[Value.ref b] below meth c H [] 100 12380 (lw_Z below #[Value.ref b] s) (F0 m pc ls [.int 1]) := by
  intro T hT X
  obtain ⟨fs, hret, hrun, hended, hW, hframe⟩ := X.leave (v := some (.int 1)) (hlocks := hlocks) (fun h => by rw [hr] at h; cases h)
  have hmeth' : T.vm.method? m = some meth := X.method'
  refine ⟨T.setFrames fs, ?_, .returned (some (.int 1)), hrun, hended, rfl, ⟨_, rfl⟩, hW, hframe⟩
  jvm_step X.here [X.here.top, hx, hb, hdg, hmeth', hr, ret, narrow_b1]
  (try refine ⟨rfl, ?_⟩); (try refine ⟨rfl, ?_⟩)
  first | (intro acts; rw [hret _ acts rfl rfl rfl]) | rw [hret _ _ rfl rfl rfl]
  exact Steps.refl _
/-- what holds at the law's entry: the machine, the code, the tables' words (any of lw_tbl by 'hts w (by decide +kernel)'), the script of L ints xs at the cell b, what the Statement gives of the start (any of its parts by flat_of_before) -/
def lw_At (p : Program) (s : State) (m : MethodId) (meth : Method) (c : Code) (b L : Nat) (xs : Nat → Int32) : Prop :=
  p.tables.exec = Jvm.exec ∧ c.code = code ∧ meth.sig.returnType = ret ∧ c.maxLocals = 4 ∧ s.vm.findClass R_law = some m.cls ∧ (∀ w ∈ lw_tbl, w.before #[Value.ref b] s = true) ∧ va_X b L xs s s.heap ∧ b < s.heap.size ∧ meth.locks = false ∧ (Jvm.Cond.and given_1 narrow_1).before #[Value.ref b] s = true
set_option maxRecDepth 100000 in
theorem rv0_ok : gOk rwV rwF rv0 gz := by
  have h1 : ∀ j : Nat, j < 29 → rng (rwV j) (rv0 j) := by decide
  have h2 : ∀ j : Nat, j < 42 → rng (rwF j) 0 := by decide
  refine ⟨fun j => ?_, fun j k => ?_⟩
  · rcases Nat.lt_or_ge j 29 with h | h
    · exact h1 j h
    · obtain ⟨t, rfl⟩ : ∃ t : Nat, j = t + 29 := ⟨j - 29, by omega⟩
      show rng (-2147483648, 2147483647) (rv0 (t + 29))
      have e0 : rv0 (t + 29) = 0 := by
        unfold rv0
        simp only [show (t + 29 = 27) = False from eq_false (by omega), show (t + 29 = 28) = False from eq_false (by omega), if_false]
      rw [e0]
      decide
  · rcases Nat.lt_or_ge j 42 with h | h
    · exact h2 j h
    · obtain ⟨t, rfl⟩ : ∃ t : Nat, j = t + 42 := ⟨j - 42, by omega⟩
      show rng (-2147483648, 2147483647) 0
      decide
set_option maxRecDepth 100000 in
theorem mv0_ok : gOk mdV mdF mv0 gz := by
  have h1 : ∀ j : Nat, j < 28 → rng (mdV j) (mv0 j) := by decide
  have h2 : ∀ j : Nat, j < 39 → rng (mdF j) 0 := by decide
  refine ⟨fun j => ?_, fun j k => ?_⟩
  · rcases Nat.lt_or_ge j 28 with h | h
    · exact h1 j h
    · obtain ⟨t, rfl⟩ : ∃ t : Nat, j = t + 28 := ⟨j - 28, by omega⟩
      show rng (-2147483648, 2147483647) (mv0 (t + 28))
      have e0 : mv0 (t + 28) = 0 := by
        unfold mv0
        simp only [show (t + 28 = 4) = False from eq_false (by omega), show (t + 28 = 5) = False from eq_false (by omega), show (t + 28 = 23) = False from eq_false (by omega), if_false]
      rw [e0]
      decide
  · rcases Nat.lt_or_ge j 39 with h | h
    · exact h2 j h
    · obtain ⟨t, rfl⟩ : ∃ t : Nat, j = t + 39 := ⟨j - 39, by omega⟩
      show rng (-2147483648, 2147483647) 0
      decide
theorem rw_fst (k : Nat → ClassId) (ad : Nat → Nat) (v : gV) (f g : gF) (v2 : gV) (f2 g2 : gF) {i : Nat} {q : Nat × va_E} (h : (rwW k ad v f g)[i]? = some q) : ∃ q2, (rwW k ad v2 f2 g2)[i]? = some q2 ∧ q2.1 = q.1 := ws_fst (ws := rwW k ad v f g) (ws' := rwW k ad v2 f2 g2) rfl h
theorem md_fst (k : Nat → ClassId) (ad : Nat → Nat) (v : gV) (f g : gF) (v2 : gV) (f2 g2 : gF) {i : Nat} {q : Nat × va_E} (h : (mdW k ad v f g)[i]? = some q) : ∃ q2, (mdW k ad v2 f2 g2)[i]? = some q2 ∧ q2.1 = q.1 := ws_fst (ws := mdW k ad v f g) (ws' := mdW k ad v2 f2 g2) rfl h
theorem lwI0 : lwI rv0 gz mv0 gz := ⟨rfl, rfl, rfl, rfl, rfl, rfl, rfl, rfl, rfl, rfl, rfl, rfl, rfl, rfl, rfl, rfl, rfl, rfl, rfl, rfl, rfl, rfl, rfl, rfl, fun r h0 h1 => absurd h1 (by show ¬ r < 0; omega), fun r h0 h1 => absurd h1 (by show ¬ r < 0; omega), fun r h0 h1 => absurd h1 (by show ¬ r < 0; omega), ⟨fun q => absurd q (by show ¬ (0 : Int) < 0; omega), fun _ => ⟨rfl, rfl, rfl⟩⟩, fun r c r0 r1 c0 => ⟨fun c1 => absurd c1 (by show ¬ c < 0; omega), fun _ _ => rfl⟩, fun r h0 h1 => absurd h1 (by show ¬ r < 0; omega), fun r r0 r1 => rfl, ⟨fun c c0 c1 => ⟨Int.le_refl 0, Int.le_refl 0, fun q => absurd q (by show ¬ (0 : Int) < 0; omega)⟩, fun r h0 h1 => absurd h1 (by show ¬ r < 0; omega)⟩, fun r h0 h1 => absurd h1 (by show ¬ r < 0; omega), fun r h0 h1 => absurd h1 (by show ¬ r < 0; omega), fun r h0 h1 => absurd h1 (by show ¬ r < 0; omega), fun q => absurd q (by show ¬ (0 : Int) < 0; omega), fun c c0 c1 => ⟨fun c2 => absurd c2 (by show ¬ c < 0; omega), fun _ => rfl⟩, fun r h0 h1 => absurd h1 (by show ¬ r < 0; omega), fun r h0 h1 => absurd h1 (by show ¬ r < 0; omega), fun k h0 h1 => Int.le_refl 0, fun h => absurd h (by decide), fun k h0 h1 => Int.le_refl 0, rfl, fun k => rfl, rfl, rfl⟩
set_option maxHeartbeats 4000000 in
set_option maxRecDepth 100000 in
theorem whole_start {p : Program} {e : Env} {s : State} {m : MethodId} {below : List Frame} {meth : Method} {c : Code} (l : Launch) {b L : Nat} {xs : Nat → Int32} (hL : L ≤ 3584) (C0 : lw_At p s m meth c b L xs) : W p l e room_1 s m #[Value.ref b] below meth c s.heap [] 0 0 (lw_Z below #[Value.ref b] s) (entryFrame m ([Value.ref b] : List Value).toArray 4) := by
  obtain ⟨hx, hb, hr, hml, hown, hts, hX0, hbl, hlocks, hgv⟩ := id C0
  have hWs : ∀ w ∈ gWs, w.before #[Value.ref b] s = true := fun w h => hts w (gWs_tbl h)
  have hA : ∀ q : Nat, s.heap.size ≤ q → (fun q : Nat => s.heap.size ≤ q) q := fun _ h => h
  have hbA : ¬ (fun q : Nat => s.heap.size ≤ q) b := Nat.not_le.mpr hbl
  obtain ⟨za, hE⟩ : ∃ za : Nat → Nat, gEv za (fun q : Nat => s.heap.size ≤ q) s s.heap := gEv_of hgv hts (fun a h => Nat.not_le.mpr h)
  obtain ⟨X, hX, hXr⟩ : ∃ X : Nat → Int, va_X b L (fun j => iI (X j)) s s.heap ∧ ∀ j, inR (X j) := ⟨fun j => (xs j).toInt, by
    have e1 : (fun j => iI ((xs j).toInt)) = xs := funext (fun j => iI_of (xs j))
    show va_X b L (fun j => iI ((xs j).toInt)) s s.heap
    rw [e1]; exact hX0, fun j => iI_rng (xs j)⟩
  obtain ⟨c0, iS0, hKn0⟩ := u_known (C := RX0) (T := TX0) (N := 4) (n := 4) hWs gLx0 (hWs _ mT_X0)
  obtain ⟨c1, iS1, hKn1⟩ := u_known (C := RX1) (T := TX1) (N := 6) (n := 6) hWs gLx1 (hWs _ mT_X1)
  obtain ⟨c2, iS2, hKn2⟩ := u_known (C := RX2) (T := TX2) (N := 4) (n := 4) hWs gLx2 (hWs _ mT_X2)
  obtain ⟨c3, iS3, hKn3⟩ := u_known (C := RX3) (T := TX3) (N := 8) (n := 8) hWs gLx3 (hWs _ mT_X3)
  obtain ⟨c4, iS4, hKn4⟩ := u_known (C := RX4) (T := TX4) (N := 10) (n := 10) hWs gLx4 (hWs _ mT_X4)
  obtain ⟨c5, iS5, hKn5⟩ := u_known (C := RX5) (T := TX5) (N := 15) (n := 15) hWs gLx5 (hWs _ mT_X5)
  obtain ⟨c6, iS6, hKn6⟩ := u_known (C := RX6) (T := TX6) (N := 5) (n := 5) hWs gLx6 (hWs _ mT_X6)
  obtain ⟨c7, iS7, hKn7⟩ := u_known (C := RX7) (T := TX7) (N := 9) (n := 9) hWs gLx7 (hWs _ mT_X7)
  obtain ⟨c8, iS8, hKn8⟩ := u_known (C := RX8) (T := TX8) (N := 3) (n := 3) hWs gLx8 (hWs _ mT_X8)
  obtain ⟨c9, iS9, hKn9⟩ := u_known (C := RX9) (T := TX9) (N := 3) (n := 3) hWs gLx9 (hWs _ mT_X9)
  obtain ⟨c10, iS10, hKn10⟩ := u_known (C := RX10) (T := TX10) (N := 14) (n := 14) hWs gLx10 (hWs _ mT_X10)
  obtain ⟨c11, iS11, hKn11⟩ := u_known (C := RX11) (T := TX11) (N := 70) (n := 70) hWs gLx11 (hWs _ mT_X11)
  obtain ⟨dC, dI, hKc⟩ : ∃ (dC : Nat → ClassId) (dI : Nat → Nat → Nat), ∀ (k : Nat) (q : vw_C), vwCl[k]? = some q → u_Kn s q.1 q.2.1 q.2.2 (dC k) (dI k) := by
    refine ⟨fun k => [c0, c1, c2, c3, c4, c5, c6, c7, c8, c9, c10, c11].getD k c0, fun k => [iS0, iS1, iS2, iS3, iS4, iS5, iS6, iS7, iS8, iS9, iS10, iS11].getD k iS0, ?_⟩
    intro k q hq
    match k, hq with
    | 0, hq => cases hq; exact hKn0
    | 1, hq => cases hq; exact hKn1
    | 2, hq => cases hq; exact hKn2
    | 3, hq => cases hq; exact hKn3
    | 4, hq => cases hq; exact hKn4
    | 5, hq => cases hq; exact hKn5
    | 6, hq => cases hq; exact hKn6
    | 7, hq => cases hq; exact hKn7
    | 8, hq => cases hq; exact hKn8
    | 9, hq => cases hq; exact hKn9
    | 10, hq => cases hq; exact hKn10
    | 11, hq => cases hq; exact hKn11
    | k + 12, hq => simp [vwCl] at hq
  obtain ⟨cI, kI, oI, hI1, hI2, hI3⟩ := Cond.arrayClass_spec (hWs _ mA_int)
  obtain ⟨cJ, kJ, oJ, hJ1, hJ2, hJ3⟩ := Cond.arrayClass_spec (hWs _ mA_long)
  obtain ⟨cB, kB, oB, hB1, hB2, hB3⟩ := Cond.arrayClass_spec (hWs _ mA_byte)
  obtain ⟨cZ, kZ, oZ, hZ1, hZ2, hZ3⟩ := Cond.arrayClass_spec (hWs _ mA_boolean)
  obtain ⟨k, ek0, ek1, ek2, ek3⟩ : ∃ k : Nat → ClassId, k 0 = cI ∧ k 1 = cJ ∧ k 2 = cB ∧ k 3 = cZ := ⟨fun i => [cI, cJ, cB, cZ].getD i cI, rfl, rfl, rfl, rfl⟩
  subst ek0; subst ek1; subst ek2; subst ek3
  have hK : va_K (dC, dI) vwCl (gT k) s := ⟨hKc, fun i q h => by
    match i, h with
    | 0, h => cases h; exact ⟨fun n z => ⟨fun k h => (by cases h), kI, hI2, oI, hI3⟩, hI1⟩
    | 1, h => cases h; exact ⟨fun n z => ⟨fun k h => (by cases h), kJ, hJ2, oJ, hJ3⟩, hJ1⟩
    | 2, h => cases h; exact ⟨fun n z => ⟨fun k h => (by cases h), kB, hB2, oB, hB3⟩, hB1⟩
    | 3, h => cases h; exact ⟨fun n z => ⟨fun k h => (by cases h), kZ, hZ2, oZ, hZ3⟩, hZ1⟩
    | i + 4, h => simp [gT] at h⟩
  have C : gC (dC, dI) k p s m #[Value.ref b] c code R_law := ⟨hx, hb, hWs, hown, hK⟩
  have hN : gNest s := ⟨va_Nw.of rfl (hts _ (gT_1 (List.mem_of_getElem? (i := 31) rfl))), va_Nw.of rfl (hts _ (gT_1 (List.mem_of_getElem? (i := 81) rfl))), va_Nw.of rfl (hts _ (gT_1 (List.mem_of_getElem? (i := 87) rfl))), va_Nw.of rfl (hts _ (gT_1 (List.mem_of_getElem? (i := 108) rfl))), va_Nw.of rfl (hts _ (gT_1 (List.mem_of_getElem? (i := 111) rfl))), va_Nw.of rfl (hts _ (gT_1 (List.mem_of_getElem? (i := 164) rfl))), va_Nw.of rfl (hts _ (gT_1 (List.mem_of_getElem? (i := 180) rfl))), va_Nw.of rfl (hts _ (gT_1 (List.mem_of_getElem? (i := 202) rfl))), va_Nw.of rfl (hts _ (gT_2 (List.mem_of_getElem? (i := 18) rfl))), va_Nw.of rfl (hts _ (gT_2 (List.mem_of_getElem? (i := 42) rfl)))⟩
  have hS : va_S (fun q : Nat => s.heap.size ≤ q) s.heap s.heap [] := va_S.rf
  have hP : va_P (dC, dI) vwCl [] s.heap := fun k q h => by simp at h
  have hD : va_D (fun q : Nat => s.heap.size ≤ q) [] := ⟨fun i j p q h => by simp at h, fun k q h => by simp at h⟩
  have hl := lv_entry ([.ref b]) (n := 4) (Nat.le_of_ble_eq_true rfl)
  rw [lg_entry_eq]
  generalize (lg_sl ([.ref b]) ++ List.replicate (4 - (lg_sl ([.ref b])).length) Slot.unset).toArray = ls at hl ⊢
  have hl : lv_has ls 4 [(0, .ref b)] := hl
  refine va_new (D := (dC, dI)) (ci := 10) (fs := [.null, .int (iI 0), .null, .null, .null, .null, .null, .null, .null, .null, .int (iI 0), .int (iI 0), .int (iI 0), .int (iI 0)]) (C := RX10) (T := TX10) (N := 14) hx hb C.2.2.1 gLx10 tyX10 tyX10_ok C.2.2.2.1 (C.2.2.1 _ mK_L_7) (C.2.2.1 _ mT_X10) (C.2.2.1 _ mN_X10) C.2.2.2.2 hP hD hS hA rfl (fun j hj => by rcases (show j = 0 ∨ j = 1 ∨ j = 2 ∨ j = 3 ∨ j = 4 ∨ j = 5 ∨ j = 6 ∨ j = 7 ∨ j = 8 ∨ j = 9 ∨ j = 10 ∨ j = 11 ∨ j = 12 ∨ j = 13 by omega) with rfl | rfl | rfl | rfl | rfl | rfl | rfl | rfl | rfl | rfl | rfl | rfl | rfl | rfl <;> rfl) (Nat.le_of_ble_eq_true rfl) (Nat.le_of_ble_eq_true rfl) dL_law_0 (fun q0 H hP hD hS => ?_)
  have hP : va_P (dC, dI) vwCl ([] ++ [(q0, .inr (10, [.null, .int (iI 0), .null, .null, .null, .null, .null, .null, .null, .null, .int (iI 0), .int (iI 0), .int (iI 0), .int (iI 0)]))]) H := hP
  have hD : va_D (fun q : Nat => s.heap.size ≤ q) ([] ++ [(q0, .inr (10, [.null, .int (iI 0), .null, .null, .null, .null, .null, .null, .null, .null, .int (iI 0), .int (iI 0), .int (iI 0), .int (iI 0)]))]) := hD
  refine W.widen (k := 1) (n := 14) (Nat.le_of_ble_eq_true rfl) (Nat.le_of_ble_eq_true rfl) ?_
  refine lv_dup hx hb dL_law_3 rfl ?_
  refine g_cio (As := []) (rest := [.ref q0]) (n := 0) C hml (fun sz => c_X10_init l (dC, dI) k sz q0) mM_L_9 mI_X10_init mN_X10 mC_X10_init (by decide +kernel) rfl hN hP hD hS hA 0 [] rfl (wr := []) rfl (by decide) (by decide) ⟨Nat.le_of_ble_eq_true rfl, Nat.le_of_ble_eq_true rfl⟩ ⟨Nat.le_of_ble_eq_true rfl, Nat.le_of_ble_eq_true rfl⟩ hl.1 rfl rfl (Nat.le_of_ble_eq_true rfl) dL_law_4 (fun u0 H locs hP hD hS => ?_)
  have hP : va_P (dC, dI) vwCl (iX10 k q0 u0) H := hP
  have hD : va_D (fun q : Nat => s.heap.size ≤ q) (iX10 k q0 u0) := hD
  refine W.widen (k := 58) (n := 8143) (Nat.le_of_ble_eq_true rfl) (Nat.le_of_ble_eq_true rfl) ?_
  refine lv_astore_n (lv' := [(1, .ref q0), (0, .ref b)]) hx hb dL_law_7 rfl hl (by decide) rfl (fun ls hl => ?_)
  refine va_new (D := (dC, dI)) (ci := 11) (fs := [.int (iI 0), .int (iI 0), .null, .int (iI 0), .int (iI 0), .int (iI 0), .int (iI 0), .int (iI 0), .int (iI 0), .int (iI 0), .int (iI 0), .int (iI 0), .int (iI 0), .long (iL 0), .int (iI 0), .int (iI 0), .int (iI 0), .int (iI 0), .int (iI 0), .int (iI 0), .int (iI 0), .int (iI 0), .null, .null, .null, .null, .null, .null, .null, .null, .null, .null, .null, .null, .null, .null, .null, .null, .null, .int (iI 0), .int (iI 0), .null, .null, .null, .int (iI 0), .int (iI 0), .int (iI 0), .null, .null, .null, .int (iI 0), .null, .null, .null, .null, .null, .null, .null, .int (iI 0), .null, .null, .null, .null, .null, .null, .int (iI 0), .null, .null, .null, .null]) (C := RX11) (T := TX11) (N := 70) hx hb C.2.2.1 gLx11 tyX11 tyX11_ok C.2.2.2.1 (C.2.2.1 _ mK_L_10) (C.2.2.1 _ mT_X11) (C.2.2.1 _ mN_X11) C.2.2.2.2 hP hD hS hA rfl (fun j hj => by rcases (show j = 0 ∨ j = 1 ∨ j = 2 ∨ j = 3 ∨ j = 4 ∨ j = 5 ∨ j = 6 ∨ j = 7 ∨ j = 8 ∨ j = 9 ∨ j = 10 ∨ j = 11 ∨ j = 12 ∨ j = 13 ∨ j = 14 ∨ j = 15 ∨ j = 16 ∨ j = 17 ∨ j = 18 ∨ j = 19 ∨ j = 20 ∨ j = 21 ∨ j = 22 ∨ j = 23 ∨ j = 24 ∨ j = 25 ∨ j = 26 ∨ j = 27 ∨ j = 28 ∨ j = 29 ∨ j = 30 ∨ j = 31 ∨ j = 32 ∨ j = 33 ∨ j = 34 ∨ j = 35 ∨ j = 36 ∨ j = 37 ∨ j = 38 ∨ j = 39 ∨ j = 40 ∨ j = 41 ∨ j = 42 ∨ j = 43 ∨ j = 44 ∨ j = 45 ∨ j = 46 ∨ j = 47 ∨ j = 48 ∨ j = 49 ∨ j = 50 ∨ j = 51 ∨ j = 52 ∨ j = 53 ∨ j = 54 ∨ j = 55 ∨ j = 56 ∨ j = 57 ∨ j = 58 ∨ j = 59 ∨ j = 60 ∨ j = 61 ∨ j = 62 ∨ j = 63 ∨ j = 64 ∨ j = 65 ∨ j = 66 ∨ j = 67 ∨ j = 68 ∨ j = 69 by omega) with rfl | rfl | rfl | rfl | rfl | rfl | rfl | rfl | rfl | rfl | rfl | rfl | rfl | rfl | rfl | rfl | rfl | rfl | rfl | rfl | rfl | rfl | rfl | rfl | rfl | rfl | rfl | rfl | rfl | rfl | rfl | rfl | rfl | rfl | rfl | rfl | rfl | rfl | rfl | rfl | rfl | rfl | rfl | rfl | rfl | rfl | rfl | rfl | rfl | rfl | rfl | rfl | rfl | rfl | rfl | rfl | rfl | rfl | rfl | rfl | rfl | rfl | rfl | rfl | rfl | rfl | rfl | rfl | rfl | rfl <;> rfl) (Nat.le_of_ble_eq_true rfl) (Nat.le_of_ble_eq_true rfl) dL_law_8 (fun q1 H hP hD hS => ?_)
  have hP : va_P (dC, dI) vwCl (iX10 k q0 u0 ++ [(q1, .inr (11, [.int (iI 0), .int (iI 0), .null, .int (iI 0), .int (iI 0), .int (iI 0), .int (iI 0), .int (iI 0), .int (iI 0), .int (iI 0), .int (iI 0), .int (iI 0), .int (iI 0), .long (iL 0), .int (iI 0), .int (iI 0), .int (iI 0), .int (iI 0), .int (iI 0), .int (iI 0), .int (iI 0), .int (iI 0), .null, .null, .null, .null, .null, .null, .null, .null, .null, .null, .null, .null, .null, .null, .null, .null, .null, .int (iI 0), .int (iI 0), .null, .null, .null, .int (iI 0), .int (iI 0), .int (iI 0), .null, .null, .null, .int (iI 0), .null, .null, .null, .null, .null, .null, .null, .int (iI 0), .null, .null, .null, .null, .null, .null, .int (iI 0), .null, .null, .null, .null]))]) H := hP
  have hD : va_D (fun q : Nat => s.heap.size ≤ q) (iX10 k q0 u0 ++ [(q1, .inr (11, [.int (iI 0), .int (iI 0), .null, .int (iI 0), .int (iI 0), .int (iI 0), .int (iI 0), .int (iI 0), .int (iI 0), .int (iI 0), .int (iI 0), .int (iI 0), .int (iI 0), .long (iL 0), .int (iI 0), .int (iI 0), .int (iI 0), .int (iI 0), .int (iI 0), .int (iI 0), .int (iI 0), .int (iI 0), .null, .null, .null, .null, .null, .null, .null, .null, .null, .null, .null, .null, .null, .null, .null, .null, .null, .int (iI 0), .int (iI 0), .null, .null, .null, .int (iI 0), .int (iI 0), .int (iI 0), .null, .null, .null, .int (iI 0), .null, .null, .null, .null, .null, .null, .null, .int (iI 0), .null, .null, .null, .null, .null, .null, .int (iI 0), .null, .null, .null, .null]))]) := hD
  refine W.widen (k := 59) (n := 8213) (Nat.le_of_ble_eq_true rfl) (Nat.le_of_ble_eq_true rfl) ?_
  refine lv_dup hx hb dL_law_11 rfl ?_
  refine g_cio (As := []) (rest := [.ref q1]) (n := 0) C hml (fun sz => c_X11_init l (dC, dI) k sz q1) mM_L_12 mI_X11_init mN_X11 mC_X11_init (by decide +kernel) rfl hN hP hD hS hA 58 [0, 1, 2, 3, 4, 5, 6, 7, 8, 9, 10, 11, 12, 13, 14, 15, 16, 17, 18, 19, 20, 21, 22, 23, 24, 25, 26, 27, 28, 29, 30, 31, 32, 33, 34, 35, 36, 37, 38, 39, 40, 41, 42, 43, 44, 45, 46, 47, 48, 49, 50, 51, 52, 53, 54, 55, 56, 57] rfl (wr := iX10 k q0 u0) rfl (by decide) (by decide) ⟨Nat.le_of_ble_eq_true rfl, Nat.le_of_ble_eq_true rfl⟩ ⟨Nat.le_of_ble_eq_true rfl, Nat.le_of_ble_eq_true rfl⟩ hl.1 rfl rfl (Nat.le_of_ble_eq_true rfl) dL_law_12 (fun u1 H locs hP hD hS => ?_)
  obtain ⟨ad, bd, ea, eb, hPw, hDw⟩ : ∃ ad bd : Nat → Nat, ad 0 = q0 ∧ bd 0 = q1 ∧ va_P (dC, dI) vwCl (rwW k ad rv0 gz gz ++ mdW k bd mv0 gz gz) H ∧ va_D (fun q : Nat => s.heap.size ≤ q) (rwW k ad rv0 gz gz ++ mdW k bd mv0 gz gz) := ⟨fun i => match i with | 0 => q0 | i + 1 => u0 i, fun i => match i with | 0 => q1 | i + 1 => u1 i, rfl, rfl, hP, hD⟩
  subst ea; subst eb
  refine W.widen (k := 100) (n := 12380) (Nat.le_of_ble_eq_true rfl) (Nat.le_of_ble_eq_true rfl) ?_
  refine lv_astore_n (lv' := [(2, .ref (bd 0)), (1, .ref (ad 0)), (0, .ref b)]) hx hb dL_law_15 rfl hl (by decide) rfl (fun ls hl => ?_)
  refine lv_iconst (v := iI 0) hx hb dL_law_16 rfl ?_
  refine lv_istore_n (lv' := [(3, .int (iI 0)), (2, .ref (bd 0)), (1, .ref (ad 0)), (0, .ref b)]) hx hb dL_law_17 rfl hl (by decide) rfl (fun ls hl => ?_)
  have fin : ∀ (H : Heap) (locs : List Loc) (ls : Array Slot), va_S (fun q : Nat => s.heap.size ≤ q) s.heap H locs → W p l e room_1 s m #[Value.ref b] below meth c H locs 100 12380 (lw_Z below #[Value.ref b] s) (F0 m 1086 ls []) := by
    intro H locs ls hS
    refine lv_iconst (v := 1) hx hb dL_law_1086 (by decide) ?_
    refine va_forget (fun q hq => hS.2.2 q hq) ?_
    exact lw_ret hx hb hr hlocks dL_law_1087
  have hPx : va_P (dC, dI) vwCl (rwW k ad rv0 gz gz) H := hPw.sub [0, 1, 2, 3, 4, 5, 6, 7, 8, 9, 10, 11, 12, 13, 14, 15, 16, 17, 18, 19, 20, 21, 22, 23, 24, 25, 26, 27, 28, 29, 30, 31, 32, 33, 34, 35, 36, 37, 38, 39, 40, 41, 42, 43, 44, 45, 46, 47, 48, 49, 50, 51, 52, 53, 54, 55, 56, 57] rfl
  have hPm : va_P (dC, dI) vwCl (mdW k bd mv0 gz gz) H := hPw.sub [58, 59, 60, 61, 62, 63, 64, 65, 66, 67, 68, 69, 70, 71, 72, 73, 74, 75, 76, 77, 78, 79, 80, 81, 82, 83, 84, 85, 86, 87, 88, 89, 90, 91, 92, 93, 94, 95, 96, 97, 98, 99] rfl
  have hDx0 : va_D (fun q : Nat => s.heap.size ≤ q) (rwW k ad rv0 gz gz) := hDw.sub [0, 1, 2, 3, 4, 5, 6, 7, 8, 9, 10, 11, 12, 13, 14, 15, 16, 17, 18, 19, 20, 21, 22, 23, 24, 25, 26, 27, 28, 29, 30, 31, 32, 33, 34, 35, 36, 37, 38, 39, 40, 41, 42, 43, 44, 45, 46, 47, 48, 49, 50, 51, 52, 53, 54, 55, 56, 57] (by decide) rfl
  have hDm0 : va_D (fun q : Nat => s.heap.size ≤ q) (mdW k bd mv0 gz gz) := hDw.sub [58, 59, 60, 61, 62, 63, 64, 65, 66, 67, 68, 69, 70, 71, 72, 73, 74, 75, 76, 77, 78, 79, 80, 81, 82, 83, 84, 85, 86, 87, 88, 89, 90, 91, 92, 93, 94, 95, 96, 97, 98, 99] (by decide) rfl
  obtain ⟨sz, hsz⟩ : ∃ sz : Nat, H.size = sz := ⟨_, rfl⟩
  have hDx : rwD (va_A (rwW k ad rv0 gz gz) sz) k ad := fun v f g => va_D_fst (ws := rwW k ad rv0 gz gz) rfl hDx0.self
  have hDm : mdD (va_A (mdW k bd mv0 gz gz) sz) k bd := fun v f g => va_D_fst (ws := mdW k bd mv0 gz gz) rfl hDm0.self
  have hAx : ∀ q : Nat, va_A (rwW k ad rv0 gz gz) sz q → s.heap.size ≤ q := fun q h => h.elim (fun ⟨i, e, h⟩ => hDx0.2 i (q, e) h) (fun h => Nat.le_trans hS.1 (by rw [hsz]; exact h))
  have hAm : ∀ q : Nat, va_A (mdW k bd mv0 gz gz) sz q → s.heap.size ≤ q := fun q h => h.elim (fun ⟨i, e, h⟩ => hDm0.2 i (q, e) h) (fun h => Nat.le_trans hS.1 (by rw [hsz]; exact h))
  have hlen : (rwW k ad rv0 gz gz).length = 58 := rfl
  have apart : ∀ (i j : Nat) (p q : Nat × va_E), (rwW k ad rv0 gz gz)[i]? = some p → (mdW k bd mv0 gz gz)[j]? = some q → p.1 ≠ q.1 := by
    intro i j p q h1 h2 he
    have hi : i < 58 := by rw [← hlen]; exact (List.getElem?_eq_some_iff.mp h1).1
    have g1 : (rwW k ad rv0 gz gz ++ mdW k bd mv0 gz gz)[i]? = some p := by rw [List.getElem?_append_left (by rw [hlen]; exact hi)]; exact h1
    have g2 : (rwW k ad rv0 gz gz ++ mdW k bd mv0 gz gz)[58 + j]? = some q := by
      rw [List.getElem?_append_right (by rw [hlen]; omega), hlen, show 58 + j - 58 = j by omega]
      exact h2
    have := hDw.1 i (58 + j) _ _ g1 g2 he
    omega
  have hxm : ∀ (v : gV) (f g : gF) (i : Nat) (q : Nat × va_E), (mdW k bd v f g)[i]? = some q → ¬ va_A (rwW k ad rv0 gz gz) sz q.1 := by
    intro v f g i q h hz
    obtain ⟨q2, h2, e2⟩ := md_fst k bd v f g mv0 gz gz h
    rcases hz with ⟨i3, e3, h3⟩ | hz
    · exact apart i3 i _ q2 h3 h2 e2.symm
    · have := (hPm i q2 h2).lt
      omega
  have hmx : ∀ (v : gV) (f g : gF) (i : Nat) (q : Nat × va_E), (rwW k ad v f g)[i]? = some q → ¬ va_A (mdW k bd mv0 gz gz) sz q.1 := by
    intro v f g i q h hz
    obtain ⟨q2, h2, e2⟩ := rw_fst k ad v f g rv0 gz gz h
    rcases hz with ⟨i3, e3, h3⟩ | hz
    · exact apart i i3 q2 _ h2 h3 e2
    · have := (hPx i q2 h2).lt
      omega
  have hl : lv_has ls 4 [(3, .int (iI (7 * ((0 : Nat) : Int)))), (2, .ref (bd 0)), (1, .ref (ad 0)), (0, .ref b)] := hl
  have loop : ∀ (n t : Nat) (vx vm : gV) (fx gx fm gm : gF) (H : Heap) (locs : List Loc) (ls : Array Slot), L < n + 7 * t → 7 * t ≤ 4000 → lwI vx fx vm fm → gWd (dC, dI) (rwT k ad) vx fx gx H → gWd (dC, dI) (mdT k bd) vm fm gm H → va_S (fun q : Nat => s.heap.size ≤ q) s.heap H locs → lv_has ls 4 [(3, .int (iI (7 * (t : Int)))), (2, .ref (bd 0)), (1, .ref (ad 0)), (0, .ref b)] → W p l e room_1 s m #[Value.ref b] below meth c H locs 100 12380 (lw_Z below #[Value.ref b] s) (F0 m 18 ls []) := by
    intro n
    induction n with
    | zero =>
      intro t vx vm fx gx fm gm H locs ls hn ht hI hPx hPm hS hl
      refine lv_iload_n hx hb dL_law_18 rfl (lv_at hl 0 rfl) ?_
      refine lv_aload_n hx hb dL_law_19 rfl (lv_at hl 3 rfl) ?_
      refine va_slen hx hb hX hbl hbA hS dL_law_20 ?_
      rw [iI_nat]
      refine lv_bipush (v := iI 7) hx hb dL_law_21 (by decide) ?_
      refine gi_sub (z := (L : Int) - 7) hx hb dL_law_23 rfl ?_
      refine gi_cgt (tgt := 1086) hx hb dL_law_24 (by decide) (by omega) (by omega) (fun c_1 => ?_) (fun c_1 => ?_)
      · exact fin _ _ _ hS
      exfalso; omega
    | succ n ih =>
      intro t vx vm fx gx fm gm H locs ls hn ht hI hPx hPm hS hl
      refine lv_iload_n hx hb dL_law_18 rfl (lv_at hl 0 rfl) ?_
      refine lv_aload_n hx hb dL_law_19 rfl (lv_at hl 3 rfl) ?_
      refine va_slen hx hb hX hbl hbA hS dL_law_20 ?_
      rw [iI_nat]
      refine lv_bipush (v := iI 7) hx hb dL_law_21 (by decide) ?_
      refine gi_sub (z := (L : Int) - 7) hx hb dL_law_23 rfl ?_
      refine gi_cgt (tgt := 1086) hx hb dL_law_24 (by decide) (by omega) (by omega) (fun c_1 => ?_) (fun c_1 => ?_)
      · exact fin _ _ _ hS
      have back : ∀ (vx vm : gV) (fx gx fm gm : gF) (H : Heap) (locs : List Loc), lwI vx fx vm fm → gWd (dC, dI) (rwT k ad) vx fx gx H → gWd (dC, dI) (mdT k bd) vm fm gm H → va_S (fun q : Nat => s.heap.size ≤ q) s.heap H locs → W p l e room_1 s m #[Value.ref b] below meth c H locs 100 12380 (lw_Z below #[Value.ref b] s) (F0 m 1080 ls []) := by
        intro vx vm fx gx fm gm H locs hI hPx hPm hS
        refine lv_iinc (v := iI (7 * ((t + 1 : Nat) : Int))) (lv' := [(3, .int (iI (7 * ((t + 1 : Nat) : Int)))), (2, .ref (bd 0)), (1, .ref (ad 0)), (0, .ref b)]) hx hb dL_law_1080 hl (k := 0) rfl (by show iI _ + iI 7 = _; rw [iI_add]; congr 1 <;> omega) (by decide) rfl (fun ls hl => ?_)
        refine lv_goto (tgt := 18) hx hb dL_law_1083 (by decide) ?_
        exact ih (t + 1) vx vm fx gx fm gm H locs ls (by omega) (by omega) hI hPx hPm hS hl
      refine lv_aload_n hx hb dL_law_27 rfl (lv_at hl 3 rfl) ?_
      refine lv_iload_n hx hb dL_law_28 rfl (lv_at hl 0 rfl) ?_
      refine g_sld (i := 7 * t) C hX hbl hbA hS (by omega) (by omega) (by omega) dL_law_29 ?_
      refine lv_bipush (v := iI 31) hx hb dL_law_30 (by decide) ?_
      obtain ⟨j, hj, ej⟩ := pk_andE (iI (X (7 * t))) (m := iI 31) 5 (by decide)
      refine gi_and (z := (j : Int)) hx hb dL_law_32 (ej.trans (iI_nat j)) ?_
      by_cases c_10 : j = 0
      · subst c_10
        refine lv_tableIn (off := 111) (tgt := 144) hx hb dL_law_33 (by decide) (by decide) rfl (by decide) ?_
        exact law_case_0 C hml hX hXr hbl (by omega) hL hE hDx hDm hAx hAm hxm hmx hI hPx hPm hS hl back
      by_cases c_11 : j = 1
      · subst c_11
        refine lv_tableIn (off := 124) (tgt := 157) hx hb dL_law_33 (by decide) (by decide) rfl (by decide) ?_
        exact law_case_1 C hml hX hXr hbl (by omega) hL hE hDx hDm hAx hAm hxm hmx hI hPx hPm hS hl back
      by_cases c_12 : j = 2
      · subst c_12
        refine lv_tableIn (off := 187) (tgt := 220) hx hb dL_law_33 (by decide) (by decide) rfl (by decide) ?_
        exact law_case_2 C hml hX hXr hbl (by omega) hL hE hDx hDm hAx hAm hxm hmx hI hPx hPm hS hl back
      by_cases c_13 : j = 3
      · subst c_13
        refine lv_tableIn (off := 210) (tgt := 243) hx hb dL_law_33 (by decide) (by decide) rfl (by decide) ?_
        exact law_case_3 C hml hX hXr hbl (by omega) hL hE hDx hDm hAx hAm hxm hmx hI hPx hPm hS hl back
      by_cases c_14 : j = 4
      · subst c_14
        refine lv_tableIn (off := 233) (tgt := 266) hx hb dL_law_33 (by decide) (by decide) rfl (by decide) ?_
        exact law_case_4 C hml hX hXr hbl (by omega) hL hE hDx hDm hAx hAm hxm hmx hI hPx hPm hS hl back
      by_cases c_15 : j = 5
      · subst c_15
        refine lv_tableIn (off := 246) (tgt := 279) hx hb dL_law_33 (by decide) (by decide) rfl (by decide) ?_
        exact law_case_5 C hml hX hXr hbl (by omega) hL hE hDx hDm hAx hAm hxm hmx hI hPx hPm hS hl back
      by_cases c_16 : j = 6
      · subst c_16
        refine lv_tableIn (off := 321) (tgt := 354) hx hb dL_law_33 (by decide) (by decide) rfl (by decide) ?_
        exact law_case_6 C hml hX hXr hbl (by omega) hL hE hDx hDm hAx hAm hxm hmx hI hPx hPm hS hl back
      by_cases c_17 : j = 7
      · subst c_17
        refine lv_tableIn (off := 364) (tgt := 397) hx hb dL_law_33 (by decide) (by decide) rfl (by decide) ?_
        exact law_case_7 C hml hX hXr hbl (by omega) hL hE hDx hDm hAx hAm hxm hmx hI hPx hPm hS hl back
      by_cases c_18 : j = 8
      · subst c_18
        refine lv_tableIn (off := 407) (tgt := 440) hx hb dL_law_33 (by decide) (by decide) rfl (by decide) ?_
        exact law_case_8 C hml hX hXr hbl (by omega) hL hE hDx hDm hAx hAm hxm hmx hI hPx hPm hS hl back
      by_cases c_19 : j = 9
      · subst c_19
        refine lv_tableIn (off := 450) (tgt := 483) hx hb dL_law_33 (by decide) (by decide) rfl (by decide) ?_
        exact law_case_9 C hml hX hXr hbl (by omega) hL hE hDx hDm hAx hAm hxm hmx hI hPx hPm hS hl back
      by_cases c_20 : j = 10
      · subst c_20
        refine lv_tableIn (off := 509) (tgt := 542) hx hb dL_law_33 (by decide) (by decide) rfl (by decide) ?_
        exact law_case_10 C hml hX hXr hbl (by omega) hL hE hDx hDm hAx hAm hxm hmx hI hPx hPm hS hl back
      by_cases c_21 : j = 11
      · subst c_21
        refine lv_tableIn (off := 568) (tgt := 601) hx hb dL_law_33 (by decide) (by decide) rfl (by decide) ?_
        exact law_case_11 C hml hX hXr hbl (by omega) hL hE hDx hDm hAx hAm hxm hmx hI hPx hPm hS hl back
      by_cases c_22 : j = 12
      · subst c_22
        refine lv_tableIn (off := 591) (tgt := 624) hx hb dL_law_33 (by decide) (by decide) rfl (by decide) ?_
        exact law_case_12 C hml hX hXr hbl (by omega) hL hE hDx hDm hAx hAm hxm hmx hI hPx hPm hS hl back
      by_cases c_23 : j = 13
      · subst c_23
        refine lv_tableIn (off := 604) (tgt := 637) hx hb dL_law_33 (by decide) (by decide) rfl (by decide) ?_
        exact law_case_13 C hml hX hXr hbl (by omega) hL hE hDx hDm hAx hAm hxm hmx hI hPx hPm hS hl back
      by_cases c_24 : j = 14
      · subst c_24
        refine lv_tableIn (off := 637) (tgt := 670) hx hb dL_law_33 (by decide) (by decide) rfl (by decide) ?_
        exact law_case_14 C hml hX hXr hbl (by omega) hL hE hDx hDm hAx hAm hxm hmx hI hPx hPm hS hl back
      by_cases c_25 : j = 15
      · subst c_25
        refine lv_tableIn (off := 670) (tgt := 703) hx hb dL_law_33 (by decide) (by decide) rfl (by decide) ?_
        exact law_case_15 C hml hX hXr hbl (by omega) hL hE hDx hDm hAx hAm hxm hmx hI hPx hPm hS hl back
      by_cases c_26 : j = 16
      · subst c_26
        refine lv_tableIn (off := 693) (tgt := 726) hx hb dL_law_33 (by decide) (by decide) rfl (by decide) ?_
        exact law_case_16 C hml hX hXr hbl (by omega) hL hE hDx hDm hAx hAm hxm hmx hI hPx hPm hS hl back
      by_cases c_27 : j = 17
      · subst c_27
        refine lv_tableIn (off := 736) (tgt := 769) hx hb dL_law_33 (by decide) (by decide) rfl (by decide) ?_
        exact law_case_17 C hml hX hXr hbl (by omega) hL hE hDx hDm hAx hAm hxm hmx hI hPx hPm hS hl back
      by_cases c_28 : j = 18
      · subst c_28
        refine lv_tableIn (off := 799) (tgt := 832) hx hb dL_law_33 (by decide) (by decide) rfl (by decide) ?_
        exact law_case_18 C hml hX hXr hbl (by omega) hL hE hDx hDm hAx hAm hxm hmx hI hPx hPm hS hl back
      by_cases c_29 : j = 19
      · subst c_29
        refine lv_tableIn (off := 852) (tgt := 885) hx hb dL_law_33 (by decide) (by decide) rfl (by decide) ?_
        exact law_case_19 C hml hX hXr hbl (by omega) hL hE hDx hDm hAx hAm hxm hmx hI hPx hPm hS hl back
      by_cases c_30 : j = 20
      · subst c_30
        refine lv_tableIn (off := 895) (tgt := 928) hx hb dL_law_33 (by decide) (by decide) rfl (by decide) ?_
        exact law_case_20 C hml hX hXr hbl (by omega) hL hE hDx hDm hAx hAm hxm hmx hI hPx hPm hS hl back
      by_cases c_31 : j = 21
      · subst c_31
        refine lv_tableIn (off := 928) (tgt := 961) hx hb dL_law_33 (by decide) (by decide) rfl (by decide) ?_
        exact law_case_21 C hml hX hXr hbl (by omega) hL hE hDx hDm hAx hAm hxm hmx hI hPx hPm hS hl back
      by_cases c_32 : j = 22
      · subst c_32
        refine lv_tableIn (off := 961) (tgt := 994) hx hb dL_law_33 (by decide) (by decide) rfl (by decide) ?_
        exact law_case_22 C hml hX hXr hbl (by omega) hL hE hDx hDm hAx hAm hxm hmx hI hPx hPm hS hl back
      by_cases c_33 : j = 23
      · subst c_33
        refine lv_tableIn (off := 1004) (tgt := 1037) hx hb dL_law_33 (by decide) (by decide) rfl (by decide) ?_
        exact law_case_23 C hml hX hXr hbl (by omega) hL hE hDx hDm hAx hAm hxm hmx hI hPx hPm hS hl back
      refine lv_tableOut (tgt := 1080) hx hb dL_law_33 (by rw [iI_toInt ⟨by omega, by omega⟩]; omega) (by decide) ?_
      exact back _ _ _ _ _ _ _ _ hI hPx hPm hS
  exact loop (L + 1) 0 rv0 mv0 gz gz gz gz H _ ls (by omega) (by omega) lwI0 ⟨hPx, rv0_ok⟩ ⟨hPm, mv0_ok⟩ hS hl
set_option maxHeartbeats 4000000 in
theorem lw_walk (l : Launch) (b : Addr) (xs : List Int32) : MetFree l x (headSpec (Jvm.Cond.code x code maxLocals ret :: tables_1) room_1) (lw_P b xs) (fun _ _ _ _ _ => True) lw_Q := by
  refine MetFree.of_bodyS (code := code) (maxLocals := maxLocals) (ret := ret) (by decide) ?_ ?_
  · intro args s m h hn
    obtain ⟨meth, c, h1, h2, h3, h4, h5, h6, -, -⟩ := Cond.code_spec hn (atoms_spec (ws := Jvm.Cond.code x code maxLocals ret :: tables_1) h _ List.mem_cons_self)
    exact ⟨meth, c, h1, h2, h3, h4, h5, h6⟩
  · intro p e s m args below meth c s₁ B hml0 hP _
    obtain ⟨rfl, hx, hbd, hgv⟩ := hP
    obtain ⟨scr, harrAt, hlist, hof, hsmall⟩ := hx
    obtain ⟨hcb, hkn, -, -⟩ := State.arrayAt?_spec harrAt
    have hown : s.vm.findClass R_law = some m.cls := findClass_of_methodNamed B.named
    have hts0 : ∀ c ∈ (Jvm.Cond.code x code maxLocals ret :: tables_1), c.before #[Value.ref b] s = true := atoms_spec (ws := Jvm.Cond.code x code maxLocals ret :: tables_1) B.pre
    have hts : ∀ w ∈ lw_tbl, w.before #[Value.ref b] s = true := k2_hts_sels lw_privs (fun w hw => hts0 w (List.mem_cons_of_mem _ hw)) lw_privs_ok
    have hml : c.maxLocals = 4 := B.maxLocals_eq (hts0 _ List.mem_cons_self)
    have X₀ : Stand p l e room_1 s m #[Value.ref b] below meth c s₁ [] 0 0 := Stand.of_body B
    have hh0 : s₁.heap = s.heap := by rw [B.state]; rfl
    have hsz : scr.slots.size = xs.length := by rw [← Array.length_toList, hlist, List.length_map]
    have hval : ∀ j : Nat, j < xs.length → scr.slots[j]? = some (.int (xs.getD j 0)) := fun j hj => by
      rw [← Array.getElem?_toList, hlist]
      simp [hj]
    have hbl : b < s.heap.size := (Array.getElem?_eq_some_iff.mp hcb).1
    have hX : va_X b xs.length (fun j => xs.getD j 0) s s.heap := ⟨scr, hcb, hof, hkn, hsz, hval⟩
    have K : W p l e room_1 s m #[Value.ref b] below meth c s₁.heap [] 0 0 (lw_Z below #[Value.ref b] s) (entryFrame m ([Value.ref b] : List Value).toArray 4) := by
      rw [hh0]
      exact whole_start l hbd ⟨B.exec, B.bytes, B.returns, hml, hown, hts, hX, hbl, B.notSynchronized, hgv⟩
    obtain ⟨t, a1, o, b1, b2, b3⟩ := K s₁ rfl X₀
    exact ⟨t, o, a1, b1, b2, b3⟩
theorem lw_pre_spec {args : Array Value} {s : State} (h : (Jvm.Cond.and given_1 narrow_1).before args s = true) (hr : rest_1_c.before args s = true) : ∃ (b : Addr) (xs : List Int32), lw_P b xs args s := by
  have hs := flat_of_before _ h
  have hq := flat_of_before _ hr
  have hc : (Cond.count 1).before args s = true := hs _ (by decide +kernel)
  have harr : (Cond.arrayOf (.arg 0) .int).before args s = true := hs _ (by decide +kernel)
  have hle : (Cond.le (.length (.arg 0)) (.int 3584)).before args s = true := hs _ (by decide +kernel)
  have hlen : (Cond.isInt (.length (.arg 0))).before args s = true := hq _ (by decide +kernel)
  have hall : (Cond.all (.arg 0) (.isInt (.elem (.arg 0) (.index 0)))).before args s = true := hq _ (by decide +kernel)
  obtain ⟨b, xs, hb, hx⟩ := State.ints_of_pre rfl harr hlen hall
  have hsm : xs.length < 2 ^ 31 := hx.choose_spec.2.2.2
  have hev : (Term.length (.arg 0)).eval args s none [] s = some (.int xs.length.toInt32) := hx.length_eval hb
  have hv := Cond.le_ints hev (show (Term.int 3584).eval args s none [] s = some (.int 3584) from rfl)
  have hd : xs.length.toInt32 ≤ 3584 := by
    simpa [Cond.before, Cond.holds, hv] using hle
  have hN : xs.length ≤ 3584 := (Int32.ofNat_le_ofNat hsm (by decide)).mp (show Int32.ofNat xs.length ≤ Int32.ofNat 3584 from hd)
  exact ⟨b, xs, Cond.one_arg hc (show args[0]? = some (.ref b) from hb), hx, hN, h⟩
theorem lw_comes (l : Launch) : Comes l x (Jvm.Cond.code x code maxLocals ret :: tables_1) room_1 (fun tb e args s => Calls_1 tb e args s ∧ rest_1 tb e args s ∧ Pre_1 tb e args s)
    (fun _ _ args s o t => lw_Q args s o t) := by
  intro p e ha hc hk s m args below hf hfit hheap happ hpre
  obtain ⟨b, xs, hP⟩ := lw_pre_spec hpre.2.2 hpre.2.1
  obtain ⟨k, o, h1, h2, h3, hQ⟩ := lw_walk l b xs p e ha hc hk s m args below hf ((Spec.applies_iff_loose hf).mp happ).1 hP trivial
  exact ⟨k, o, h1, h2, h3, hQ⟩
theorem lw_frame {s t : State} {o : Outcome} {args : Array Value} (h : Framed s o t [] 100 12380) :
    Framed s o t (fieldLocs frame_1_writes args s ++ arrayLocs frame_1_arrays args s ++ staticLocs frame_1_statics s) 100 12380 := h
theorem lw_limb (L : Cond) (hL : ∀ (args : Array Value) (s t : State), L.after args s (.returned (some (.int 1))) t = true) :
    ArmFor flags0 classFile x code maxLocals ret World_1 tables_1 room_1 Calls_1 rest_1 Pre_1
      (fun tb e a s o t => postC L tb e a s o t ∧ Framed s o t (fieldLocs frame_1_writes a s ++ arrayLocs frame_1_arrays a s ++ staticLocs frame_1_statics s) 100 12380) := by
  intro l _ _ _ p e ha hc hk s m args below hf hfit hheap happ hpre
  obtain ⟨k, o, h1, h2, h3, rfl, hF⟩ := lw_comes l p e ha hc hk s m args below hf hfit hheap happ hpre
  exact ⟨k, _, h1, h2, h3, hL args s _, lw_frame hF⟩
theorem i_vc : Claimed_1_1 ∧ Claimed_1_2 := ⟨lw_limb limb_1_1 (fun args s t => by simp [limb_1_1, Cond.after, Cond.holds, Cond.value]), lw_limb limb_1_2 (fun args s t => Cond.after_iff.mpr (by
  first | (rw [show limb_1_2 = Cond.eq .result (.int 1) from rfl, Cond.eq_ints (x := 1) (y := 1) rfl rfl]; simp; done) | (simp [limb_1_2, Cond.value, Term.eval]; done)))⟩

