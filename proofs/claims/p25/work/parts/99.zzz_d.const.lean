theorem gM_l : ∀ j : Nat, j < 4 → Cond.eq (.elem (.static "RouteWall" "SHAPE_LEAST" "[I") (.int (Int32.ofNat j))) (.int (iI (gElo j))) ∈ flatC (Jvm.Cond.and given_1 narrow_1) := by decide +kernel
theorem gM_g : ∀ j : Nat, j < 4 → Cond.eq (.elem (.static "RouteWall" "SHAPE_GREATEST" "[I") (.int (Int32.ofNat j))) (.int (iI (gEhi j))) ∈ flatC (Jvm.Cond.and given_1 narrow_1) := by decide +kernel
theorem gM_t : ∀ j : Nat, j < 97 → Cond.eq (.elem (.field (.string "RouteWall$Tokens" 52) "java/lang/String" "value" "[B") (.int (Int32.ofNat j))) (.int (gEby.getD j 0)) ∈ flatC (Jvm.Cond.and given_1 narrow_1) := by decide +kernel
theorem gEv_of {b : Nat} {s : State} {A : Nat → Prop} (hgv : (Jvm.Cond.and given_1 narrow_1).before #[Value.ref b] s = true) (hts : ∀ w ∈ lw_tbl, w.before #[Value.ref b] s = true) (hA : ∀ a : Nat, a < s.heap.size → ¬ A a) : ∃ za : Nat → Nat, gEv za A s s.heap := by
  have hs := flat_of_before _ hgv
  obtain ⟨tl, el, Tl⟩ := va_Tof (tm := (.static "RouteWall" "SHAPE_LEAST" "[I")) (ty := .int) (N := 4) (f := fun j => .int (iI (gElo j))) (A := A) (by decide) (hs _ (by decide +kernel)) (va_eqt (hs (Cond.eq (.length (.static "RouteWall" "SHAPE_LEAST" "[I")) (.int (Int32.ofNat 4))) (by decide +kernel))) (fun j hj => va_eqt (hs _ (gM_l j hj))) hA
  have zl := va_Zref (hts _ (gT_3 (List.mem_of_getElem? (i := 64) rfl))) (hts _ (gT_1 (List.mem_of_getElem? (i := 1) rfl))) el hA
  obtain ⟨tg, eg, Tg⟩ := va_Tof (tm := (.static "RouteWall" "SHAPE_GREATEST" "[I")) (ty := .int) (N := 4) (f := fun j => .int (iI (gEhi j))) (A := A) (by decide) (hs _ (by decide +kernel)) (va_eqt (hs (Cond.eq (.length (.static "RouteWall" "SHAPE_GREATEST" "[I")) (.int (Int32.ofNat 4))) (by decide +kernel))) (fun j hj => va_eqt (hs _ (gM_g j hj))) hA
  have zg := va_Zref (hts _ (gT_3 (List.mem_of_getElem? (i := 66) rfl))) (hts _ (gT_1 (List.mem_of_getElem? (i := 1) rfl))) eg hA
  have zc := va_Zof (v := .int (iI 1)) (hts _ (gT_2 (List.mem_of_getElem? (i := 214) rfl))) (hts _ (gT_1 (List.mem_of_getElem? (i := 13) rfl))) (va_eqt (hs (Cond.eq (.static "java/lang/String" "COMPACT_STRINGS" "Z") (.int 1)) (by decide +kernel))) hA
  obtain ⟨aK, aV, hSt, hev⟩ := vk_Sof (args := #[Value.ref b]) (s := s) (N := 1) (tm := fun _ => .string "RouteWall$Tokens" 52) (len := [97]) (byt := [gEby]) (A := A) (fun i hi => by cases i with | zero => decide | succ i => omega) (fun i hi => hs _ (by decide +kernel)) (fun i hi => hs _ (by decide +kernel)) (fun i hi => hs _ (by decide +kernel)) (fun i hi => by
    cases i with
    | zero => exact hs (Cond.eq (.length (.field (.string "RouteWall$Tokens" 52) "java/lang/String" "value" "[B")) (.int (Int32.ofNat 97))) (by decide +kernel)
    | succ i => omega) (fun i hi j hj => by
    cases i with
    | zero => exact hs _ (gM_t j hj)
    | succ i => omega) (fun i j hi hj h => by omega) hA
  have hS1 : vk_S 1 [97] [gEby] (fun _ => aK 0) (fun _ => aV 0) A s s.heap := ⟨fun i hi => by
    cases i with
    | zero => exact hSt.1 0 hi
    | succ i => omega, fun i j hi hj _ => by omega⟩
  have hR := vk_R.of (A := #[Value.ref b]) (hts (Cond.stringRef "RouteWall$Tokens" 52 gEtx) (gT_2 (List.mem_of_getElem? (i := 204) rfl))) (hev 0 (by decide))
  have zq := va_Zqof (hts _ (gT_2 (List.mem_of_getElem? (i := 230) rfl))) (hts _ (gT_1 (List.mem_of_getElem? (i := 15) rfl))) (hs (Cond.isRef (.static "jdk/internal/util/Preconditions" "SIOOBE_FORMATTER" "Ljava/util/function/BiFunction;")) (by decide +kernel)) hA
  have n106 : va_Nw (.fieldLinkNest "RouteWall$LawReader" 106 "RouteWall" "SHAPE_LEAST" "[I" "RouteWall") s := va_Nw.of rfl (hts _ (gT_3 (List.mem_of_getElem? (i := 63) rfl)))
  have n110 : va_Nw (.fieldLinkNest "RouteWall$LawReader" 110 "RouteWall" "SHAPE_GREATEST" "[I" "RouteWall") s := va_Nw.of rfl (hts _ (gT_3 (List.mem_of_getElem? (i := 65) rfl)))
  exact ⟨fun i => [tl, tg, aK 0, aV 0].getD i 0, zl, Tl, zg, Tg, zc, hS1, zq, hR, n106, n110⟩
