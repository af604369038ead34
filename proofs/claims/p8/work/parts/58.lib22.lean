theorem seenK : ∀ a b c : Fin 2, ((iI (2 * (a.val : Int) + 4 * (b.val : Int) + 8 * (c.val : Int)) >>> (iI 1 &&& 31)) &&& iI 1 = iI (a.val : Int) ∧ (iI (2 * (a.val : Int) + 4 * (b.val : Int) + 8 * (c.val : Int)) >>> (iI 2 &&& 31)) &&& iI 1 = iI (b.val : Int) ∧ (iI (2 * (a.val : Int) + 4 * (b.val : Int) + 8 * (c.val : Int)) >>> (iI 3 &&& 31)) &&& iI 1 = iI (c.val : Int)) ∧ (iI (2 * (a.val : Int) + 4 * (b.val : Int) + 8 * (c.val : Int)) ||| (iI 1 <<< (iI 1 &&& 31)) = iI (2 * 1 + 4 * (b.val : Int) + 8 * (c.val : Int)) ∧ iI (2 * (a.val : Int) + 4 * (b.val : Int) + 8 * (c.val : Int)) ||| (iI 1 <<< (iI 2 &&& 31)) = iI (2 * (a.val : Int) + 4 * 1 + 8 * (c.val : Int)) ∧ iI (2 * (a.val : Int) + 4 * (b.val : Int) + 8 * (c.val : Int)) ||| (iI 1 <<< (iI 3 &&& 31)) = iI (2 * (a.val : Int) + 4 * (b.val : Int) + 8 * 1)) ∧ iI (2 * (a.val : Int) + 4 * (b.val : Int) + 8 * (c.val : Int)) ||| iI 0 = iI (2 * (a.val : Int) + 4 * (b.val : Int) + 8 * (c.val : Int)) := by decide +kernel
theorem fin2 {t : Int} (h : 0 ≤ t ∧ t ≤ 1) : ∃ a : Fin 2, t = (a.val : Int) := by
  rcases (show t = 0 ∨ t = 1 by omega) with rfl | rfl
  · exact ⟨0, rfl⟩
  · exact ⟨1, rfl⟩
theorem seenB {t1 t2 t3 x z xa xb : Int} (h1 : 0 ≤ t1 ∧ t1 ≤ 1) (h2 : 0 ≤ t2 ∧ t2 ≤ 1) (h3 : 0 ≤ t3 ∧ t3 ≤ 1) (hx : x = 2 * t1 + 4 * t2 + 8 * t3) (ea : iI x >>> (iI z &&& 31) = iI xa) (eb : iI xa &&& iI 1 = iI xb) (hb : 0 ≤ xb ∧ xb ≤ 1) : (z = 1 → xb = t1) ∧ (z = 2 → xb = t2) ∧ (z = 3 → xb = t3) := by
  obtain ⟨a, rfl⟩ := fin2 h1
  obtain ⟨b, rfl⟩ := fin2 h2
  obtain ⟨c, rfl⟩ := fin2 h3
  subst hx
  rw [← ea] at eb
  have k := (seenK a b c).1
  refine ⟨fun hz => ?_, fun hz => ?_, fun hz => ?_⟩ <;> subst hz
  · exact (iI_eq (by omega) (by omega)).mp (eb.symm.trans k.1)
  · exact (iI_eq (by omega) (by omega)).mp (eb.symm.trans k.2.1)
  · exact (iI_eq (by omega) (by omega)).mp (eb.symm.trans k.2.2)
theorem seenO {t1 t2 t3 x z xs y : Int} (h1 : 0 ≤ t1 ∧ t1 ≤ 1) (h2 : 0 ≤ t2 ∧ t2 ≤ 1) (h3 : 0 ≤ t3 ∧ t3 ≤ 1) (hx : x = 2 * t1 + 4 * t2 + 8 * t3) (es : iI 1 <<< (iI z &&& 31) = iI xs) (eo : iI x ||| iI xs = iI y) (hy : inR y) : (z = 1 → y = 2 * 1 + 4 * t2 + 8 * t3) ∧ (z = 2 → y = 2 * t1 + 4 * 1 + 8 * t3) ∧ (z = 3 → y = 2 * t1 + 4 * t2 + 8 * 1) := by
  obtain ⟨a, rfl⟩ := fin2 h1
  obtain ⟨b, rfl⟩ := fin2 h2
  obtain ⟨c, rfl⟩ := fin2 h3
  subst hx
  rw [← es] at eo
  have k := (seenK a b c).2.1
  refine ⟨fun hz => ?_, fun hz => ?_, fun hz => ?_⟩ <;> subst hz
  · exact (iI_eq (by omega) (by omega)).mp (eo.symm.trans k.1)
  · exact (iI_eq (by omega) (by omega)).mp (eo.symm.trans k.2.1)
  · exact (iI_eq (by omega) (by omega)).mp (eo.symm.trans k.2.2)
theorem seen0 {t1 t2 t3 x y : Int} (h1 : 0 ≤ t1 ∧ t1 ≤ 1) (h2 : 0 ≤ t2 ∧ t2 ≤ 1) (h3 : 0 ≤ t3 ∧ t3 ≤ 1) (hx : x = 2 * t1 + 4 * t2 + 8 * t3) (eo : iI x ||| iI 0 = iI y) (hy : inR y) : y = x := by
  obtain ⟨a, rfl⟩ := fin2 h1
  obtain ⟨b, rfl⟩ := fin2 h2
  obtain ⟨c, rfl⟩ := fin2 h3
  subst hx
  exact (iI_eq (by omega) (by omega)).mp (eo.symm.trans (seenK a b c).2.2)
theorem law1_t {B : Int → Int} {n p r t1 t2 t3 : Int} (h1 : tK B n p = 261 → t1 = 0) (h2 : tK B n p = 262 → t2 = 0) (h3 : tK B n p = 263 → t3 = 0) : law1 B n p r t1 t2 t3 = law1 B n p r 0 0 0 := by
  have e : law0 B n p r t1 t2 t3 = law0 B n p r 0 0 0 := by
    unfold law0
    by_cases a0 : tK B n p = 260
    · rw [if_pos a0, if_pos a0]
    · rw [if_neg a0, if_neg a0]
      by_cases a1 : tK B n p = 261
      · rw [if_pos a1, if_pos a1, h1 a1]
      · rw [if_neg a1, if_neg a1]
        by_cases a2 : tK B n p = 262
        · rw [if_pos a2, if_pos a2, h2 a2]
        · rw [if_neg a2, if_neg a2]
          by_cases a3 : tK B n p = 263
          · rw [if_pos a3, if_pos a3, h3 a3]
          · rw [if_neg a3, if_neg a3]
  unfold law1
  rw [e]
theorem law1_no {B : Int → Int} {n p r t1 t2 t3 : Int} (h : tK B n p ≠ 260 ∧ tK B n p ≠ 261 ∧ tK B n p ≠ 262 ∧ tK B n p ≠ 263) : law1 B n p r t1 t2 t3 = (fk B n p, p) := by
  unfold law1 law0
  rw [if_neg h.1, if_neg h.2.1, if_neg h.2.2.1, if_neg h.2.2.2]
  exact semi_fk
theorem law1_ag {B : Int → Int} {n p r t1 t2 t3 : Int} (h : (tK B n p = 261 ∧ t1 ≠ 0) ∨ (tK B n p = 262 ∧ t2 ≠ 0) ∨ (tK B n p = 263 ∧ t3 ≠ 0)) : law1 B n p r t1 t2 t3 = (5, p) := by
  have e : law0 B n p r t1 t2 t3 = (5, p) := by
    unfold law0
    rcases h with ⟨h, ht⟩ | ⟨h, ht⟩ | ⟨h, ht⟩
    · rw [if_neg (by omega), if_pos h, if_pos ht]
    · rw [if_neg (by omega), if_neg (by omega), if_pos h, if_pos ht]
    · rw [if_neg (by omega), if_neg (by omega), if_neg (by omega), if_pos h, if_pos ht]
  unfold law1
  rw [e]
  exact semi_bad (show (5 : Int) ≠ 0 by decide)
theorem law1_le {B : Int → Int} {n p r t1 t2 t3 : Int} (hp : p < n) : p ≤ (law1 B n p r t1 t2 t3).2 := by
  by_cases h : (law1 B n p r t1 t2 t3).1 = 0
  · have := law1_ge hp h; omega
  · have h1 := tX_up (B := B) hp
    have h0 : p ≤ (law0 B n p r t1 t2 t3).2 ∧ (law0 B n p r t1 t2 t3).2 ≤ n := by
      have a1 := rnd_ge (B := B) 4 0 (tX B n p) h1.2
      have a2 := exF_ge (B := B) 702 (tX B n p) 0 [] [] h1.2
      have a3 := kys_ge (B := B) 4 (tX B n p) h1.2
      have h2 := tX_ge (B := B) h1.2
      unfold law0 exO tie
      repeat' split
      all_goals (first | exact ⟨Int.le_refl p, Int.le_of_lt hp⟩ | omega | (constructor <;> show _ ≤ _ <;> omega))
    have h3 := tX_ge (B := B) h0.2
    unfold law1 semi
    by_cases c1 : (law0 B n p r t1 t2 t3).1 ≠ 0
    · rw [if_pos c1]; exact h0.1
    · rw [if_neg c1]
      by_cases c2 : tK B n (law0 B n p r t1 t2 t3).2 ≠ 59
      · rw [if_pos c2]; exact h0.1
      · rw [if_neg c2]; show p ≤ tX B n (law0 B n p r t1 t2 t3).2; omega
