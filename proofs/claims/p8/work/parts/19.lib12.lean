/-! a law of a round on its way; the static rows -/
theorem gE_cl {a : Int} (h0 : 0 ≤ a) (h1 : a ≤ 2147483647) : (iI a).toNatClampNeg = a.toNat := by
  have := iI_cl h0 h1
  omega
theorem gElo_r (j : Nat) : 0 ≤ gElo j ∧ gElo j ≤ 999 := by
  match j with
  | 0 => decide
  | 1 => decide
  | 2 => decide
  | 3 => decide
  | j + 4 => simp [gElo]
theorem gEhi_r (j : Nat) : 0 ≤ gEhi j ∧ gEhi j ≤ 999 := by
  match j with
  | 0 => decide
  | 1 => decide
  | 2 => decide
  | 3 => decide
  | j + 4 => simp [gEhi]
def shPart (n : Int) (a : Int → Int) (x : Int) : Prop := ∀ j : Nat, (j : Int) < x → gElo j ≤ a (n * 4 + (j : Int)) ∧ a (n * 4 + (j : Int)) ≤ gEhi j
theorem shPart0 {n : Int} {a : Int → Int} : shPart n a 0 := fun j h => by omega
theorem sh00 {a : Int → Int} : shOk 0 a := fun r h0 h1 => by omega
theorem shBack {n x y : Int} {a : Int → Int} (h : shOk n a ∧ shPart n a x) (hx : 0 ≤ x ∧ x < 4) (hlo : gElo x.toNat ≤ y) (hhi : y ≤ gEhi x.toNat) : shOk n (u1 a (n * 4 + x) y) ∧ shPart n (u1 a (n * 4 + x) y) (x + 1) := by
  refine ⟨fun r h0 h1 => ?_, fun j hj => ?_⟩
  · rw [u1_n (by omega), u1_n (by omega), u1_n (by omega), u1_n (by omega)]
    exact h.1 r h0 h1
  · by_cases e : (j : Int) = x
    · have e2 : x.toNat = j := by omega
      rw [e, u1_s]
      rw [e2] at hlo hhi
      exact ⟨hlo, hhi⟩
    · rw [u1_n (by omega)]
      exact h.2 j (by omega)
theorem shNew {n x : Int} {a : Int → Int} (h : shOk n a ∧ shPart n a x) (hx : 4 ≤ x) : shOk (n + 1) a := fun r h0 h1 => by
  by_cases e : r = n
  · subst e
    have q0 := h.2 0 (by omega)
    have q1 := h.2 1 (by omega)
    have q2 := h.2 2 (by omega)
    have q3 := h.2 3 (by omega)
    have e0 : gElo 0 = 1 ∧ gEhi 0 = 5 ∧ gElo 1 = 1 ∧ gEhi 1 = 9 ∧ gElo 2 = 10 ∧ gEhi 2 = 999 ∧ gElo 3 = 0 ∧ gEhi 3 = 999 := by decide
    have e1 : r * 4 + ((0 : Nat) : Int) = r * 4 := by omega
    have e2 : r * 4 + ((1 : Nat) : Int) = r * 4 + 1 := by omega
    have e3 : r * 4 + ((2 : Nat) : Int) = r * 4 + 2 := by omega
    have e4 : r * 4 + ((3 : Nat) : Int) = r * 4 + 3 := by omega
    rw [e1] at q0
    rw [e2] at q1
    rw [e3] at q2
    rw [e4] at q3
    exact ⟨⟨by omega, by omega⟩, ⟨by omega, by omega⟩, ⟨by omega, by omega⟩, ⟨by omega, by omega⟩⟩
  · exact h.1 r h0 (by omega)
theorem shCpy {n : Int} {a b : Int → Int} (h : shOk n a) (hn : n ≤ 4) : shOk n (gcpy 16 a b) := fun r h0 h1 => by
  have q := h r h0 h1
  have e : ∀ k, 0 ≤ k → k < 16 → gcpy 16 a b k = a k := fun k k0 k1 => if_pos ⟨k0, k1⟩
  rw [e _ (by omega) (by omega), e _ (by omega) (by omega), e _ (by omega) (by omega), e _ (by omega) (by omega)]
  exact q
theorem bgClear {a : Int → Int} : ∀ k, 0 ≤ k → k < 20 → gfill a 20 0 k ≤ 0 := fun k h0 h1 => by
  have e : gfill a 20 0 k = 0 := if_pos ⟨h0, h1⟩
  omega
