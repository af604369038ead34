/-- what a round's law tells is as it must be -/
def shOk (n : Int) (a : Int → Int) : Prop := ∀ r, 0 ≤ r → r < n → (1 ≤ a (r * 4) ∧ a (r * 4) ≤ 5) ∧ (1 ≤ a (r * 4 + 1) ∧ a (r * 4 + 1) ≤ 9) ∧ (10 ≤ a (r * 4 + 2) ∧ a (r * 4 + 2) ≤ 999) ∧ (0 ≤ a (r * 4 + 3) ∧ a (r * 4 + 3) ≤ 999)
theorem sh0 {n r z : Int} {a : Int → Int} (hs : shOk n a) (h : z = (if (0 ≤ r ∧ r < n) ∧ 0 ≤ (0 : Int) ∧ (0 : Int) < 4 then a (r * 4 + (0 : Int)) else 0)) : 0 ≤ z ∧ z ≤ 5 := by
  rw [h]
  split
  · rename_i q
    have := (hs r q.1.1 q.1.2).1
    rw [Int.add_zero]
    omega
  · omega
theorem sh2 {n r z : Int} {a : Int → Int} (hs : shOk n a) (h : z = (if (0 ≤ r ∧ r < n) ∧ 0 ≤ (2 : Int) ∧ (2 : Int) < 4 then a (r * 4 + (2 : Int)) else 0)) : 0 ≤ z ∧ z ≤ 999 := by
  rw [h]
  split
  · rename_i q
    have := (hs r q.1.1 q.1.2).2.2.1
    omega
  · omega
theorem sh3 {n r z : Int} {a : Int → Int} (hs : shOk n a) (h : z = (if (0 ≤ r ∧ r < n) ∧ 0 ≤ (3 : Int) ∧ (3 : Int) < 4 then a (r * 4 + (3 : Int)) else 0)) : 0 ≤ z ∧ z ≤ 999 := by
  rw [h]
  split
  · rename_i q
    have := (hs r q.1.1 q.1.2).2.2.2
    omega
  · omega
theorem shR {n r b : Int} {a : Int → Int} (hs : shOk n a) (h : (0 ≤ r ∧ r < n) ∧ 0 ≤ b ∧ b < a (r * 4)) : b ≤ 4 := by
  have := (hs r h.1.1 h.1.2).1
  omega
theorem cntUp {a : Int → Int} {e n i : Int} (h : ∀ k, 0 ≤ k → k < n → a k ≤ i) (he : a e ≤ i) : ∀ k, 0 ≤ k → k < n → u1 a e (a e + 1) k ≤ i + 1 := fun k h0 h1 => by
  have := h k h0 h1
  unfold u1
  split <;> omega
theorem cntKeep {a : Int → Int} {n i : Int} (h : ∀ k, 0 ≤ k → k < n → a k ≤ i) : ∀ k, 0 ≤ k → k < n → a k ≤ i + 1 := fun k h0 h1 => by
  have := h k h0 h1
  omega
theorem gShl1 (r : Int) (h : 0 ≤ r ∧ r ≤ 5) : ∃ z : Int, iI 1 <<< (iI r &&& 31) = iI z ∧ 1 ≤ z ∧ z ≤ 32 := by
  rcases (show r = 0 ∨ r = 1 ∨ r = 2 ∨ r = 3 ∨ r = 4 ∨ r = 5 by omega) with rfl | rfl | rfl | rfl | rfl | rfl
  · exact ⟨1, by decide, by decide, by decide⟩
  · exact ⟨2, by decide, by decide, by decide⟩
  · exact ⟨4, by decide, by decide, by decide⟩
  · exact ⟨8, by decide, by decide, by decide⟩
  · exact ⟨16, by decide, by decide, by decide⟩
  · exact ⟨32, by decide, by decide, by decide⟩
