/-- how deep the pile is behind i items of a code -/
def rdp (a : Int → Int) : Nat → Int
  | 0 => 0
  | i + 1 => rdp a i + (if a (i : Int) < 7 then 1 else if a (i : Int) = 10 then 0 else -1)
/-- a code that can be worked: each item finds what it needs -/
def rpOk (n : Int) (a : Int → Int) : Prop := (1 ≤ rdp a n.toNat) ∧ ∀ i : Nat, (i : Int) < n → (a (i : Int) = 10 → 1 ≤ rdp a i) ∧ (7 ≤ a (i : Int) → a (i : Int) ≠ 10 → 2 ≤ rdp a i)
theorem rpStep {n : Int} {a : Int → Int} (h : rpOk n a) (i : Int) (h0 : 0 ≤ i) (h1 : i < n) : (a i < 7 → rdp a (i + 1).toNat = rdp a i.toNat + 1) ∧ (a i = 10 → 1 ≤ rdp a i.toNat ∧ rdp a (i + 1).toNat = rdp a i.toNat) ∧ ((7 ≤ a i ∧ a i ≠ 10) → 2 ≤ rdp a i.toNat ∧ rdp a (i + 1).toNat = rdp a i.toNat - 1) := by
  obtain ⟨j, rfl⟩ : ∃ j : Nat, i = (j : Int) := ⟨i.toNat, by omega⟩
  have e1 : ((j : Int) + 1).toNat = j + 1 := by omega
  have e2 : ((j : Int)).toNat = j := by omega
  rw [e1, e2]
  have e3 : rdp a (j + 1) = rdp a j + (if a (j : Int) < 7 then 1 else if a (j : Int) = 10 then 0 else -1) := rfl
  have h2 := h.2 j h1
  refine ⟨fun q => ?_, fun q => ?_, fun q => ?_⟩
  · rw [e3, if_pos q]
  · refine ⟨h2.1 q, ?_⟩
    rw [e3, if_neg (by omega), if_pos q]
    omega
  · refine ⟨h2.2 q.1 q.2, ?_⟩
    rw [e3, if_neg (by omega), if_neg q.2]
    omega
