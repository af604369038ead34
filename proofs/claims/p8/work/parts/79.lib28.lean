theorem gif1o {P : Prop} {z : Int} (h : (z = 1 ∧ P) ∨ (z = 0 ∧ ¬ P)) (hz : z ≠ 0) : z = 1 := h.elim (fun q => q.1) (fun q => absurd q.1 hz)
theorem cn_mono {p : Int → Bool} {x : Int} (h : 0 ≤ x) : cn p x.toNat ≤ cn p (x + 1).toNat := by
  by_cases hp : p x = true
  · rw [cn_y h hp]; omega
  · rw [cn_n h (by simpa using hp)]; omega
def mcG (x : Int) : Int := if x = 0 then 6 else if x ≤ 6 then x - 1 else if x ≤ 10 then x else 9
theorem mcG_r {x : Int} (h : 0 ≤ x ∧ x ≤ 11) : 0 ≤ mcG x ∧ mcG x ≤ 11 := by unfold mcG; (repeat' split) <;> omega
theorem mcG_c (x : Int) : (x = 0 → mcG x = 6) ∧ (1 ≤ x ∧ x ≤ 6 → mcG x = x - 1) ∧ (7 ≤ x ∧ x ≤ 10 → mcG x = x) ∧ (10 < x → mcG x = 9) := by
  unfold mcG
  refine ⟨fun h => if_pos h, fun h => ?_, fun h => ?_, fun h => ?_⟩
  · rw [if_neg (by omega), if_pos (by omega)]
  · rw [if_neg (by omega), if_neg (by omega), if_pos (by omega)]
  · rw [if_neg (by omega), if_neg (by omega), if_neg (by omega)]
