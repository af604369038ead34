theorem gAnd255 {a : Int} (h : inR a) : iI a &&& iI 255 = iI (a % 256) := by
  rw [pk_and (iI a) (m := iI 255) 8 (by decide)]
  have e : ((iI a).toBitVec.toNat : Int) = a % 4294967296 := by
    show ((BitVec.ofInt 32 a).toNat : Int) = a % 4294967296
    rw [BitVec.toNat_ofInt]
    omega
  rw [show nI ((iI a).toBitVec.toNat % 2 ^ 8) = iI (((iI a).toBitVec.toNat % 2 ^ 8 : Nat) : Int) from iI_nat _]
  congr 1
  omega
theorem cn_pos {p : Int → Bool} (i : Nat) (hp : p (i : Int) = true) : ∀ m : Nat, i < m → 1 ≤ cn p m
  | 0, h => absurd h (Nat.not_lt_zero i)
  | m + 1, h => by
    have r := cn_rng p m
    show 1 ≤ cn p m + (if p (m : Int) then 1 else 0)
    rcases Nat.lt_or_ge i m with q | q
    · have ih := cn_pos i hp m q
      split <;> omega
    · have e : i = m := by omega
      subst e
      rw [if_pos hp]
      omega
theorem wP_pos {w : Int → Int} {i m : Int} (h0 : 0 ≤ i) (h1 : i < m) (h : w i = 11) : 1 ≤ wP w m := by
  obtain ⟨j, rfl⟩ : ∃ j : Nat, i = (j : Int) := ⟨i.toNat, by omega⟩
  exact cn_pos (p := fun j => decide (w j = 11)) j (decide_eq_true h) m.toNat (by omega)
