/-- how many of the first m -/
def cn (p : Int → Bool) : Nat → Int
  | 0 => 0
  | m + 1 => cn p m + (if p (m : Int) then 1 else 0)
theorem cn_rng (p : Int → Bool) : ∀ m : Nat, 0 ≤ cn p m ∧ cn p m ≤ m
  | 0 => ⟨Int.le_refl 0, Int.le_refl 0⟩
  | m + 1 => by
    have h := cn_rng p m
    show 0 ≤ cn p m + (if p (m : Int) then 1 else 0) ∧ cn p m + (if p (m : Int) then 1 else 0) ≤ ((m + 1 : Nat) : Int)
    split <;> omega
theorem cn_congr {p q : Int → Bool} : ∀ m : Nat, (∀ j : Nat, j < m → p (j : Int) = q (j : Int)) → cn p m = cn q m
  | 0, _ => rfl
  | m + 1, h => by
    show cn p m + (if p (m : Int) then 1 else 0) = cn q m + (if q (m : Int) then 1 else 0)
    rw [cn_congr m (fun j hj => h j (by omega)), h m (by omega)]
theorem cn_zero {p : Int → Bool} : ∀ m : Nat, (∀ j : Nat, j < m → p (j : Int) = false) → cn p m = 0
  | 0, _ => rfl
  | m + 1, h => by
    show cn p m + (if p (m : Int) then 1 else 0) = 0
    rw [cn_zero m (fun j hj => h j (by omega)), h m (by omega)]
    rfl
theorem cn_hit {p q : Int → Bool} (c : Nat) (hp : p (c : Int) = false) (hq : q (c : Int) = true) (h : ∀ j : Nat, j ≠ c → p (j : Int) = q (j : Int)) : ∀ m : Nat, c < m → cn q m = cn p m + 1 ∧ cn p m ≤ m - 1
  | 0, hm => absurd hm (Nat.not_lt_zero c)
  | m + 1, hm => by
    show cn q m + (if q (m : Int) then 1 else 0) = cn p m + (if p (m : Int) then 1 else 0) + 1 ∧ cn p m + (if p (m : Int) then 1 else 0) ≤ ((m + 1 : Nat) : Int) - 1
    rcases Nat.lt_or_ge c m with hc | hc
    · have ih := cn_hit c hp hq h m hc
      rw [h m (by omega)]
      split <;> omega
    · have e1 : m = c := by omega
      subst e1
      have e2 : cn p m = cn q m := cn_congr m (fun j hj => h j (by omega))
      have e3 := cn_rng p m
      rw [hp, hq, e2]
      rw [e2] at e3
      simp
      omega
def cP (a : Int → Int) (r t c : Int) (j : Int) : Bool := decide ((r < a j ∧ a j ≤ t) ∨ (a j = r ∧ c < j))
theorem cP_hit {a : Int → Int} {r t c m : Int} (h0 : 0 ≤ c) (h1 : c < m) (ha : a c = r) : cn (cP a r t (c + (-1))) m.toNat = cn (cP a r t c) m.toNat + 1 ∧ cn (cP a r t c) m.toNat ≤ m - 1 := by
  obtain ⟨c0, rfl⟩ : ∃ j : Nat, c = (j : Int) := ⟨c.toNat, by omega⟩
  have h := cn_hit (p := cP a r t (c0 : Int)) (q := cP a r t ((c0 : Int) + (-1))) c0 (decide_eq_false (by omega)) (decide_eq_true (by omega)) (fun j hj => by
    unfold cP
    exact decide_eq_decide.mpr ⟨fun q => by omega, fun q => by omega⟩) m.toNat (by omega)
  omega
theorem cP_skip {a : Int → Int} {r t c : Int} (ha : a c ≠ r) (n : Nat) : cn (cP a r t (c + (-1))) n = cn (cP a r t c) n := by
  refine cn_congr n (fun j _ => ?_)
  unfold cP
  refine decide_eq_decide.mpr ⟨fun q => ?_, fun q => by omega⟩
  rcases q with q | q
  · exact Or.inl q
  · rcases (show (j : Int) = c ∨ c < (j : Int) by omega) with e | e
    · rw [e] at q; exact absurd q.1 ha
    · exact Or.inr ⟨q.1, e⟩
theorem cP_next {a : Int → Int} {r t m : Int} (hr : r ≤ t) : cn (cP a r t (-1)) m.toNat = cn (cP a (r + (-1)) t (m - 1)) m.toNat := by
  refine cn_congr _ (fun j hj => ?_)
  unfold cP
  exact decide_eq_decide.mpr ⟨fun q => by omega, fun q => by omega⟩
theorem cP_start (a : Int → Int) (t m : Int) : cn (cP a t t (m - 1)) m.toNat = 0 := by
  refine cn_zero _ (fun j hj => decide_eq_false ?_)
  omega
