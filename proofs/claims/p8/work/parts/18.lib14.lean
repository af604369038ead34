/-! tokens by their first place -/
def tE (B : Int → Int) (n q : Int) : Int := if q < n then (if pL (B q) then run bL B n q else if pD (B q) then run bD B n q else q + 1) else q
def tX (B : Int → Int) (n q : Int) : Int := run bW B n (tE B n q)
def nV (B : Int → Int) (q : Int) : Nat → Int
  | 0 => 0
  | k + 1 => if k < 6 then 10 * nV B q k + B (q + (k : Int)) - 48 else nV B q k
def tV (B : Int → Int) (n q : Int) : Int := if q < n ∧ pD (B q) then nV B q (run bD B n q - q).toNat else 0
def tK (B : Int → Int) (n q : Int) : Int := if q < n then (if pL (B q) then wK B q (run bL B n q) else if pD (B q) then (if 6 < run bD B n q - q then 257 else 258) else if pS (B q) then B q else 257) else 256
section TT
variable {B : Int → Int} {n q : Int}
theorem tE_L (h : q < n) (hl : pL (B q)) : tE B n q = run bL B n q := by unfold tE; rw [if_pos h, if_pos hl]
theorem tE_D (h : q < n) (hl : pD (B q)) : tE B n q = run bD B n q := by unfold tE; rw [if_pos h, if_neg (by omega), if_pos hl]
theorem tE_S (h : q < n) (h1 : ¬ pL (B q)) (h2 : ¬ pD (B q)) : tE B n q = q + 1 := by unfold tE; rw [if_pos h, if_neg h1, if_neg h2]
theorem tE_N (h : n ≤ q) : tE B n q = q := by unfold tE; rw [if_neg (by omega)]
theorem tE_up (h : q < n) : q + 1 ≤ tE B n q ∧ tE B n q ≤ n := by
  by_cases h1 : pL (B q)
  · rw [tE_L h h1, runL_step h h1]
    have := runL_spec B n (q + 1)
    exact ⟨this.1, this.2.1 (by omega)⟩
  · by_cases h2 : pD (B q)
    · rw [tE_D h h2, runD_step h h2]
      have := runD_spec B n (q + 1)
      exact ⟨this.1, this.2.1 (by omega)⟩
    · rw [tE_S h h1 h2]
      omega
theorem tX_up (h : q < n) : q + 1 ≤ tX B n q ∧ tX B n q ≤ n := by
  have h1 := tE_up (B := B) h
  have h2 := runW_spec B n (tE B n q)
  unfold tX
  exact ⟨by omega, h2.2.1 h1.2⟩
theorem tX_W (h : q ≤ n) : n ≤ tX B n q ∨ ¬ pW (B (tX B n q)) := (runW_spec B n (tE B n q)).2.2.2
theorem tK_L (h : q < n) (hl : pL (B q)) : tK B n q = wK B q (run bL B n q) := by unfold tK; rw [if_pos h, if_pos hl]
theorem tK_D (h : q < n) (hl : pD (B q)) : tK B n q = if 6 < run bD B n q - q then 257 else 258 := by unfold tK; rw [if_pos h, if_neg (by omega), if_pos hl]
theorem tK_S (h : q < n) (h3 : pS (B q)) : tK B n q = B q := by unfold tK; rw [if_pos h, if_neg (by omega), if_neg (by omega), if_pos h3]
theorem tK_B (h : q < n) (h1 : ¬ pL (B q)) (h2 : ¬ pD (B q)) (h3 : ¬ pS (B q)) : tK B n q = 257 := by unfold tK; rw [if_pos h, if_neg h1, if_neg h2, if_neg h3]
theorem tK_N (h : n ≤ q) : tK B n q = 256 := by unfold tK; rw [if_neg (by omega)]
theorem tV_D (h : q < n) (hl : pD (B q)) : tV B n q = nV B q (run bD B n q - q).toNat := by unfold tV; rw [if_pos ⟨h, hl⟩]
theorem tV_0 (h : ¬ (q < n ∧ pD (B q))) : tV B n q = 0 := by unfold tV; rw [if_neg h]
theorem tK_rng (B : Int → Int) (n q : Int) : 40 ≤ tK B n q ∧ tK B n q ≤ 277 := by
  by_cases h : q < n
  · by_cases h1 : pL (B q)
    · rw [tK_L h h1]
      have := wK_rng B q (run bL B n q)
      omega
    · by_cases h2 : pD (B q)
      · rw [tK_D h h2]
        split <;> omega
      · by_cases h3 : pS (B q)
        · rw [tK_S h h3]
          omega
        · rw [tK_B h h1 h2 h3]
          omega
  · rw [tK_N (by omega)]
    omega
theorem tK_end : tK B n q = 256 ↔ n ≤ q := by
  constructor
  · intro h
    by_cases h0 : q < n
    · exfalso
      by_cases h1 : pL (B q)
      · rw [tK_L h0 h1] at h
        have := wK_rng B q (run bL B n q)
        omega
      · by_cases h2 : pD (B q)
        · rw [tK_D h0 h2] at h
          split at h <;> omega
        · by_cases h3 : pS (B q)
          · rw [tK_S h0 h3] at h
            omega
          · rw [tK_B h0 h1 h2 h3] at h
            omega
    · omega
  · exact tK_N
theorem nV_rng {B : Int → Int} {q : Int} : ∀ k : Nat, (∀ j : Nat, j < k → pD (B (q + (j : Int)))) → 0 ≤ nV B q k ∧ nV B q k ≤ 999999 ∧ (k = 0 → nV B q k = 0) ∧ (k ≤ 1 → nV B q k ≤ 9) ∧ (k ≤ 2 → nV B q k ≤ 99) ∧ (k ≤ 3 → nV B q k ≤ 999) ∧ (k ≤ 4 → nV B q k ≤ 9999) ∧ (k ≤ 5 → nV B q k ≤ 99999) := by
  intro k
  induction k with
  | zero => intro _; simp [nV]
  | succ k ih =>
    intro h
    have h1 := ih (fun j hj => h j (by omega))
    have h2 := h k (by omega)
    unfold nV
    by_cases hk : k < 6
    · rw [if_pos hk]
      rcases (show k = 0 ∨ k = 1 ∨ k = 2 ∨ k = 3 ∨ k = 4 ∨ k = 5 by omega) with e | e | e | e | e | e <;> subst e <;> omega
    · rw [if_neg hk]
      omega
theorem tV_rng (B : Int → Int) (n q : Int) : 0 ≤ tV B n q ∧ tV B n q ≤ 999999 := by
  by_cases h : q < n ∧ pD (B q)
  · rw [tV_D h.1 h.2]
    have h1 := runD_spec B n q
    have := nV_rng (B := B) (q := q) (run bD B n q - q).toNat (fun j hj => (h1.2.2.1 (q + (j : Int)) (by omega) (by omega)).2)
    omega
  · rw [tV_0 h]
    omega
end TT
/-! the class's row of tokens -/
def tPre (B : Int → Int) (n : Int) (K P V : Int → Int) (m x : Int) : Prop :=
  (∀ j, 0 ≤ j → j < m → (0 ≤ P j ∧ P j < n) ∧ K j = tK B n (P j) ∧ V j = tV B n (P j) ∧ K j ≠ 256 ∧ K j ≠ 257) ∧ (∀ j, 0 ≤ j → j + 1 < m → P (j + 1) = tX B n (P j)) ∧ (0 < m → P 0 = run bW B n 0) ∧ run bW B n x = (if 0 < m then tX B n (P (m - 1)) else run bW B n 0)
def tRow (B : Int → Int) (n : Int) (K P V : Int → Int) (m : Int) : Prop :=
  1 ≤ m ∧ P 0 = run bW B n 0 ∧ (∀ j, 0 ≤ j → j < m → (0 ≤ P j ∧ P j ≤ n) ∧ K j = tK B n (P j) ∧ V j = tV B n (P j)) ∧ (∀ j, 0 ≤ j → j + 1 < m → P (j + 1) = tX B n (P j)) ∧ (K (m - 1) = 256 ∨ K (m - 1) = 257)
section TR
variable {B : Int → Int} {n : Int} {K P V : Int → Int} {m x y a b : Int}
theorem tPre0 : tPre B n K P V 0 0 := ⟨fun j h0 h1 => by omega, fun j h0 h1 => by omega, fun h => by omega, by rw [if_neg (by omega)]⟩
theorem tPre_ws (h : tPre B n K P V m x) (hx : x < n) (hw : pW (B x)) : tPre B n K P V m (x + 1) := ⟨h.1, h.2.1, h.2.2.1, by rw [← runW_step hx hw]; exact h.2.2.2⟩
theorem tPre_at (h : tPre B n K P V m x) {j : Int} (h0 : 0 ≤ j) (h1 : j < m) : K j ≠ 257 := (h.1 j h0 h1).2.2.2.2
theorem tPre_put (h : tPre B n K P V m x) (hm : 0 ≤ m) (hx0 : 0 ≤ x) (hx : x < n) (hw : ¬ pW (B x)) (hk : a = tK B n x) (hv : b = tV B n x) (h257 : a ≠ 257) (hy : y = tE B n x) : tPre B n (u1 K m a) (u1 P m x) (u1 V m b) (m + 1) y := by
  have e0 : run bW B n x = x := runW_stop (Or.inr hw)
  refine ⟨fun j h0 h1 => ?_, fun j h0 h1 => ?_, fun _ => ?_, ?_⟩
  · by_cases e : j = m
    · subst e
      rw [u1_s, u1_s, u1_s]
      exact ⟨⟨hx0, hx⟩, hk, hv, fun h => by have := (tK_end (B := B)).mp (hk.symm.trans h); omega, h257⟩
    · rw [u1_n e, u1_n e, u1_n e]
      exact h.1 j h0 (by omega)
  · by_cases e : j + 1 = m
    · rw [e, u1_s, u1_n (by omega)]
      have h3 := h.2.2.2
      rw [if_pos (by omega), e0] at h3
      rw [show j = m - 1 by omega]
      exact h3
    · rw [u1_n e, u1_n (by omega)]
      exact h.2.1 j h0 (by omega)
  · by_cases e : (0 : Int) = m
    · rw [← e, u1_s]
      have h3 := h.2.2.2
      rw [if_neg (by omega), e0] at h3
      exact h3
    · rw [u1_n e]
      exact h.2.2.1 (by omega)
  · rw [if_pos (by omega), show m + 1 - 1 = m by omega, u1_s, hy]
    rfl
theorem tPre_end (h : tPre B n K P V m x) (hm : 0 ≤ m) (hx0 : 0 ≤ x) (hx : x ≤ n) (hw : n ≤ x ∨ ¬ pW (B x)) (hk : a = tK B n x) (hv : b = tV B n x) (ha : a = 256 ∨ a = 257) : tRow B n (u1 K m a) (u1 P m x) (u1 V m b) (m + 1) := by
  have e0 : run bW B n x = x := runW_stop hw
  refine ⟨by omega, ?_, fun j h0 h1 => ?_, fun j h0 h1 => ?_, ?_⟩
  · by_cases e : (0 : Int) = m
    · rw [← e, u1_s]
      have h3 := h.2.2.2
      rw [if_neg (by omega), e0] at h3
      exact h3
    · rw [u1_n e]
      exact h.2.2.1 (by omega)
  · by_cases e : j = m
    · subst e
      rw [u1_s, u1_s, u1_s]
      exact ⟨⟨hx0, hx⟩, hk, hv⟩
    · rw [u1_n e, u1_n e, u1_n e]
      have := h.1 j h0 (by omega)
      exact ⟨⟨this.1.1, Int.le_of_lt this.1.2⟩, this.2.1, this.2.2.1⟩
  · by_cases e : j + 1 = m
    · rw [e, u1_s, u1_n (by omega)]
      have h3 := h.2.2.2
      rw [if_pos (by omega), e0] at h3
      rw [show j = m - 1 by omega]
      exact h3
    · rw [u1_n e, u1_n (by omega)]
      exact h.2.1 j h0 (by omega)
  · rw [show m + 1 - 1 = m by omega, u1_s]
    exact ha
/-- the reader stands at the token that begins at p -/
def tAt (B : Int → Int) (n : Int) (K P V : Int → Int) (m at_ p : Int) : Prop := tRow B n K P V m ∧ 0 ≤ at_ ∧ at_ < m ∧ P at_ = p
theorem tAt.p {at_ p : Int} (h : tAt B n K P V m at_ p) : (0 ≤ at_ ∧ at_ < m) ∧ P at_ = p ∧ K at_ = tK B n p ∧ V at_ = tV B n p ∧ 0 ≤ p ∧ p ≤ n := by
  have := h.1.2.2.1 at_ h.2.1 h.2.2.1
  rw [h.2.2.2] at this
  exact ⟨⟨h.2.1, h.2.2.1⟩, h.2.2.2, this.2.1, this.2.2, this.1.1, this.1.2⟩
theorem tAt.up {at_ p : Int} (h : tAt B n K P V m at_ p) (h1 : tK B n p ≠ 256) (h2 : tK B n p ≠ 257) : at_ + 1 < m ∧ tAt B n K P V m (at_ + 1) (tX B n p) := by
  have h3 := h.p
  have h4 : at_ + 1 < m := by
    by_cases e : at_ = m - 1
    · have := h.1.2.2.2.2
      rw [← e, h3.2.2.1] at this
      rcases this with h | h
      · exact absurd h h1
      · exact absurd h h2
    · omega
  refine ⟨h4, h.1, by omega, h4, ?_⟩
  rw [h.1.2.2.2.1 at_ h3.1.1 h4, h3.2.1]
theorem tAt0 (h : tRow B n K P V m) : tAt B n K P V m 0 (run bW B n 0) := ⟨h, Int.le_refl 0, by have := h.1; omega, h.2.1⟩
end TR
