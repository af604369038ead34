/-! what a text tells: numbers of a round, keys, ties, by the places of their words -/
def tXi (B : Int → Int) (n : Int) : Nat → Int → Int
  | 0, p => p
  | k + 1, p => tX B n (tXi B n k p)
def kyP (B : Int → Int) (n : Int) : Nat → Int → Int
  | 0, p => p
  | k + 1, p => tX B n (tX B n (tX B n (kyP B n k p)))
def kyN (B : Int → Int) (n : Int) : Nat → Int → Int
  | 0, _ => 0
  | k + 1, p => if tK B n (tX B n (tX B n p)) = 44 then 1 + kyN B n k (tX B n (tX B n (tX B n p))) else 1
theorem tXi_s {B : Int → Int} {n x p : Int} (h : 0 ≤ x) : tXi B n (x + 1).toNat p = tX B n (tXi B n x.toNat p) := by
  obtain ⟨j, rfl⟩ : ∃ j : Nat, x = (j : Int) := ⟨x.toNat, by omega⟩
  rw [show ((j : Int) + 1).toNat = j + 1 by omega, show ((j : Int)).toNat = j by omega]
  rfl
theorem kyP_s {B : Int → Int} {n x p : Int} (h : 0 ≤ x) : kyP B n (x + 1).toNat p = tX B n (tX B n (tX B n (kyP B n x.toNat p))) := by
  obtain ⟨j, rfl⟩ : ∃ j : Nat, x = (j : Int) := ⟨x.toNat, by omega⟩
  rw [show ((j : Int) + 1).toNat = j + 1 by omega, show ((j : Int)).toNat = j by omega]
  rfl
theorem kyN_go {B : Int → Int} {n x p : Int} (h : x < 4) (hk : tK B n (tX B n (tX B n p)) = 44) : kyN B n (4 - x).toNat p = 1 + kyN B n (4 - (x + 1)).toNat (tX B n (tX B n (tX B n p))) := by
  rw [show (4 - x).toNat = (4 - (x + 1)).toNat + 1 by omega]
  conv => lhs; unfold kyN
  rw [if_pos hk]
theorem kyN_end {B : Int → Int} {n x p : Int} (h : x < 4) (hk : tK B n (tX B n (tX B n p)) ≠ 44) : kyN B n (4 - x).toNat p = 1 := by
  rw [show (4 - x).toNat = (4 - (x + 1)).toNat + 1 by omega]
  unfold kyN
  rw [if_neg hk]
def shC (B : Int → Int) (n p : Int) (sh : Int → Int) (r : Int) : Prop := ∀ i, 0 ≤ i → i < 4 → sh (r * 4 + i) = tV B n (tXi B n i.toNat p)
def kyC (B : Int → Int) (n p : Int) (kk kd : Int → Int) (m : Int) : Prop := ∀ j, 0 ≤ j → j < m → kk j = tK B n (tX B n (kyP B n j.toNat p)) - 268 ∧ kd j = (if tK B n (kyP B n j.toNat p) = 267 then 1 else 0)
theorem kyC_put {B : Int → Int} {n p x a b : Int} {kk kd : Int → Int} (h : kyC B n p kk kd x) (h0 : 0 ≤ x) (ha : a = tK B n (tX B n (kyP B n x.toNat p)) - 268) (hb : b = (if tK B n (kyP B n x.toNat p) = 267 then 1 else 0)) : kyC B n p (u1 kk x a) (u1 kd x b) (x + 1) := fun j j0 j1 => by
  by_cases e : j = x
  · rw [e, u1_s, u1_s]; exact ⟨ha, hb⟩
  · rw [u1_n e, u1_n e]; exact h j j0 (by omega)
theorem ky1_ok {B : Int → Int} {n c p : Int} (h : (ky1 B n c p).1 = 0) : (ky1 B n c p).2 = tX B n (tX B n p) ∧ (tK B n p = 266 ∨ tK B n p = 267) ∧ (268 ≤ tK B n (tX B n p) ∧ tK B n (tX B n p) ≤ 271) := by
  have hf := fk_rng B n p
  have hf2 := fk_rng B n (tX B n p)
  by_cases h1 : tK B n p ≠ 266 ∧ tK B n p ≠ 267
  · rw [ky1_a h1] at h; have h : fk B n p = 0 := h; omega
  · by_cases h2 : 4 ≤ c
    · rw [ky1_b (by omega) h2] at h; have h : (3 : Int) = 0 := h; exact absurd h (by decide)
    · by_cases h3 : tK B n (tX B n p) < 268 ∨ 271 < tK B n (tX B n p)
      · rw [ky1_c (by omega) (by omega) h3] at h; have h : fk B n (tX B n p) = 0 := h; omega
      · rw [ky1_d (by omega) (by omega) (by omega)]
        exact ⟨rfl, by omega, by omega⟩
