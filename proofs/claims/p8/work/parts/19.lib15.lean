/-! steps of the word's search, of a number -/
theorem gEt_at {i : Int} (h0 : 0 ≤ i) (h1 : i < 97) : gEt.drop i.toNat = gEch i :: gEt.drop (i + 1).toNat := by
  have := gEt_ch i.toNat (by omega)
  rw [this, show (i + 1).toNat = i.toNat + 1 by omega]
  rfl
theorem wl_ne {B : Int → Int} {q e k a s i : Int} (h0 : 0 ≤ i) (h1 : i < 97) (hc : gEch i ≠ 32) : wl B q e (gEt.drop i.toNat) k a s = wl B q e (gEt.drop (i + 1).toNat) k (a + 1) (if s ≠ 0 ∧ a < e ∧ B a = gEch i then 1 else 0) := by
  rw [gEt_at h0 h1]
  conv => lhs; unfold wl
  rw [if_pos hc]
theorem wl_sp {B : Int → Int} {q e k a s i : Int} (h0 : 0 ≤ i) (h1 : i < 97) (hc : gEch i = 32) : wl B q e (gEt.drop i.toNat) k a s = if s ≠ 0 ∧ a = e then k else wl B q e (gEt.drop (i + 1).toNat) (k + 1) q 1 := by
  rw [gEt_at h0 h1]
  conv => lhs; unfold wl
  rw [if_neg (fun h => h hc)]
theorem wl_end {B : Int → Int} {q e k a s i : Int} (h1 : 97 ≤ i) (h2 : i ≤ 97) : wl B q e (gEt.drop i.toNat) k a s = 259 := by
  rw [show i = 97 by omega, show gEt.drop (97 : Int).toNat = [] from rfl]
  rfl
theorem nV_up {B : Int → Int} {a x : Int} (h : a ≤ x) : nV B a (x + 1 - a).toNat = if x - a < 6 then 10 * nV B a (x - a).toNat + B x - 48 else nV B a (x - a).toNat := by
  rw [show (x + 1 - a).toNat = (x - a).toNat + 1 by omega]
  conv => lhs; unfold nV
  rw [show a + (((x - a).toNat : Nat) : Int) = x by omega]
  by_cases h1 : x - a < 6
  · rw [if_pos h1, if_pos (by omega)]
  · rw [if_neg h1, if_neg (by omega)]
theorem runD_mem {B : Int → Int} {a x : Int} (h : ∀ j, a ≤ j → j < x → pD (B j)) (h0 : a ≤ x) : ∀ j : Nat, j < (x - a).toNat → pD (B (a + (j : Int))) := fun j hj => h _ (by omega) (by omega)
theorem run_snoc {P : Int → Prop} {B : Int → Int} {a x n : Int} (h : ∀ j, a ≤ j → j < x → j < n ∧ P (B j)) (h1 : x < n) (h2 : P (B x)) : ∀ j, a ≤ j → j < x + 1 → j < n ∧ P (B j) := fun j b1 b2 => by
  by_cases e : j = x
  · subst e; exact ⟨h1, h2⟩
  · exact h j b1 (by omega)
theorem run_none {P : Int → Prop} {B : Int → Int} {a n : Int} : ∀ j, a ≤ j → j < a → j < n ∧ P (B j) := fun j b1 b2 => by omega
