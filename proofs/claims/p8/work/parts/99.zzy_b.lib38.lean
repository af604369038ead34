theorem lwT {a w t u : Int} (h : (0 ≤ a ∧ a ≤ t → w = 0) ∧ (¬ (0 ≤ a ∧ a ≤ t) → w = t)) (e : t = u) : w = (if 0 ≤ a ∧ a ≤ u then 0 else u) := by
  subst e
  split
  · exact h.1 (by assumption)
  · exact h.2 (by assumption)
theorem lwR {a t u R1 R2 R3 kx px zx km pm zm k0 p0 k1 p1 : Int} (et : t = u) (ek : k0 = k1) (ep : p0 = p1) (hx : (0 ≤ a ∧ a ≤ t) → kx = R1 ∧ (R1 = 0 → px = (-1) ∧ zx = R3) ∧ (R1 ≠ 0 → px = R2 ∧ zx = (-1))) (hx' : ¬ (0 ≤ a ∧ a ≤ t) → kx = k0 ∧ px = p0 ∧ zx = (-1)) (hm : (0 ≤ a ∧ a ≤ u) → km = R1 ∧ (R1 = 0 → pm = (-1) ∧ zm = R3) ∧ (R1 ≠ 0 → pm = R2 ∧ zm = (-1))) (hm' : ¬ (0 ≤ a ∧ a ≤ u) → km = k1 ∧ pm = p1 ∧ zm = (-1)) : kx = km ∧ px = pm ∧ zx = zm := by
  subst et ek ep
  by_cases hc : 0 ≤ a ∧ a ≤ t
  · have h1 := hx hc
    have h2 := hm hc
    by_cases hr : R1 = 0
    · have h3 := h1.2.1 hr
      have h4 := h2.2.1 hr
      exact ⟨h1.1.trans h2.1.symm, h3.1.trans h4.1.symm, h3.2.trans h4.2.symm⟩
    · have h3 := h1.2.2 hr
      have h4 := h2.2.2 hr
      exact ⟨h1.1.trans h2.1.symm, h3.1.trans h4.1.symm, h3.2.trans h4.2.symm⟩
  · have h1 := hx' hc
    have h2 := hm' hc
    exact ⟨h1.1.trans h2.1.symm, h1.2.1.trans h2.2.1.symm, h1.2.2.trans h2.2.2.symm⟩
theorem lwF {t u : Int} (e : t = u) : (if t ≤ 680 then t + 20 else t) = (if u ≤ 680 then u + 20 else u) := by rw [e]
theorem ky_rel {B : Int → Int} {n p m m2 : Int} {kk kd ky up : Int → Int} (h : kyOk B n p kk kd m) (h2 : kyOm B n p ky up m2) : m = m2 ∧ rKd m kk kd ky up := by
  by_cases hp : p = -1
  · obtain ⟨a1, a2, a3⟩ := h.1 hp
    obtain ⟨b1, b2, b3⟩ := h2.1 hp
    refine ⟨a1.trans b1.symm, fun k k0 k1 => ?_⟩
    have e : k = 0 := by omega
    subst e
    rw [a2, a3, b2, b3]
    exact ⟨rfl, rfl⟩
  · obtain ⟨a1, a2⟩ := h.2 hp
    obtain ⟨b1, b2⟩ := h2.2 hp
    refine ⟨a1.trans b1.symm, fun k k0 k1 => ?_⟩
    have h3 := a2 k k0 k1
    have h4 := b2 k k0 (by omega)
    rw [h3.1, h3.2, h4.1, h4.2]
    refine ⟨rfl, ?_⟩
    split <;> rfl
