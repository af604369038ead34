/-! for the relation of both states -/
theorem evL_it {it nu it2 nu2 fa : Int → Int} : ∀ m : Nat, (∀ k : Nat, k < m → it (k : Int) = it2 (k : Int) ∧ (it (k : Int) = 6 → nu (k : Int) = nu2 (k : Int))) → evL it nu fa m = evL it2 nu2 fa m
  | 0, _ => rfl
  | m + 1, h => by
    have h1 := h m (by omega)
    show evS (it (m : Int)) (nu (m : Int)) fa (evL it nu fa m) = evS (it2 (m : Int)) (nu2 (m : Int)) fa (evL it2 nu2 fa m)
    rw [evL_it m (fun k hk => h k (by omega)), ← h1.1]
    by_cases e : it (m : Int) = 6
    · rw [h1.2 e]
    · unfold evS
      by_cases c : it (m : Int) ≤ 6
      · rw [if_pos c, if_pos c, if_neg e, if_neg e]
      · rw [if_neg c, if_neg c]
theorem evR_it {it nu it2 nu2 : Int → Int} {m m2 : Int} (hm : m = m2) (h : ∀ k, 0 ≤ k → k < m → it k = it2 k ∧ (it k = 6 → nu k = nu2 k)) (fa : Int → Int) : evR it nu fa m = evR it2 nu2 fa m2 := by
  subst hm
  unfold evR
  rw [evL_it m.toNat (fun k hk => h k (by omega) (by omega))]
theorem prC_la {la la2 u : Int → Int} {r : Int} : ∀ m : Nat, (∀ k : Nat, k < m → (r ≤ la (k : Int) ↔ r ≤ la2 (k : Int))) → prC la r u m = prC la2 r u m
  | 0, _ => rfl
  | m + 1, h => by
    show prC la r u m + cn (pPr la r u (m : Int)) m = prC la2 r u m + cn (pPr la2 r u (m : Int)) m
    rw [prC_la m (fun k hk => h k (by omega))]
    congr 1
    refine cn_congr m (fun j hj => ?_)
    have h1 := h m (by omega)
    have h2 := h j (by omega)
    unfold pPr
    exact decide_eq_decide.mpr ⟨fun q => ⟨⟨h1.mp q.1.1, h2.mp q.1.2⟩, q.2⟩, fun q => ⟨⟨h1.mpr q.1.1, h2.mpr q.1.2⟩, q.2⟩⟩
theorem rkF_la {q q2 : Int → Int → Int → Int} {dn dn2 la la2 : Int → Int} {ks bk cl r c : Int} (hks : 0 ≤ ks) (hr : 0 ≤ r) (hc : 0 ≤ c ∧ c < cl) (hla : ∀ o, 0 ≤ o → o < cl → (r ≤ la o ↔ r ≤ la2 o)) (hdn : ∀ k, 0 ≤ k → k < ks → dn k = dn2 k) (hq : ∀ s o k, 0 ≤ s → s ≤ r → 0 ≤ o → o < cl → 0 ≤ k → k < ks → q s o k = q2 s o k) : rkF q dn ks bk la cl r c = rkF q2 dn2 ks bk la2 cl r c := by
  have h1 := hla c hc.1 hc.2
  unfold rkF
  by_cases e : r ≤ la c
  · rw [if_pos e, if_pos (h1.mp e)]
    congr 1
    refine cn_eq (fun o o0 o1 => ?_)
    have h2 := hla o o0 o1
    have h3 : ahR q dn ks bk o c (r + 1).toNat = ahR q2 dn2 ks bk o c (r + 1).toNat := ahR_eq hks hdn _ (fun s k s0 s1 _ k0 k1 => ⟨hq s o k s0 (by omega) o0 o1 k0 k1, hq s c k s0 (by omega) hc.1 hc.2 k0 k1⟩)
    unfold pAh
    rw [h3]
    exact decide_eq_decide.mpr ⟨fun z => ⟨h2.mp z.1, z.2⟩, fun z => ⟨h2.mpr z.1, z.2⟩⟩
  · rw [if_neg e, if_neg (fun z => e (h1.mpr z))]
theorem mcG_mp (x : Int) (h : 0 ≤ x ∧ x ≤ 10) : mcG (mp x) = x := by
  rcases (show x = 0 ∨ x = 1 ∨ x = 2 ∨ x = 3 ∨ x = 4 ∨ x = 5 ∨ x = 6 ∨ x = 7 ∨ x = 8 ∨ x = 9 ∨ x = 10 by omega) with rfl | rfl | rfl | rfl | rfl | rfl | rfl | rfl | rfl | rfl | rfl <;> decide
/-- one list, told to both sides -/
theorem code_rel : ∀ (E : List (Int × Int)) (it nu pa pn : Int → Int) (c : Int), repC id E it nu c → repN mp E pa pn c → ∀ k, 0 ≤ k → k < c → pa k = mp (it k) ∧ (it k = 6 → nu k = pn k) := by
  intro E
  induction E with
  | nil => intro it nu pa pn c h _ k k0 k1; have h : c = 0 := h; omega
  | cons x E ih =>
    intro it nu pa pn c h h2 k k0 k1
    by_cases e : k = c - 1
    · rw [e, h2.1, show it (c - 1) = x.1 from h.1]
      exact ⟨rfl, fun q => by rw [h2.2.1 q]; exact h.2.1⟩
    · exact ih it nu pa pn (c - 1) h.2.2 h2.2.2 k k0 (by omega)
