/-! appeals: what is known of a try on a day -/
def kD (an ad : Int → Int) (d k : Int) : Nat → Int
  | 0 => -1
  | i + 1 => if an (i : Int) = k ∧ ad (i : Int) ≤ d ∧ kD an ad d k i ≤ ad (i : Int) then ad (i : Int) else kD an ad d k i
def kH (an ah ad : Int → Int) (d k h : Int) : Nat → Int
  | 0 => h
  | i + 1 => if an (i : Int) = k ∧ ad (i : Int) ≤ d ∧ kD an ad d k i ≤ ad (i : Int) then ah (i : Int) else kH an ah ad d k h i
section KN
variable {an ah ad ho kn kd : Int → Int} {d k h x n : Int}
theorem kD_s (h0 : 0 ≤ x) : kD an ad d k (x + 1).toNat = if an x = k ∧ ad x ≤ d ∧ kD an ad d k x.toNat ≤ ad x then ad x else kD an ad d k x.toNat := by
  obtain ⟨j, rfl⟩ : ∃ j : Nat, x = (j : Int) := ⟨x.toNat, by omega⟩
  rw [show ((j : Int) + 1).toNat = j + 1 by omega, show ((j : Int)).toNat = j by omega]
  rfl
theorem kH_s (h0 : 0 ≤ x) : kH an ah ad d k h (x + 1).toNat = if an x = k ∧ ad x ≤ d ∧ kD an ad d k x.toNat ≤ ad x then ah x else kH an ah ad d k h x.toNat := by
  obtain ⟨j, rfl⟩ : ∃ j : Nat, x = (j : Int) := ⟨x.toNat, by omega⟩
  rw [show ((j : Int) + 1).toNat = j + 1 by omega, show ((j : Int)).toNat = j by omega]
  rfl
theorem kH_r (hh : 0 ≤ h ∧ h ≤ 60) (ha : ∀ i, 0 ≤ ah i ∧ ah i ≤ 60) : ∀ m : Nat, 0 ≤ kH an ah ad d k h m ∧ kH an ah ad d k h m ≤ 60
  | 0 => hh
  | m + 1 => by
    have h1 := kH_r hh ha m
    have h2 := ha m
    show 0 ≤ (if an (m : Int) = k ∧ ad (m : Int) ≤ d ∧ kD an ad d k m ≤ ad (m : Int) then ah (m : Int) else kH an ah ad d k h m) ∧ (if an (m : Int) = k ∧ ad (m : Int) ≤ d ∧ kD an ad d k m ≤ ad (m : Int) then ah (m : Int) else kH an ah ad d k h m) ≤ 60
    split <;> omega
/-- the class's rows hold it for all tries -/
def kOk (an ah ad ho : Int → Int) (d n x : Int) (kn kd : Int → Int) : Prop := ∀ k, 0 ≤ k → k < n → kn k = kH an ah ad d k (ho k) x.toNat ∧ kd k = kD an ad d k x.toNat
theorem kOk_0 (h : ∀ k, 0 ≤ k → k < n → kn k = ho k ∧ kd k = -1) : kOk an ah ad ho d n 0 kn kd := h
theorem kOk_hit (h0 : 0 ≤ x) (hK : kOk an ah ad ho d n x kn kd) (h : ad x ≤ d ∧ kd (an x) ≤ ad x) : kOk an ah ad ho d n (x + 1) (u1 kn (an x) (ah x)) (u1 kd (an x) (ad x)) := fun k k0 k1 => by
  have q := hK k k0 k1
  rw [kH_s h0, kD_s h0]
  by_cases e : k = an x
  · subst e
    have c : an x = an x ∧ ad x ≤ d ∧ kD an ad d (an x) x.toNat ≤ ad x := ⟨rfl, h.1, by rw [← q.2]; exact h.2⟩
    rw [u1_s, u1_s, if_pos c, if_pos c]
    exact ⟨rfl, rfl⟩
  · rw [u1_n e, u1_n e, if_neg (fun z => e z.1.symm), if_neg (fun z => e z.1.symm)]
    exact q
theorem kOk_skip (h0 : 0 ≤ x) (hK : kOk an ah ad ho d n x kn kd) (h : ¬ (ad x ≤ d ∧ kd (an x) ≤ ad x)) : kOk an ah ad ho d n (x + 1) kn kd := fun k k0 k1 => by
  have q := hK k k0 k1
  rw [kH_s h0, kD_s h0]
  have c : ¬ (an x = k ∧ ad x ≤ d ∧ kD an ad d k x.toNat ≤ ad x) := fun z => by
    obtain ⟨z1, z2, z3⟩ := z
    subst z1
    exact h ⟨z2, by rw [q.2]; exact z3⟩
  rw [if_neg c, if_neg c]
  exact q
theorem kn_fill {ho kn kd : Int → Int} {x : Int} (h : ∀ k, 0 ≤ k → k < x → kn k = ho k ∧ kd k = (-1)) : ∀ k, 0 ≤ k → k < x + 1 → u1 kn x (ho x) k = ho k ∧ u1 kd x (-1) k = (-1) := fun k h0 h1 => by
  by_cases e : k = x
  · rw [e, u1_s, u1_s]; exact ⟨rfl, rfl⟩
  · rw [u1_n e, u1_n e]; exact h k h0 (by omega)
end KN
/-! the try that counts: how many, the greatest hold, the try, its number -/
def fS (wh rd rt hw kn : Int → Int) (c r t : Int) : Nat → Int × Int × Int × Int
  | 0 => (0, -1, -1, 0)
  | k + 1 => if (wh (k : Int) = c ∧ rd (k : Int) = r ∧ rt (k : Int) = t) ∧ hw (k : Int) ≠ 4 then (if (fS wh rd rt hw kn c r t k).2.1 < kn (k : Int) then ((fS wh rd rt hw kn c r t k).1 + 1, kn (k : Int), (k : Int), (fS wh rd rt hw kn c r t k).1 + 1) else ((fS wh rd rt hw kn c r t k).1 + 1, (fS wh rd rt hw kn c r t k).2.1, (fS wh rd rt hw kn c r t k).2.2.1, (fS wh rd rt hw kn c r t k).2.2.2)) else fS wh rd rt hw kn c r t k
section FS
variable {wh rd rt hw kn : Int → Int} {c r t x : Int}
theorem fS_s (h0 : 0 ≤ x) : fS wh rd rt hw kn c r t (x + 1).toNat = if (wh x = c ∧ rd x = r ∧ rt x = t) ∧ hw x ≠ 4 then (if (fS wh rd rt hw kn c r t x.toNat).2.1 < kn x then ((fS wh rd rt hw kn c r t x.toNat).1 + 1, kn x, x, (fS wh rd rt hw kn c r t x.toNat).1 + 1) else ((fS wh rd rt hw kn c r t x.toNat).1 + 1, (fS wh rd rt hw kn c r t x.toNat).2.1, (fS wh rd rt hw kn c r t x.toNat).2.2.1, (fS wh rd rt hw kn c r t x.toNat).2.2.2)) else fS wh rd rt hw kn c r t x.toNat := by
  obtain ⟨j, rfl⟩ : ∃ j : Nat, x = (j : Int) := ⟨x.toNat, by omega⟩
  rw [show ((j : Int) + 1).toNat = j + 1 by omega, show ((j : Int)).toNat = j by omega]
  rfl
theorem fS_skip (h0 : 0 ≤ x) (h : ¬ ((wh x = c ∧ rd x = r ∧ rt x = t) ∧ hw x ≠ 4)) : fS wh rd rt hw kn c r t (x + 1).toNat = fS wh rd rt hw kn c r t x.toNat := by rw [fS_s h0, if_neg h]
theorem fS_new (h0 : 0 ≤ x) (h : (wh x = c ∧ rd x = r ∧ rt x = t) ∧ hw x ≠ 4) (h2 : (fS wh rd rt hw kn c r t x.toNat).2.1 < kn x) : fS wh rd rt hw kn c r t (x + 1).toNat = ((fS wh rd rt hw kn c r t x.toNat).1 + 1, kn x, x, (fS wh rd rt hw kn c r t x.toNat).1 + 1) := by rw [fS_s h0, if_pos h, if_pos h2]
theorem fS_old (h0 : 0 ≤ x) (h : (wh x = c ∧ rd x = r ∧ rt x = t) ∧ hw x ≠ 4) (h2 : ¬ (fS wh rd rt hw kn c r t x.toNat).2.1 < kn x) : fS wh rd rt hw kn c r t (x + 1).toNat = ((fS wh rd rt hw kn c r t x.toNat).1 + 1, (fS wh rd rt hw kn c r t x.toNat).2.1, (fS wh rd rt hw kn c r t x.toNat).2.2.1, (fS wh rd rt hw kn c r t x.toNat).2.2.2) := by rw [fS_s h0, if_pos h, if_neg h2]
/-- what can be said of it -/
theorem fS_ok (hk : ∀ k, 0 ≤ kn k ∧ kn k ≤ 60) : ∀ m : Nat, (0 ≤ (fS wh rd rt hw kn c r t m).1 ∧ (fS wh rd rt hw kn c r t m).1 ≤ m) ∧ ((fS wh rd rt hw kn c r t m).1 = 0 → fS wh rd rt hw kn c r t m = (0, -1, -1, 0)) ∧ (0 < (fS wh rd rt hw kn c r t m).1 → (0 ≤ (fS wh rd rt hw kn c r t m).2.2.1 ∧ (fS wh rd rt hw kn c r t m).2.2.1 < m) ∧ kn (fS wh rd rt hw kn c r t m).2.2.1 = (fS wh rd rt hw kn c r t m).2.1 ∧ (1 ≤ (fS wh rd rt hw kn c r t m).2.2.2 ∧ (fS wh rd rt hw kn c r t m).2.2.2 ≤ (fS wh rd rt hw kn c r t m).1))
  | 0 => ⟨⟨Int.le_refl 0, Int.le_refl 0⟩, fun _ => rfl, fun h => absurd h (by show ¬ (0 : Int) < 0; decide)⟩
  | m + 1 => by
    have ih := fS_ok hk m
    have e := fS_s (wh := wh) (rd := rd) (rt := rt) (hw := hw) (kn := kn) (c := c) (r := r) (t := t) (x := (m : Int)) (by omega)
    rw [show ((m : Int) + 1).toNat = m + 1 by omega, show ((m : Int)).toNat = m by omega] at e
    have hm := hk m
    obtain ⟨i1, i2, i3⟩ := ih
    rw [e]
    by_cases c1 : (wh (m : Int) = c ∧ rd (m : Int) = r ∧ rt (m : Int) = t) ∧ hw (m : Int) ≠ 4
    · rw [if_pos c1]
      by_cases c2 : (fS wh rd rt hw kn c r t m).2.1 < kn (m : Int)
      · rw [if_pos c2]
        refine ⟨⟨by show 0 ≤ _ + 1; omega, by show _ + 1 ≤ _; omega⟩, fun q => ?_, fun _ => ⟨⟨by show 0 ≤ (m : Int); omega, by show (m : Int) < _; omega⟩, rfl, by show 1 ≤ _ + 1; omega, Int.le_refl _⟩⟩
        have q : (fS wh rd rt hw kn c r t m).1 + 1 = 0 := q
        omega
      · rw [if_neg c2]
        have hp : 0 < (fS wh rd rt hw kn c r t m).1 := by
          by_cases z : (fS wh rd rt hw kn c r t m).1 = 0
          · have := i2 z
            rw [this] at c2
            exact absurd (show (-1 : Int) < kn (m : Int) by omega) c2
          · omega
        obtain ⟨j1, j2, j3⟩ := i3 hp
        refine ⟨⟨by show 0 ≤ _ + 1; omega, by show _ + 1 ≤ _; omega⟩, fun q => ?_, fun _ => ⟨⟨j1.1, by show (fS wh rd rt hw kn c r t m).2.2.1 < _; omega⟩, j2, j3.1, by show (fS wh rd rt hw kn c r t m).2.2.2 ≤ _ + 1; omega⟩⟩
        have q : (fS wh rd rt hw kn c r t m).1 + 1 = 0 := q
        omega
    · rw [if_neg c1]
      refine ⟨⟨i1.1, by omega⟩, i2, fun q => ?_⟩
      obtain ⟨j1, j2, j3⟩ := i3 q
      exact ⟨⟨j1.1, by omega⟩, j2, j3⟩
theorem fS_kn {kn2 : Int → Int} : ∀ m : Nat, (∀ k : Nat, k < m → kn (k : Int) = kn2 (k : Int)) → fS wh rd rt hw kn c r t m = fS wh rd rt hw kn2 c r t m
  | 0, _ => rfl
  | m + 1, h => by
    have ih := fS_kn m (fun k hk => h k (by omega))
    have e1 : ∀ f : Int → Int, fS wh rd rt hw f c r t (m + 1) = if (wh (m : Int) = c ∧ rd (m : Int) = r ∧ rt (m : Int) = t) ∧ hw (m : Int) ≠ 4 then (if (fS wh rd rt hw f c r t m).2.1 < f (m : Int) then ((fS wh rd rt hw f c r t m).1 + 1, f (m : Int), (m : Int), (fS wh rd rt hw f c r t m).1 + 1) else ((fS wh rd rt hw f c r t m).1 + 1, (fS wh rd rt hw f c r t m).2.1, (fS wh rd rt hw f c r t m).2.2.1, (fS wh rd rt hw f c r t m).2.2.2)) else fS wh rd rt hw f c r t m := fun f => rfl
    rw [e1 kn, e1 kn2, ih, h m (by omega)]
end FS
/-- the class's rows, a cell for each climber on each route -/
def svC (s : Int × Int × Int × Int) (n b m : Int) : Prop := n = s.1 ∧ (0 < s.1 → b = s.2.2.1 ∧ m = s.2.2.2)
def svOk (wh rd rt hw kn : Int → Int) (x : Int) (cnt bst bno : Int → Int) : Prop := ∀ c r t, (0 ≤ c ∧ c < 16) → (0 ≤ r ∧ r < 4) → (0 ≤ t ∧ t < 5) → svC (fS wh rd rt hw kn c r t x.toNat) (cnt (r * 80 + c * 5 + t)) (bst (r * 80 + c * 5 + t)) (bno (r * 80 + c * 5 + t))
section SV
variable {wh rd rt hw kn cnt bst bno : Int → Int} {x e : Int}
theorem svOk_0 (h : ∀ k, 0 ≤ k → k < 320 → cnt k = 0) : svOk wh rd rt hw kn 0 cnt bst bno := fun c r t hc hr ht => ⟨h _ (by omega) (by omega), fun q => absurd q (by show ¬ (0 : Int) < 0; decide)⟩
theorem svOk_skip (h0 : 0 ≤ x) (hS : svOk wh rd rt hw kn x cnt bst bno) (h : hw x = 4) : svOk wh rd rt hw kn (x + 1) cnt bst bno := fun c r t hc hr ht => by
  rw [fS_skip h0 (fun q => q.2 h)]
  exact hS c r t hc hr ht
theorem sv_most (hk : ∀ k, 0 ≤ kn k ∧ kn k ≤ 60) (hr1 : (0 ≤ wh x ∧ wh x ≤ 15) ∧ (0 ≤ rd x ∧ rd x ≤ 3) ∧ (0 ≤ rt x ∧ rt x ≤ 4)) (hS : svOk wh rd rt hw kn x cnt bst bno) (he : e = rd x * 80 + wh x * 5 + rt x) : (cnt e = 0 → (fS wh rd rt hw kn (wh x) (rd x) (rt x) x.toNat).2.1 = -1) ∧ (0 < cnt e → kn (bst e) = (fS wh rd rt hw kn (wh x) (rd x) (rt x) x.toNat).2.1 ∧ 0 ≤ bst e ∧ bst e < x.toNat) ∧ 0 ≤ cnt e := by
  have q := hS (wh x) (rd x) (rt x) (by omega) (by omega) (by omega)
  have o := fS_ok (wh := wh) (rd := rd) (rt := rt) (hw := hw) (c := wh x) (r := rd x) (t := rt x) hk x.toNat
  rw [← he] at q
  refine ⟨fun z => ?_, fun z => ?_, ?_⟩
  · have := o.2.1 (by rw [← q.1]; exact z)
    rw [this]
  · have z2 : 0 < (fS wh rd rt hw kn (wh x) (rd x) (rt x) x.toNat).1 := by rw [← q.1]; exact z
    rw [(q.2 z2).1]
    exact ⟨(o.2.2 z2).2.1, (o.2.2 z2).1⟩
  · rw [q.1]; exact o.1.1
theorem svOk_new {y z : Int} (h0 : 0 ≤ x) (hr1 : (0 ≤ wh x ∧ wh x ≤ 15) ∧ (0 ≤ rd x ∧ rd x ≤ 3) ∧ (0 ≤ rt x ∧ rt x ≤ 4)) (hS : svOk wh rd rt hw kn x cnt bst bno) (he : e = rd x * 80 + wh x * 5 + rt x) (h : hw x ≠ 4) (h2 : (fS wh rd rt hw kn (wh x) (rd x) (rt x) x.toNat).2.1 < kn x) (hy : y = cnt e + 1) (hz : z = cnt e + 1) : svOk wh rd rt hw kn (x + 1) (u1 cnt e y) (u1 bst e x) (u1 bno e z) := fun c r t hc hr ht => by
  have q := hS c r t hc hr ht
  by_cases hh : wh x = c ∧ rd x = r ∧ rt x = t
  · obtain ⟨a1, a2, a3⟩ := hh
    subst a1 a2 a3
    rw [fS_new h0 ⟨⟨rfl, rfl, rfl⟩, h⟩ h2, ← he, u1_s, u1_s, u1_s]
    rw [← he] at q
    exact ⟨by rw [hy, q.1], fun _ => ⟨rfl, by rw [hz, q.1]⟩⟩
  · have hne : r * 80 + c * 5 + t ≠ e := by omega
    rw [fS_skip h0 (fun z => hh z.1), u1_n hne, u1_n hne, u1_n hne]
    exact q
theorem svOk_old {y : Int} (h0 : 0 ≤ x) (hr1 : (0 ≤ wh x ∧ wh x ≤ 15) ∧ (0 ≤ rd x ∧ rd x ≤ 3) ∧ (0 ≤ rt x ∧ rt x ≤ 4)) (hS : svOk wh rd rt hw kn x cnt bst bno) (he : e = rd x * 80 + wh x * 5 + rt x) (h : hw x ≠ 4) (h1 : 0 < cnt e) (h2 : ¬ (fS wh rd rt hw kn (wh x) (rd x) (rt x) x.toNat).2.1 < kn x) (hy : y = cnt e + 1) : svOk wh rd rt hw kn (x + 1) (u1 cnt e y) bst bno := fun c r t hc hr ht => by
  have q := hS c r t hc hr ht
  by_cases hh : wh x = c ∧ rd x = r ∧ rt x = t
  · obtain ⟨a1, a2, a3⟩ := hh
    subst a1 a2 a3
    rw [fS_old h0 ⟨⟨rfl, rfl, rfl⟩, h⟩ h2, ← he, u1_s]
    rw [← he] at q
    exact ⟨by rw [hy, q.1], fun _ => q.2 (by rw [← q.1]; exact h1)⟩
  · have hne : r * 80 + c * 5 + t ≠ e := by omega
    rw [fS_skip h0 (fun z => hh z.1), u1_n hne]
    exact q
theorem sv_lt {known : Int → Int} {n : Int} (hk : ∀ k, 0 ≤ kn k ∧ kn k ≤ 60) (hr1 : (0 ≤ wh x ∧ wh x ≤ 15) ∧ (0 ≤ rd x ∧ rd x ≤ 3) ∧ (0 ≤ rt x ∧ rt x ≤ 4)) (hS : svOk wh rd rt hw kn x cnt bst bno) (he : e = rd x * 80 + wh x * 5 + rt x) (hkn : ∀ k, 0 ≤ k → k < n → known k = kn k) (h0 : 0 ≤ x) (hx : x < n) (hc : cnt e = 0 ∨ (0 < cnt e ∧ known (bst e) < known x)) : (fS wh rd rt hw kn (wh x) (rd x) (rt x) x.toNat).2.1 < kn x := by
  have hm := sv_most hk hr1 hS he
  have h1 := hk x
  rcases hc with c | c
  · rw [hm.1 c]; omega
  · have h2 := hm.2.1 c.1
    have h3 := hkn (bst e) h2.2.1 (by omega)
    have h4 := hkn x h0 hx
    omega
theorem sv_ge {known : Int → Int} {n : Int} (hk : ∀ k, 0 ≤ kn k ∧ kn k ≤ 60) (hr1 : (0 ≤ wh x ∧ wh x ≤ 15) ∧ (0 ≤ rd x ∧ rd x ≤ 3) ∧ (0 ≤ rt x ∧ rt x ≤ 4)) (hS : svOk wh rd rt hw kn x cnt bst bno) (he : e = rd x * 80 + wh x * 5 + rt x) (hkn : ∀ k, 0 ≤ k → k < n → known k = kn k) (h0 : 0 ≤ x) (hx : x < n) (hc : 0 < cnt e ∧ ¬ known (bst e) < known x) : ¬ (fS wh rd rt hw kn (wh x) (rd x) (rt x) x.toNat).2.1 < kn x := by
  have hm := sv_most hk hr1 hS he
  have h2 := hm.2.1 hc.1
  have h3 := hkn (bst e) h2.2.1 (by omega)
  have h4 := hkn x h0 hx
  have h5 := hc.2
  omega
end SV
/-! facts -/
def fA (s : Int × Int × Int × Int) (hd : Int) (zo : Int → Int) (b : Int) (hw en bg : Int → Int) (i : Int) : Int :=
  if s.1 = 0 then 0 else if i = 0 then (if s.2.1 = hd then 1 else 0) else if i = 1 then zU zo b s.2.1 else if i = 2 then s.2.1 else if i = 3 then s.2.2.2 else if i = 4 then (if hw s.2.2.1 = 0 then 0 else en s.2.2.1 - bg s.2.2.1) else (if s.2.1 = hd ∧ s.2.2.2 = 1 then 1 else 0)
def Fk (an ah ad ho : Int → Int) (na d : Int) : Int → Int := fun k => kH an ah ad d k (ho k) na.toNat
def gFd (wh rd rt bg en ho hw an ah ad hs zo : Int → Int) (n na d r t c i : Int) : Int :=
  fA (fS wh rd rt hw (Fk an ah ad ho na d) c r t n.toNat) (hs (r * 5 + t)) zo ((r * 5 + t) * 3) hw en bg i
theorem u6 {a : Int → Int} {v0 v1 v2 v3 v4 v5 : Int} : u1 (u1 (u1 (u1 (u1 (u1 a 0 v0) 1 v1) 2 v2) 3 v3) 4 v4) 5 v5 0 = v0 ∧ u1 (u1 (u1 (u1 (u1 (u1 a 0 v0) 1 v1) 2 v2) 3 v3) 4 v4) 5 v5 1 = v1 ∧ u1 (u1 (u1 (u1 (u1 (u1 a 0 v0) 1 v1) 2 v2) 3 v3) 4 v4) 5 v5 2 = v2 ∧ u1 (u1 (u1 (u1 (u1 (u1 a 0 v0) 1 v1) 2 v2) 3 v3) 4 v4) 5 v5 3 = v3 ∧ u1 (u1 (u1 (u1 (u1 (u1 a 0 v0) 1 v1) 2 v2) 3 v3) 4 v4) 5 v5 4 = v4 ∧ u1 (u1 (u1 (u1 (u1 (u1 a 0 v0) 1 v1) 2 v2) 3 v3) 4 v4) 5 v5 5 = v5 := ⟨rfl, rfl, rfl, rfl, rfl, rfl⟩
section FA
variable {wh rd rt bg en ho hw an ah ad hs zo a : Int → Int} {n na d r t c : Int}
theorem fa_zero (h : (fS wh rd rt hw (Fk an ah ad ho na d) c r t n.toNat).1 = 0) : gfill a 6 0 0 = gFd wh rd rt bg en ho hw an ah ad hs zo n na d r t c 0 ∧ gfill a 6 0 1 = gFd wh rd rt bg en ho hw an ah ad hs zo n na d r t c 1 ∧ gfill a 6 0 2 = gFd wh rd rt bg en ho hw an ah ad hs zo n na d r t c 2 ∧ gfill a 6 0 3 = gFd wh rd rt bg en ho hw an ah ad hs zo n na d r t c 3 ∧ gfill a 6 0 4 = gFd wh rd rt bg en ho hw an ah ad hs zo n na d r t c 4 ∧ gfill a 6 0 5 = gFd wh rd rt bg en ho hw an ah ad hs zo n na d r t c 5 := by
  have e : ∀ i, gFd wh rd rt bg en ho hw an ah ad hs zo n na d r t c i = 0 := fun i => if_pos h
  rw [e, e, e, e, e, e]
  exact ⟨rfl, rfl, rfl, rfl, rfl, rfl⟩
theorem fa_all {hd nm bn v0 v1 v2 v3 v4 v5 : Int} (hp : 0 < (fS wh rd rt hw (Fk an ah ad ho na d) c r t n.toNat).1) (e1 : hd = (fS wh rd rt hw (Fk an ah ad ho na d) c r t n.toNat).2.1) (e2 : nm = (fS wh rd rt hw (Fk an ah ad ho na d) c r t n.toNat).2.2.1) (e3 : bn = (fS wh rd rt hw (Fk an ah ad ho na d) c r t n.toNat).2.2.2) (q0 : v0 = (if hd = hs (r * 5 + t) then 1 else 0)) (q1 : v1 = zU zo ((r * 5 + t) * 3) hd) (q2 : v2 = hd) (q3 : v3 = bn) (q4 : v4 = (if hw nm = 0 then 0 else en nm - bg nm)) (q5 : v5 = (if hd = hs (r * 5 + t) ∧ bn = 1 then 1 else 0)) : u1 (u1 (u1 (u1 (u1 (u1 a 0 v0) 1 v1) 2 v2) 3 v3) 4 v4) 5 v5 0 = gFd wh rd rt bg en ho hw an ah ad hs zo n na d r t c 0 ∧ u1 (u1 (u1 (u1 (u1 (u1 a 0 v0) 1 v1) 2 v2) 3 v3) 4 v4) 5 v5 1 = gFd wh rd rt bg en ho hw an ah ad hs zo n na d r t c 1 ∧ u1 (u1 (u1 (u1 (u1 (u1 a 0 v0) 1 v1) 2 v2) 3 v3) 4 v4) 5 v5 2 = gFd wh rd rt bg en ho hw an ah ad hs zo n na d r t c 2 ∧ u1 (u1 (u1 (u1 (u1 (u1 a 0 v0) 1 v1) 2 v2) 3 v3) 4 v4) 5 v5 3 = gFd wh rd rt bg en ho hw an ah ad hs zo n na d r t c 3 ∧ u1 (u1 (u1 (u1 (u1 (u1 a 0 v0) 1 v1) 2 v2) 3 v3) 4 v4) 5 v5 4 = gFd wh rd rt bg en ho hw an ah ad hs zo n na d r t c 4 ∧ u1 (u1 (u1 (u1 (u1 (u1 a 0 v0) 1 v1) 2 v2) 3 v3) 4 v4) 5 v5 5 = gFd wh rd rt bg en ho hw an ah ad hs zo n na d r t c 5 := by
  subst e1 e2 e3 q0 q1 q2 q3 q4 q5
  have hn : ¬ (fS wh rd rt hw (Fk an ah ad ho na d) c r t n.toNat).1 = 0 := by omega
  have e : ∀ i, gFd wh rd rt bg en ho hw an ah ad hs zo n na d r t c i = _ := fun i => if_neg hn
  rw [e 0, e 1, e 2, e 3, e 4, e 5]
  exact ⟨rfl, rfl, rfl, rfl, rfl, rfl⟩
end FA
/-! longs, exactly -/
theorem gl_lt {a b : Int} (ha : inL a) (hb : inL b) : iL a < iL b ↔ a < b := by
  rw [Int64.lt_iff_toInt_lt]
  unfold iL
  rw [Int64.toInt_ofInt_of_le (by have := ha.1; omega) (by have := ha.2; omega), Int64.toInt_ofInt_of_le (by have := hb.1; omega) (by have := hb.2; omega)]
section GX
variable {p : Program} {l : Launch} {e : Env} {R : Room} {s : State} {m : MethodId} {args : Array Value} {below : List Frame} {meth : Method} {c : Code} {H : Heap} {locs : List Loc} {cells slots : Nat} {Q : State → Prop}
variable {cc : ByteArray} {pc nL idx : Nat} {ls : Array Slot} {rest : List Value} {a b z : Int} {own : String} {D : va_G} {k : Nat → ClassId}
theorem gl_maxE (C : gC D k p s m args c cc own) (hml : c.maxLocals = nL) (hsz : ls.size = nL) (hm : Cond.methodLink own idx Lib.MathLoose.max_long.x ∈ gWs) (ha : inL a) (hb2 : inL b) (hfr : 1 ≤ R.frames) (hlo : (rest.map fun v => v.category).sum + 15 ≤ R.locals) (hdg : decode cc pc = .ok (.invokestatic idx, 3)) (kk : ∀ z : Int, (z = a ∨ z = b) ∧ a ≤ z ∧ b ≤ z → W p l e R s m args below meth c H locs 0 0 Q (F0 m (pc + 3) ls (.long (iL z) :: rest))) : W p l e R s m args below meth c H locs 0 0 Q (F0 m pc ls (.long (iL b) :: .long (iL a) :: rest)) := by
  refine va_mmax_long C.1 C.2.1 (hml.trans hsz.symm) C.2.2.2.1 (C.2.2.1 _ hm) (C.2.2.1 _ mS_math_maxl) (C.2.2.1 _ mN_J9) (C.2.2.1 _ mC_math_maxl) hfr hlo (Nat.zero_le _) (Nat.zero_le _) hdg ?_
  by_cases h : b < a
  · rw [if_pos ((gl_lt hb2 ha).mpr h)]; exact kk a ⟨Or.inl rfl, by omega, by omega⟩
  · rw [if_neg (fun q => h ((gl_lt hb2 ha).mp q))]; exact kk b ⟨Or.inr rfl, by omega, by omega⟩
theorem gl_minE (C : gC D k p s m args c cc own) (hml : c.maxLocals = nL) (hsz : ls.size = nL) (hm : Cond.methodLink own idx Lib.MathLoose.min_long.x ∈ gWs) (ha : inL a) (hb2 : inL b) (hfr : 1 ≤ R.frames) (hlo : (rest.map fun v => v.category).sum + 15 ≤ R.locals) (hdg : decode cc pc = .ok (.invokestatic idx, 3)) (kk : ∀ z : Int, (z = a ∨ z = b) ∧ z ≤ a ∧ z ≤ b → W p l e R s m args below meth c H locs 0 0 Q (F0 m (pc + 3) ls (.long (iL z) :: rest))) : W p l e R s m args below meth c H locs 0 0 Q (F0 m pc ls (.long (iL b) :: .long (iL a) :: rest)) := by
  refine va_mmin_long C.1 C.2.1 (hml.trans hsz.symm) C.2.2.2.1 (C.2.2.1 _ hm) (C.2.2.1 _ mS_math_minl) (C.2.2.1 _ mN_J9) (C.2.2.1 _ mC_math_minl) hfr hlo (Nat.zero_le _) (Nat.zero_le _) hdg ?_
  by_cases h : b < a
  · rw [if_pos ((gl_lt hb2 ha).mpr h)]; exact kk b ⟨Or.inr rfl, by omega, by omega⟩
  · rw [if_neg (fun q => h ((gl_lt hb2 ha).mp q))]; exact kk a ⟨Or.inl rfl, by omega, by omega⟩
theorem gl_l2iE (hx : p.tables.exec = Jvm.exec) (hb : c.code = cc) (ha : inR a) (hdg : decode cc pc = .ok (.l2i, 1)) (k : W p l e R s m args below meth c H locs cells slots Q (F0 m (pc + 1) ls (.int (iI a) :: rest))) : W p l e R s m args below meth c H locs cells slots Q (F0 m pc ls (.long (iL a) :: rest)) := by
  refine lv_l2i (v := iI a) hx hb hdg ?_ k
  show (Int64.ofInt a).toInt32 = Int32.ofInt a
  exact Int64.toInt32_ofInt
end GX
/-! points: the code worked out on facts -/
def bd (x : Int) : Int := if x < -1000000000 then -1000000000 else if 1000000000 < x then 1000000000 else x
theorem bd_r (x : Int) : -1000000000 ≤ bd x ∧ bd x ≤ 1000000000 := by unfold bd; repeat' split <;> omega
def evS (c x : Int) (fa : Int → Int) (S : List Int) : List Int :=
  if c ≤ 6 then (if c = 6 then x else fa c) :: S
  else if c = 10 then (match S with | [] => [] | a :: S => (-a) :: S)
  else (match S with | [] => [] | [a] => [a] | b :: a :: S => bd (if c = 9 then a * b else if c = 7 then a + b else a - b) :: S)
def evL (it nu fa : Int → Int) : Nat → List Int
  | 0 => []
  | k + 1 => evS (it (k : Int)) (nu (k : Int)) fa (evL it nu fa k)
def evT : List Int → Int
  | [] => 0
  | [a] => a
  | _ :: b :: S => evT (b :: S)
def evR (it nu fa : Int → Int) (m : Int) : Int := evT (evL it nu fa m.toNat)
def bdL (S : List Int) : Prop := ∀ x ∈ S, -1000000000 ≤ x ∧ x ≤ 1000000000
section EV
variable {it nu fa : Int → Int} {x c : Int} {S : List Int}
theorem evL_s (h : 0 ≤ x) : evL it nu fa (x + 1).toNat = evS (it x) (nu x) fa (evL it nu fa x.toNat) := by
  obtain ⟨j, rfl⟩ : ∃ j : Nat, x = (j : Int) := ⟨x.toNat, by omega⟩
  rw [show ((j : Int) + 1).toNat = j + 1 by omega, show ((j : Int)).toNat = j by omega]
  rfl
theorem evS_bd {y : Int} (hS : bdL S) (hy : -1000000000 ≤ y ∧ y ≤ 1000000000) (hf : ∀ i, 0 ≤ i → i < 6 → -1000000000 ≤ fa i ∧ fa i ≤ 1000000000) (hc : 0 ≤ c) : bdL (evS c y fa S) := by
  unfold evS
  split
  · intro q hq
    rcases List.mem_cons.mp hq with h | h
    · rw [h]; split
      · exact hy
      · exact hf c hc (by omega)
    · exact hS q h
  · split
    · cases S with
      | nil => exact hS
      | cons a S =>
        intro q hq
        rcases List.mem_cons.mp hq with h | h
        · have := hS a (List.mem_cons_self)
          rw [h]; omega
        · exact hS q (List.mem_cons_of_mem _ h)
    · match S, hS with
      | [], h => exact h
      | [a], h => exact h
      | b :: a :: S, h =>
        intro q hq
        rcases List.mem_cons.mp hq with h1 | h1
        · rw [h1]; exact bd_r _
        · exact h q (List.mem_cons_of_mem _ (List.mem_cons_of_mem _ h1))
theorem evL_bd (hn : ∀ k, 0 ≤ nu k ∧ nu k ≤ 999999) (hf : ∀ i, 0 ≤ i → i < 6 → -1000000000 ≤ fa i ∧ fa i ≤ 1000000000) (hc : ∀ k, 0 ≤ it k) : ∀ m : Nat, bdL (evL it nu fa m)
  | 0 => fun q hq => absurd hq (by show ¬ q ∈ ([] : List Int); simp)
  | m + 1 => evS_bd (evL_bd hn hf hc m) (by have := hn m; omega) hf (hc m)
theorem evT_bd : ∀ S : List Int, bdL S → -1000000000 ≤ evT S ∧ evT S ≤ 1000000000
  | [], _ => by decide
  | [a], h => h a (List.mem_cons_self)
  | _ :: b :: S, h => evT_bd (b :: S) (fun q hq => h q (List.mem_cons_of_mem _ hq))
theorem evL_fa {fb : Int → Int} (hc : ∀ k, 0 ≤ it k ∧ it k ≤ 11) (h : ∀ i, 0 ≤ i → i < 6 → fa i = fb i) : ∀ m : Nat, evL it nu fa m = evL it nu fb m
  | 0 => rfl
  | m + 1 => by
    show evS (it m) (nu m) fa (evL it nu fa m) = evS (it m) (nu m) fb (evL it nu fb m)
    rw [evL_fa hc h m]
    unfold evS
    by_cases c6 : it (m : Int) ≤ 6
    · rw [if_pos c6, if_pos c6]
      by_cases c7 : it (m : Int) = 6
      · rw [if_pos c7, if_pos c7]
      · rw [if_neg c7, if_neg c7, h _ (hc m).1 (by omega)]
    · rw [if_neg c6, if_neg c6]
theorem rep_bot {a : Int → Int} : ∀ (S : List Int) (w : Int), rep S a w → 0 < w → a 0 = evT S
  | [], w, h, h0 => by have h : w = 0 := h; omega
  | [x], w, h, _ => by
    have h1 : a (w - 1) = x := h.1
    have h2 : w - 1 = 0 := h.2
    show a 0 = x
    rw [← h1, h2]
  | x :: b :: S, w, h, h0 => by
    have h2 : rep (b :: S) a (w - 1) := h.2
    have := rep_len (b :: S) a (w - 1) h2
    simp only [List.length_cons] at this
    exact rep_bot (b :: S) (w - 1) h2 (by omega)
theorem rep_neg {a : Int → Int} {w i y : Int} (h : rep S a w) (h0 : 0 < w) (x c : Int) (hc : c = 10) (hi : i = w - 1) (hy : y = -(a i)) : rep (evS c x fa S) (u1 a i y) w := by
  subst hc hi
  cases S with
  | nil => have h : w = 0 := h; omega
  | cons b S =>
    have e : evS 10 x fa (b :: S) = (-b) :: S := rfl
    rw [e]
    refine ⟨by rw [u1_s, hy, h.1], rep_ext S a _ (w - 1) h.2 (fun j hj => u1_n (by omega))⟩
theorem rep_bin {a : Int → Int} {w i j v y : Int} (h : rep S a w) (h0 : 1 < w) (x c : Int) (hc : 6 < c ∧ c ≠ 10) (hi : i = w - 2) (hj : j = w - 1) (hv : v = w - 1) (hy : y = bd (if c = 9 then a i * a j else if c = 7 then a i + a j else a i - a j)) : rep (evS c x fa S) (u1 a i y) v := by
  subst hi hj hv
  match S, h with
  | [], h => have h : w = 0 := h; omega
  | [b], h => have h1 : w - 1 = 0 := h.2; omega
  | b :: d :: S, h =>
    have e : evS c x fa (b :: d :: S) = bd (if c = 9 then d * b else if c = 7 then d + b else d - b) :: S := by
      unfold evS
      rw [if_neg (by omega), if_neg hc.2]
    have h1 : a (w - 1) = b := h.1
    have h2 : a (w - 1 - 1) = d := h.2.1
    rw [show w - 1 - 1 = w - 2 by omega] at h2
    rw [e, ← h1, ← h2]
    refine ⟨by rw [show w - 1 - 1 = w - 2 by omega, u1_s, hy], ?_⟩
    have h3 : rep S a (w - 1 - 1) := h.2.2
    exact rep_ext S a _ (w - 1 - 1) h3 (fun j hj => u1_n (by omega))
theorem rep_bnd {a : Int → Int} : ∀ (S : List Int) (w : Int), rep S a w → bdL S → ∀ i, 0 ≤ i → i < w → -1000000000 ≤ a i ∧ a i ≤ 1000000000
  | [], w, h, _, i, h0, h1 => by have h : w = 0 := h; omega
  | x :: S, w, h, hb, i, h0, h1 => by
    by_cases e : i = w - 1
    · rw [e, h.1]; exact hb x (List.mem_cons_self)
    · exact rep_bnd S (w - 1) h.2 (fun q hq => hb q (List.mem_cons_of_mem _ hq)) i h0 (by omega)
theorem rep_em {a : Int → Int} {w : Int} (h : rep S a w) (h0 : w ≤ 0) : evT S = 0 := by
  cases S with
  | nil => rfl
  | cons b S => have := rep_len _ a w h; simp only [List.length_cons] at this; omega
theorem wk_in {c a b z : Int} (ha : -1000000000 ≤ a ∧ a ≤ 1000000000) (hb : -1000000000 ≤ b ∧ b ≤ 1000000000) (hz : z = if c = 9 then a * b else if c = 7 then a + b else a - b) : inL z := by
  have h1 : a * b ≤ 1000000000000000000 ∧ -1000000000000000000 ≤ a * b := by
    have e1 : a * b ≤ (a * b).natAbs := by omega
    have e2 : -((a * b).natAbs : Int) ≤ a * b := by omega
    have e3 : (a * b).natAbs = a.natAbs * b.natAbs := Int.natAbs_mul a b
    have e4 : a.natAbs * b.natAbs ≤ 1000000000 * 1000000000 := Nat.mul_le_mul (by omega) (by omega)
    omega
  rw [hz]
  unfold inL
  repeat' split
  all_goals omega
theorem rep_num {a : Int → Int} {w y : Int} (h : rep S a w) (x c : Int) (hc : c ≤ 6) (hy : (c = 6 ∧ y = x) ∨ (c ≠ 6 ∧ y = fa c)) : rep (evS c x fa S) (u1 a w y) (w + 1) := by
  have e : evS c x fa S = y :: S := by
    unfold evS
    rw [if_pos hc]
    rcases hy with ⟨h1, h2⟩ | ⟨h1, h2⟩
    · rw [if_pos h1, h2]
    · rw [if_neg h1, h2]
  rw [e]
  exact rep_push h
theorem rep_low {a : Int → Int} {w : Int} (h : rep S a w) (h0 : w ≤ 0) (x c : Int) (hc : 6 < c) : rep (evS c x fa S) a w := by
  cases S with
  | nil =>
    have e : evS c x fa [] = [] := by
      unfold evS
      rw [if_neg (by omega)]
      split <;> rfl
    rw [e]; exact h
  | cons b S => have := rep_len _ a w h; simp only [List.length_cons] at this; omega
theorem rep_low1 {a : Int → Int} {w : Int} (h : rep S a w) (h0 : w ≤ 1) (x c : Int) (hc : 6 < c ∧ c ≠ 10) : rep (evS c x fa S) a w := by
  match S, h with
  | [], h => exact rep_low h (by have h : w = 0 := h; omega) x c hc.1
  | [b], h =>
    have e : evS c x fa [b] = [b] := by
      unfold evS
      rw [if_neg (by omega), if_neg hc.2]
    rw [e]; exact h
  | b :: d :: S, h => have := rep_len _ a w h; simp only [List.length_cons] at this; omega
end EV
