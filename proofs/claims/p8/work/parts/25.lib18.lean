/-! outcomes of the class's reader -/
theorem fk_rng (B : Int → Int) (n p : Int) : 1 ≤ fk B n p ∧ fk B n p ≤ 2 := by unfold fk; split <;> decide
theorem fk_p {B : Int → Int} {n p : Int} (h : tK B n p = 257) : fk B n p = 1 := if_pos h
theorem fk_n {B : Int → Int} {n p : Int} (h : tK B n p ≠ 257) : fk B n p = 2 := if_neg h
theorem tie_ok {B : Int → Int} {n p : Int} (h : tK B n p = 264 ∨ tK B n p = 265) : tie B n p = (0, tX B n p) := if_pos h
theorem tie_bad {B : Int → Int} {n p : Int} (h : ¬ (tK B n p = 264 ∨ tK B n p = 265)) : tie B n p = (fk B n p, p) := if_neg h
def ky1 (B : Int → Int) (n c p : Int) : Int × Int := if tK B n p ≠ 266 ∧ tK B n p ≠ 267 then (fk B n p, p) else if 4 ≤ c then (3, p) else if tK B n (tX B n p) < 268 ∨ 271 < tK B n (tX B n p) then (fk B n (tX B n p), tX B n p) else (0, tX B n (tX B n p))
section KY
variable {B : Int → Int} {n c p : Int}
theorem ky1_a (h : tK B n p ≠ 266 ∧ tK B n p ≠ 267) : ky1 B n c p = (fk B n p, p) := if_pos h
theorem ky1_b (h : tK B n p = 266 ∨ tK B n p = 267) (hc : 4 ≤ c) : ky1 B n c p = (3, p) := by unfold ky1; rw [if_neg (by omega), if_pos hc]
theorem ky1_c (h : tK B n p = 266 ∨ tK B n p = 267) (hc : c < 4) (h2 : tK B n (tX B n p) < 268 ∨ 271 < tK B n (tX B n p)) : ky1 B n c p = (fk B n (tX B n p), tX B n p) := by unfold ky1; rw [if_neg (by omega), if_neg (by omega), if_pos h2]
theorem ky1_d (h : tK B n p = 266 ∨ tK B n p = 267) (hc : c < 4) (h2 : 268 ≤ tK B n (tX B n p) ∧ tK B n (tX B n p) ≤ 271) : ky1 B n c p = (0, tX B n (tX B n p)) := by unfold ky1; rw [if_neg (by omega), if_neg (by omega), if_neg (by omega)]
theorem kys_ky1 (h0 : 0 ≤ c) (h4 : c ≤ 4) : kys B n (4 - c).toNat p = if (ky1 B n c p).1 ≠ 0 then ky1 B n c p else if tK B n (ky1 B n c p).2 = 44 then kys B n (4 - (c + 1)).toNat (tX B n (ky1 B n c p).2) else ky1 B n c p := by
  have hf := fk_rng B n p
  have hf2 := fk_rng B n (tX B n p)
  by_cases e4 : c = 4
  · subst e4
    show kys B n 0 p = _
    unfold kys
    by_cases h1 : tK B n p ≠ 266 ∧ tK B n p ≠ 267
    · rw [if_pos h1, ky1_a h1, if_pos (by show fk B n p ≠ 0; omega)]
    · rw [if_neg h1, ky1_b (by omega) (by omega), if_pos (by show (3 : Int) ≠ 0; decide)]
  · rw [show (4 - c).toNat = (4 - (c + 1)).toNat + 1 by omega]
    conv => lhs; unfold kys
    by_cases h1 : tK B n p ≠ 266 ∧ tK B n p ≠ 267
    · rw [if_pos h1, ky1_a h1, if_pos (by show fk B n p ≠ 0; omega)]
    · rw [if_neg h1]
      by_cases h2 : tK B n (tX B n p) < 268 ∨ 271 < tK B n (tX B n p)
      · rw [if_pos h2, ky1_c (by omega) (by omega) h2, if_pos (by show fk B n (tX B n p) ≠ 0; omega)]
      · rw [if_neg h2, ky1_d (by omega) (by omega) (by omega)]
        exact (if_neg (fun h => h rfl)).symm
theorem kys_stop (h0 : 0 ≤ c) (h4 : c ≤ 4) (h : (ky1 B n c p).1 ≠ 0 ∨ tK B n (ky1 B n c p).2 ≠ 44) : kys B n (4 - c).toNat p = ky1 B n c p := by
  rw [kys_ky1 h0 h4]
  by_cases h1 : (ky1 B n c p).1 ≠ 0
  · rw [if_pos h1]
  · rw [if_neg h1]
    rcases h with h | h
    · exact absurd h h1
    · rw [if_neg h]
theorem kys_go (h0 : 0 ≤ c) (h4 : c ≤ 4) (h1 : (ky1 B n c p).1 = 0) (h : tK B n (ky1 B n c p).2 = 44) : kys B n (4 - c).toNat p = kys B n (4 - (c + 1)).toNat (tX B n (ky1 B n c p).2) := by
  rw [kys_ky1 h0 h4, if_neg (fun h => h h1), if_pos h]
theorem ky1_lt (h : (ky1 B n c p).1 = 0) : c < 4 := by
  have hf := fk_rng B n p
  by_cases e : c < 4
  · exact e
  · exfalso
    by_cases h1 : tK B n p ≠ 266 ∧ tK B n p ≠ 267
    · rw [ky1_a h1] at h; have h : fk B n p = 0 := h; omega
    · rw [ky1_b (by omega) (by omega)] at h; have h : (3 : Int) = 0 := h; exact absurd h (by decide)
theorem rnd_0 {i : Int} : rnd B n 0 i p = (0, p) := rfl
theorem rnd_a {k : Nat} {i : Int} (h : tK B n p ≠ 258) : rnd B n (k + 1) i p = (fk B n p, p) := by unfold rnd; rw [if_pos h]
theorem rnd_b {k : Nat} {i : Int} (h : tK B n p = 258) (h2 : tV B n p < gElo i.toNat ∨ gEhi i.toNat < tV B n p) : rnd B n (k + 1) i p = (4, p) := by unfold rnd; rw [if_neg (fun q => q h), if_pos h2]
theorem rnd_c {k : Nat} {i : Int} (h : tK B n p = 258) (h2 : gElo i.toNat ≤ tV B n p ∧ tV B n p ≤ gEhi i.toNat) : rnd B n (k + 1) i p = rnd B n k (i + 1) (tX B n p) := by conv => lhs; unfold rnd; rw [if_neg (fun q => q h), if_neg (show ¬ (tV B n p < gElo i.toNat ∨ gEhi i.toNat < tV B n p) by omega)]
end KY
def oX (B : Int → Int) (n : Int) (K P V : Int → Int) (m : Int) (o : Int × Int) (fa fp fp0 a : Int) : Prop := fa = o.1 ∧ (o.1 = 0 → fp = fp0) ∧ (o.1 ≠ 0 → fp = o.2) ∧ tAt B n K P V m a o.2
section OX
variable {B : Int → Int} {n : Int} {K P V : Int → Int} {m fa fp fp0 a fa' fp' a' k q : Int} {o : Int × Int}
theorem tAt_eq (h : tAt B n K P V m a q) (e : a' = a) : tAt B n K P V m a' q := by rw [e]; exact h
theorem oX_ok (h : o = (0, q)) (h1 : fa = 0) (h2 : fp = fp0) (h3 : tAt B n K P V m a q) : oX B n K P V m o fa fp fp0 a := by rw [h]; exact ⟨h1, fun _ => h2, fun h => absurd rfl h, h3⟩
theorem oX_bad (h : o = (k, q)) (hk : k ≠ 0) (h1 : fa = k) (h2 : fp = q) (h3 : tAt B n K P V m a q) : oX B n K P V m o fa fp fp0 a := by rw [h]; exact ⟨h1, fun h => absurd h hk, fun _ => h2, h3⟩
theorem oX_semi (h : oX B n K P V m o fa fp fp0 a) (h0 : fa = 0 → tK B n o.2 = 59 → fa' = 0 ∧ fp' = fp) (h1 : fa = 0 → tK B n o.2 ≠ 59 → fa' = fk B n o.2 ∧ fp' = o.2 ∧ a' = a) (h2 : fa ≠ 0 → fa' = fa ∧ fp' = fp ∧ a' = a) (h3 : fa = 0 → tK B n o.2 = 59 → tAt B n K P V m a' (tX B n o.2)) : oX B n K P V m (semi B n o) fa' fp' fp0 a' := by
  obtain ⟨e1, e2, e3, e4⟩ := h
  have hf := fk_rng B n o.2
  unfold semi
  by_cases c1 : o.1 ≠ 0
  · rw [if_pos c1]
    have := h2 (by omega)
    exact ⟨by omega, fun h => absurd h c1, fun _ => by rw [this.2.1]; exact e3 c1, by rw [this.2.2]; exact e4⟩
  · rw [if_neg c1]
    have c0 : o.1 = 0 := by omega
    by_cases c2 : tK B n o.2 ≠ 59
    · rw [if_pos c2]
      have := h1 (by omega) c2
      exact oX_bad rfl (by omega) this.1 this.2.1 (by rw [this.2.2]; exact e4)
    · rw [if_neg c2]
      have := h0 (by omega) (by omega)
      exact oX_ok rfl this.1 (by rw [this.2]; exact e2 c0) (h3 (by omega) (by omega))
end OX
/-! places go up -/
theorem tX_ge {B : Int → Int} {n q : Int} (h : q ≤ n) : q ≤ tX B n q ∧ tX B n q ≤ n := by
  by_cases e : q < n
  · have := tX_up (B := B) e; omega
  · have h1 := runW_spec B n (tE B n q)
    unfold tX
    rw [tE_N (by omega)] at h1 ⊢
    exact ⟨h1.1, h1.2.1 h⟩
theorem rnd_ge {B : Int → Int} {n : Int} : ∀ (k : Nat) (i p : Int), p ≤ n → p ≤ (rnd B n k i p).2 ∧ (rnd B n k i p).2 ≤ n := by
  intro k
  induction k with
  | zero => intro i p h; exact ⟨Int.le_refl p, h⟩
  | succ k ih =>
    intro i p h
    unfold rnd
    by_cases h1 : tK B n p ≠ 258
    · rw [if_pos h1]; exact ⟨Int.le_refl p, h⟩
    · rw [if_neg h1]
      by_cases h2 : tV B n p < gElo i.toNat ∨ gEhi i.toNat < tV B n p
      · rw [if_pos h2]; exact ⟨Int.le_refl p, h⟩
      · rw [if_neg h2]
        have h3 := tX_ge (B := B) h
        have h4 := ih (i + 1) (tX B n p) h3.2
        omega
theorem kys_ge {B : Int → Int} {n : Int} : ∀ (k : Nat) (p : Int), p ≤ n → p ≤ (kys B n k p).2 ∧ (kys B n k p).2 ≤ n := by
  intro k
  induction k with
  | zero =>
    intro p h
    unfold kys
    split <;> exact ⟨Int.le_refl p, h⟩
  | succ k ih =>
    intro p h
    have h1 := tX_ge (B := B) h
    have h2 := tX_ge (B := B) h1.2
    have h3 := tX_ge (B := B) h2.2
    have h4 := ih (tX B n (tX B n (tX B n p))) h3.2
    unfold kys
    by_cases c1 : tK B n p ≠ 266 ∧ tK B n p ≠ 267
    · rw [if_pos c1]; exact ⟨Int.le_refl p, h⟩
    · rw [if_neg c1]
      by_cases c2 : tK B n (tX B n p) < 268 ∨ 271 < tK B n (tX B n p)
      · rw [if_pos c2]; exact h1
      · rw [if_neg c2]
        by_cases c3 : tK B n (tX B n (tX B n p)) = 44
        · rw [if_pos c3]; omega
        · rw [if_neg c3]; show p ≤ tX B n (tX B n p) ∧ tX B n (tX B n p) ≤ n; omega
theorem exF_ge {B : Int → Int} {n : Int} : ∀ (k : Nat) (p h : Int) (S : List Int) (E : List (Int × Int)), p ≤ n → p ≤ (exF B n k p h S E).2.1 ∧ (exF B n k p h S E).2.1 ≤ n := by
  intro k
  induction k with
  | zero => intro p h S E hp; exact ⟨Int.le_refl p, hp⟩
  | succ k ih =>
    intro p h S E hp
    have h1 := tX_ge (B := B) hp
    have base : p ≤ p ∧ p ≤ n := ⟨Int.le_refl p, hp⟩
    have step : ∀ h' S' E', p ≤ (exF B n k (tX B n p) h' S' E').2.1 ∧ (exF B n k (tX B n p) h' S' E').2.1 ≤ n := fun h' S' E' => by have := ih (tX B n p) h' S' E' h1.2; omega
    unfold exF
    repeat' split
    all_goals first | exact base | exact step _ _ _
theorem law1_ge {B : Int → Int} {n p r t1 t2 t3 : Int} (hp : p < n) (h : (law1 B n p r t1 t2 t3).1 = 0) : p + 1 ≤ (law1 B n p r t1 t2 t3).2 := by
  have h1 := tX_up (B := B) hp
  have h0 : p ≤ (law0 B n p r t1 t2 t3).2 ∧ (law0 B n p r t1 t2 t3).2 ≤ n := by
    have a1 := rnd_ge (B := B) 4 0 (tX B n p) h1.2
    have a2 := exF_ge (B := B) 702 (tX B n p) 0 [] [] h1.2
    have a3 := kys_ge (B := B) 4 (tX B n p) h1.2
    have h2 := tX_ge (B := B) h1.2
    unfold law0 exO tie
    repeat' split
    all_goals (first | exact ⟨Int.le_refl p, Int.le_of_lt hp⟩ | omega | (constructor <;> show _ ≤ _ <;> omega))
  unfold law1 semi at h ⊢
  by_cases c1 : (law0 B n p r t1 t2 t3).1 ≠ 0
  · rw [if_pos c1] at h; exact absurd h c1
  · rw [if_neg c1] at h ⊢
    by_cases c2 : tK B n (law0 B n p r t1 t2 t3).2 ≠ 59
    · rw [if_pos c2] at h
      have hf := fk_rng B n (law0 B n p r t1 t2 t3).2
      have h : fk B n (law0 B n p r t1 t2 t3).2 = 0 := h
      omega
    · rw [if_neg c2]
      show p + 1 ≤ tX B n (law0 B n p r t1 t2 t3).2
      have c3 : (law0 B n p r t1 t2 t3).2 < n := by
        have := (not_congr (tK_end (B := B) (n := n) (q := (law0 B n p r t1 t2 t3).2))).mp (by omega)
        omega
      have := tX_up (B := B) c3
      omega
theorem txt_end {B : Int → Int} {n p r t1 t2 t3 : Int} (k : Nat) (h : tK B n p = 256) : txt B n (k + 1) p r t1 t2 t3 = (0, p, r) := by unfold txt; rw [if_pos h]
theorem txt_bad {B : Int → Int} {n p r t1 t2 t3 : Int} (k : Nat) (h : tK B n p ≠ 256) (h1 : (law1 B n p r t1 t2 t3).1 ≠ 0) : txt B n (k + 1) p r t1 t2 t3 = ((law1 B n p r t1 t2 t3).1, (law1 B n p r t1 t2 t3).2, r) := by unfold txt; rw [if_neg h, if_pos h1]
theorem txt_go {B : Int → Int} {n p r t1 t2 t3 r' u1_ u2 u3 : Int} (k : Nat) (h : tK B n p ≠ 256) (h1 : (law1 B n p r t1 t2 t3).1 = 0) (hr : r' = (if tK B n p = 260 then r + 1 else r)) (e1 : u1_ = (if tK B n p = 261 then 1 else t1)) (e2 : u2 = (if tK B n p = 262 then 1 else t2)) (e3 : u3 = (if tK B n p = 263 then 1 else t3)) : txt B n (k + 1) p r t1 t2 t3 = txt B n k (law1 B n p r t1 t2 t3).2 r' u1_ u2 u3 := by
  conv => lhs; unfold txt
  rw [if_neg h, if_neg (fun q => q h1), hr, e1, e2, e3]
