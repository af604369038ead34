section
/-! outcomes of the class's reader -/
theorem fk_rng (B : Int → Int) (n p : Int) : 1 ≤ fk B n p ∧ fk B n p ≤ 2 := by unfold fk; split <;> decide
theorem fk_p {B : Int → Int} {n p : Int} (h : tK B n p = 257) : fk B n p = 1 := if_pos h
theorem fk_n {B : Int → Int} {n p : Int} (h : tK B n p ≠ 257) : fk B n p = 2 := if_neg h
theorem tie_ok {B : Int → Int} {n p : Int} (h : tK B n p = 264 ∨ tK B n p = 265) : tie B n p = (0, tX B n p) := if_pos h
theorem tie_bad {B : Int → Int} {n p : Int} (h : ¬ (tK B n p = 264 ∨ tK B n p = 265)) : tie B n p = (fk B n p, p) := if_neg h
def ky1 (B : Int → Int) (n c p : Int) : Int × Int := if tK B n p ≠ 266 ∧ tK B n p ≠ 267 then (fk B n p, p) else if 4 ≤ c then (3, p) else if tK B n (tX B n p) < 268 ∨ 271 < tK B n (tX B n p) then (fk B n (tX B n p), tX B n p) else (0, tX B n (tX B n p))
section KY
variable {B : Int → Int} {n c p : Int}
theorem ky1_a (h : tK B n p ≠ 266 ∧ tK B n p ≠ 267) : ky1 B n c p = (fk B n p, p) := if_pos h
theorem ky1_b (h : tK B n p = 266 ∨ tK B n p = 267) (hc : 4 ≤ c) : ky1 B n c p = (3, p) := by unfold ky1; rw [if_neg (by omega), if_pos hc]
theorem ky1_c (h : tK B n p = 266 ∨ tK B n p = 267) (hc : c < 4) (h2 : tK B n (tX B n p) < 268 ∨ 271 < tK B n (tX B n p)) : ky1 B n c p = (fk B n (tX B n p), tX B n p) := by unfold ky1; rw [if_neg (by omega), if_neg (by omega), if_pos h2]
theorem ky1_d (h : tK B n p = 266 ∨ tK B n p = 267) (hc : c < 4) (h2 : 268 ≤ tK B n (tX B n p) ∧ tK B n (tX B n p) ≤ 271) : ky1 B n c p = (0, tX B n (tX B n p)) := by unfold ky1; rw [if_neg (by omega), if_neg (by omega), if_neg (by omega)]
theorem kys_ky1 (h0 : 0 ≤ c) (h4 : c ≤ 4) : kys B n (4 - c).toNat p = if (ky1 B n c p).1 ≠ 0 then ky1 B n c p else if tK B n (ky1 B n c p).2 = 44 then kys B n (4 - (c + 1)).toNat (tX B n (ky1 B n c p).2) else ky1 B n c p := by
  have hf := fk_rng B n p
  have hf2 := fk_rng B n (tX B n p)
  by_cases e4 : c = 4
  · subst e4
    show kys B n 0 p = _
    unfold kys
    by_cases h1 : tK B n p ≠ 266 ∧ tK B n p ≠ 267
    · rw [if_pos h1, ky1_a h1, if_pos (by show fk B n p ≠ 0; omega)]
    · rw [if_neg h1, ky1_b (by omega) (by omega), if_pos (by show (3 : Int) ≠ 0; decide)]
  · rw [show (4 - c).toNat = (4 - (c + 1)).toNat + 1 by omega]
    conv => lhs; unfold kys
    by_cases h1 : tK B n p ≠ 266 ∧ tK B n p ≠ 267
    · rw [if_pos h1, ky1_a h1, if_pos (by show fk B n p ≠ 0; omega)]
    · rw [if_neg h1]
      by_cases h2 : tK B n (tX B n p) < 268 ∨ 271 < tK B n (tX B n p)
      · rw [if_pos h2, ky1_c (by omega) (by omega) h2, if_pos (by show fk B n (tX B n p) ≠ 0; omega)]
      · rw [if_neg h2, ky1_d (by omega) (by omega) (by omega)]
        exact (if_neg (fun h => h rfl)).symm
theorem kys_stop (h0 : 0 ≤ c) (h4 : c ≤ 4) (h : (ky1 B n c p).1 ≠ 0 ∨ tK B n (ky1 B n c p).2 ≠ 44) : kys B n (4 - c).toNat p = ky1 B n c p := by
  rw [kys_ky1 h0 h4]
  by_cases h1 : (ky1 B n c p).1 ≠ 0
  · rw [if_pos h1]
  · rw [if_neg h1]
    rcases h with h | h
    · exact absurd h h1
    · rw [if_neg h]
theorem kys_go (h0 : 0 ≤ c) (h4 : c ≤ 4) (h1 : (ky1 B n c p).1 = 0) (h : tK B n (ky1 B n c p).2 = 44) : kys B n (4 - c).toNat p = kys B n (4 - (c + 1)).toNat (tX B n (ky1 B n c p).2) := by
  rw [kys_ky1 h0 h4, if_neg (fun h => h h1), if_pos h]
theorem ky1_lt (h : (ky1 B n c p).1 = 0) : c < 4 := by
  have hf := fk_rng B n p
  by_cases e : c < 4
  · exact e
  · exfalso
    by_cases h1 : tK B n p ≠ 266 ∧ tK B n p ≠ 267
    · rw [ky1_a h1] at h; have h : fk B n p = 0 := h; omega
    · rw [ky1_b (by omega) (by omega)] at h; have h : (3 : Int) = 0 := h; exact absurd h (by decide)
theorem rnd_0 {i : Int} : rnd B n 0 i p = (0, p) := rfl
theorem rnd_a {k : Nat} {i : Int} (h : tK B n p ≠ 258) : rnd B n (k + 1) i p = (fk B n p, p) := by unfold rnd; rw [if_pos h]
theorem rnd_b {k : Nat} {i : Int} (h : tK B n p = 258) (h2 : tV B n p < gElo i.toNat ∨ gEhi i.toNat < tV B n p) : rnd B n (k + 1) i p = (4, p) := by unfold rnd; rw [if_neg (fun q => q h), if_pos h2]
theorem rnd_c {k : Nat} {i : Int} (h : tK B n p = 258) (h2 : gElo i.toNat ≤ tV B n p ∧ tV B n p ≤ gEhi i.toNat) : rnd B n (k + 1) i p = rnd B n k (i + 1) (tX B n p) := by conv => lhs; unfold rnd; rw [if_neg (fun q => q h), if_neg (show ¬ (tV B n p < gElo i.toNat ∨ gEhi i.toNat < tV B n p) by omega)]
end KY
def oX (B : Int → Int) (n : Int) (K P V : Int → Int) (m : Int) (o : Int × Int) (fa fp fp0 a : Int) : Prop := fa = o.1 ∧ (o.1 = 0 → fp = fp0) ∧ (o.1 ≠ 0 → fp = o.2) ∧ tAt B n K P V m a o.2
section OX
variable {B : Int → Int} {n : Int} {K P V : Int → Int} {m fa fp fp0 a fa' fp' a' k q : Int} {o : Int × Int}
theorem tAt_eq (h : tAt B n K P V m a q) (e : a' = a) : tAt B n K P V m a' q := by rw [e]; exact h
theorem oX_ok (h : o = (0, q)) (h1 : fa = 0) (h2 : fp = fp0) (h3 : tAt B n K P V m a q) : oX B n K P V m o fa fp fp0 a := by rw [h]; exact ⟨h1, fun _ => h2, fun h => absurd rfl h, h3⟩
theorem oX_bad (h : o = (k, q)) (hk : k ≠ 0) (h1 : fa = k) (h2 : fp = q) (h3 : tAt B n K P V m a q) : oX B n K P V m o fa fp fp0 a := by rw [h]; exact ⟨h1, fun h => absurd h hk, fun _ => h2, h3⟩
theorem oX_semi (h : oX B n K P V m o fa fp fp0 a) (h0 : fa = 0 → tK B n o.2 = 59 → fa' = 0 ∧ fp' = fp) (h1 : fa = 0 → tK B n o.2 ≠ 59 → fa' = fk B n o.2 ∧ fp' = o.2 ∧ a' = a) (h2 : fa ≠ 0 → fa' = fa ∧ fp' = fp ∧ a' = a) (h3 : fa = 0 → tK B n o.2 = 59 → tAt B n K P V m a' (tX B n o.2)) : oX B n K P V m (semi B n o) fa' fp' fp0 a' := by
  obtain ⟨e1, e2, e3, e4⟩ := h
  have hf := fk_rng B n o.2
  unfold semi
  by_cases c1 : o.1 ≠ 0
  · rw [if_pos c1]
    have := h2 (by omega)
    exact ⟨by omega, fun h => absurd h c1, fun _ => by rw [this.2.1]; exact e3 c1, by rw [this.2.2]; exact e4⟩
  · rw [if_neg c1]
    have c0 : o.1 = 0 := by omega
    by_cases c2 : tK B n o.2 ≠ 59
    · rw [if_pos c2]
      have := h1 (by omega) c2
      exact oX_bad rfl (by omega) this.1 this.2.1 (by rw [this.2.2]; exact e4)
    · rw [if_neg c2]
      have := h0 (by omega) (by omega)
      exact oX_ok rfl this.1 (by rw [this.2]; exact e2 c0) (h3 (by omega) (by omega))
end OX
/-! places go up -/
theorem tX_ge {B : Int → Int} {n q : Int} (h : q ≤ n) : q ≤ tX B n q ∧ tX B n q ≤ n := by
  by_cases e : q < n
  · have := tX_up (B := B) e; omega
  · have h1 := runW_spec B n (tE B n q)
    unfold tX
    rw [tE_N (by omega)] at h1 ⊢
    exact ⟨h1.1, h1.2.1 h⟩
theorem rnd_ge {B : Int → Int} {n : Int} : ∀ (k : Nat) (i p : Int), p ≤ n → p ≤ (rnd B n k i p).2 ∧ (rnd B n k i p).2 ≤ n := by
  intro k
  induction k with
  | zero => intro i p h; exact ⟨Int.le_refl p, h⟩
  | succ k ih =>
    intro i p h
    unfold rnd
    by_cases h1 : tK B n p ≠ 258
    · rw [if_pos h1]; exact ⟨Int.le_refl p, h⟩
    · rw [if_neg h1]
      by_cases h2 : tV B n p < gElo i.toNat ∨ gEhi i.toNat < tV B n p
      · rw [if_pos h2]; exact ⟨Int.le_refl p, h⟩
      · rw [if_neg h2]
        have h3 := tX_ge (B := B) h
        have h4 := ih (i + 1) (tX B n p) h3.2
        omega
theorem kys_ge {B : Int → Int} {n : Int} : ∀ (k : Nat) (p : Int), p ≤ n → p ≤ (kys B n k p).2 ∧ (kys B n k p).2 ≤ n := by
  intro k
  induction k with
  | zero =>
    intro p h
    unfold kys
    split <;> exact ⟨Int.le_refl p, h⟩
  | succ k ih =>
    intro p h
    have h1 := tX_ge (B := B) h
    have h2 := tX_ge (B := B) h1.2
    have h3 := tX_ge (B := B) h2.2
    have h4 := ih (tX B n (tX B n (tX B n p))) h3.2
    unfold kys
    by_cases c1 : tK B n p ≠ 266 ∧ tK B n p ≠ 267
    · rw [if_pos c1]; exact ⟨Int.le_refl p, h⟩
    · rw [if_neg c1]
      by_cases c2 : tK B n (tX B n p) < 268 ∨ 271 < tK B n (tX B n p)
      · rw [if_pos c2]; exact h1
      · rw [if_neg c2]
        by_cases c3 : tK B n (tX B n (tX B n p)) = 44
        · rw [if_pos c3]; omega
        · rw [if_neg c3]; show p ≤ tX B n (tX B n p) ∧ tX B n (tX B n p) ≤ n; omega
theorem exF_ge {B : Int → Int} {n : Int} : ∀ (k : Nat) (p h : Int) (S : List Int) (E : List (Int × Int)), p ≤ n → p ≤ (exF B n k p h S E).2.1 ∧ (exF B n k p h S E).2.1 ≤ n := by
  intro k
  induction k with
  | zero => intro p h S E hp; exact ⟨Int.le_refl p, hp⟩
  | succ k ih =>
    intro p h S E hp
    have h1 := tX_ge (B := B) hp
    have base : p ≤ p ∧ p ≤ n := ⟨Int.le_refl p, hp⟩
    have step : ∀ h' S' E', p ≤ (exF B n k (tX B n p) h' S' E').2.1 ∧ (exF B n k (tX B n p) h' S' E').2.1 ≤ n := fun h' S' E' => by have := ih (tX B n p) h' S' E' h1.2; omega
    unfold exF
    repeat' split
    all_goals first | exact base | exact step _ _ _
theorem law1_ge {B : Int → Int} {n p r t1 t2 t3 : Int} (hp : p < n) (h : (law1 B n p r t1 t2 t3).1 = 0) : p + 1 ≤ (law1 B n p r t1 t2 t3).2 := by
  have h1 := tX_up (B := B) hp
  have h0 : p ≤ (law0 B n p r t1 t2 t3).2 ∧ (law0 B n p r t1 t2 t3).2 ≤ n := by
    have a1 := rnd_ge (B := B) 4 0 (tX B n p) h1.2
    have a2 := exF_ge (B := B) 702 (tX B n p) 0 [] [] h1.2
    have a3 := kys_ge (B := B) 4 (tX B n p) h1.2
    have h2 := tX_ge (B := B) h1.2
    unfold law0 exO tie
    repeat' split
    all_goals (first | exact ⟨Int.le_refl p, Int.le_of_lt hp⟩ | omega | (constructor <;> show _ ≤ _ <;> omega))
  unfold law1 semi at h ⊢
  by_cases c1 : (law0 B n p r t1 t2 t3).1 ≠ 0
  · rw [if_pos c1] at h; exact absurd h c1
  · rw [if_neg c1] at h ⊢
    by_cases c2 : tK B n (law0 B n p r t1 t2 t3).2 ≠ 59
    · rw [if_pos c2] at h
      have hf := fk_rng B n (law0 B n p r t1 t2 t3).2
      have h : fk B n (law0 B n p r t1 t2 t3).2 = 0 := h
      omega
    · rw [if_neg c2]
      show p + 1 ≤ tX B n (law0 B n p r t1 t2 t3).2
      have c3 : (law0 B n p r t1 t2 t3).2 < n := by
        have := (not_congr (tK_end (B := B) (n := n) (q := (law0 B n p r t1 t2 t3).2))).mp (by omega)
        omega
      have := tX_up (B := B) c3
      omega
theorem txt_end {B : Int → Int} {n p r t1 t2 t3 : Int} (k : Nat) (h : tK B n p = 256) : txt B n (k + 1) p r t1 t2 t3 = (0, p, r) := by unfold txt; rw [if_pos h]
theorem txt_bad {B : Int → Int} {n p r t1 t2 t3 : Int} (k : Nat) (h : tK B n p ≠ 256) (h1 : (law1 B n p r t1 t2 t3).1 ≠ 0) : txt B n (k + 1) p r t1 t2 t3 = ((law1 B n p r t1 t2 t3).1, (law1 B n p r t1 t2 t3).2, r) := by unfold txt; rw [if_neg h, if_pos h1]
theorem txt_go {B : Int → Int} {n p r t1 t2 t3 r' u1_ u2 u3 : Int} (k : Nat) (h : tK B n p ≠ 256) (h1 : (law1 B n p r t1 t2 t3).1 = 0) (hr : r' = (if tK B n p = 260 then r + 1 else r)) (e1 : u1_ = (if tK B n p = 261 then 1 else t1)) (e2 : u2 = (if tK B n p = 262 then 1 else t2)) (e3 : u3 = (if tK B n p = 263 then 1 else t3)) : txt B n (k + 1) p r t1 t2 t3 = txt B n k (law1 B n p r t1 t2 t3).2 r' u1_ u2 u3 := by
  conv => lhs; unfold txt
  rw [if_neg h, if_neg (fun q => q h1), hr, e1, e2, e3]
end

section
theorem dG_dX3_note_0 : (decode cX3_note 0 = .ok (.aload_n 0, 1)) ∧ (decode cX3_note 1 = .ok (.getfield 32, 3)) ∧ (decode cX3_note 4 = .ok (.ifCond .ne 23, 3)) ∧ (decode cX3_note 7 = .ok (.iload_n 1, 1)) ∧ (decode cX3_note 8 = .ok (.ifCond .eq 19, 3)) ∧ (decode cX3_note 11 = .ok (.aload_n 0, 1)) ∧ (decode cX3_note 12 = .ok (.iload_n 1, 1)) ∧ (decode cX3_note 13 = .ok (.putfield 32, 3)) ∧ (decode cX3_note 16 = .ok (.aload_n 0, 1)) ∧ (decode cX3_note 17 = .ok (.aload_n 0, 1)) ∧ (decode cX3_note 18 = .ok (.getfield 12, 3)) ∧ (decode cX3_note 21 = .ok (.invokevirtual 94, 3)) := by decide +kernel
theorem dX3_note_0 : decode cX3_note 0 = .ok (.aload_n 0, 1) := dG_dX3_note_0.1
theorem dX3_note_1 : decode cX3_note 1 = .ok (.getfield 32, 3) := dG_dX3_note_0.2.1
theorem dX3_note_4 : decode cX3_note 4 = .ok (.ifCond .ne 23, 3) := dG_dX3_note_0.2.2.1
theorem dX3_note_7 : decode cX3_note 7 = .ok (.iload_n 1, 1) := dG_dX3_note_0.2.2.2.1
theorem dX3_note_8 : decode cX3_note 8 = .ok (.ifCond .eq 19, 3) := dG_dX3_note_0.2.2.2.2.1
theorem dX3_note_11 : decode cX3_note 11 = .ok (.aload_n 0, 1) := dG_dX3_note_0.2.2.2.2.2.1
theorem dX3_note_12 : decode cX3_note 12 = .ok (.iload_n 1, 1) := dG_dX3_note_0.2.2.2.2.2.2.1
theorem dX3_note_13 : decode cX3_note 13 = .ok (.putfield 32, 3) := dG_dX3_note_0.2.2.2.2.2.2.2.1
theorem dX3_note_16 : decode cX3_note 16 = .ok (.aload_n 0, 1) := dG_dX3_note_0.2.2.2.2.2.2.2.2.1
theorem dX3_note_17 : decode cX3_note 17 = .ok (.aload_n 0, 1) := dG_dX3_note_0.2.2.2.2.2.2.2.2.2.1
theorem dX3_note_18 : decode cX3_note 18 = .ok (.getfield 12, 3) := dG_dX3_note_0.2.2.2.2.2.2.2.2.2.2.1
theorem dX3_note_21 : decode cX3_note 21 = .ok (.invokevirtual 94, 3) := dG_dX3_note_0.2.2.2.2.2.2.2.2.2.2.2
theorem dG_dX3_note_24 : (decode cX3_note 24 = .ok (.putfield 36, 3)) ∧ (decode cX3_note 27 = .ok (.return_, 1)) ∧ (decode cX3_refuseIf 0 = .ok (.iload_n 1, 1)) ∧ (decode cX3_refuseIf 1 = .ok (.ifCond .eq 8, 3)) ∧ (decode cX3_refuseIf 4 = .ok (.aload_n 0, 1)) ∧ (decode cX3_refuseIf 5 = .ok (.iload_n 2, 1)) ∧ (decode cX3_refuseIf 6 = .ok (.invokevirtual 78, 3)) ∧ (decode cX3_refuseIf 9 = .ok (.return_, 1)) ∧ (decode cX3_refuseToken 0 = .ok (.aload_n 0, 1)) ∧ (decode cX3_refuseToken 1 = .ok (.aload_n 0, 1)) ∧ (decode cX3_refuseToken 2 = .ok (.getfield 12, 3)) ∧ (decode cX3_refuseToken 5 = .ok (.invokevirtual 56, 3)) := by decide +kernel
theorem dX3_note_24 : decode cX3_note 24 = .ok (.putfield 36, 3) := dG_dX3_note_24.1
theorem dX3_note_27 : decode cX3_note 27 = .ok (.return_, 1) := dG_dX3_note_24.2.1
theorem dX3_refuseIf_0 : decode cX3_refuseIf 0 = .ok (.iload_n 1, 1) := dG_dX3_note_24.2.2.1
theorem dX3_refuseIf_1 : decode cX3_refuseIf 1 = .ok (.ifCond .eq 8, 3) := dG_dX3_note_24.2.2.2.1
theorem dX3_refuseIf_4 : decode cX3_refuseIf 4 = .ok (.aload_n 0, 1) := dG_dX3_note_24.2.2.2.2.1
theorem dX3_refuseIf_5 : decode cX3_refuseIf 5 = .ok (.iload_n 2, 1) := dG_dX3_note_24.2.2.2.2.2.1
theorem dX3_refuseIf_6 : decode cX3_refuseIf 6 = .ok (.invokevirtual 78, 3) := dG_dX3_note_24.2.2.2.2.2.2.1
theorem dX3_refuseIf_9 : decode cX3_refuseIf 9 = .ok (.return_, 1) := dG_dX3_note_24.2.2.2.2.2.2.2.1
theorem dX3_refuseToken_0 : decode cX3_refuseToken 0 = .ok (.aload_n 0, 1) := dG_dX3_note_24.2.2.2.2.2.2.2.2.1
theorem dX3_refuseToken_1 : decode cX3_refuseToken 1 = .ok (.aload_n 0, 1) := dG_dX3_note_24.2.2.2.2.2.2.2.2.2.1
theorem dX3_refuseToken_2 : decode cX3_refuseToken 2 = .ok (.getfield 12, 3) := dG_dX3_note_24.2.2.2.2.2.2.2.2.2.2.1
theorem dX3_refuseToken_5 : decode cX3_refuseToken 5 = .ok (.invokevirtual 56, 3) := dG_dX3_note_24.2.2.2.2.2.2.2.2.2.2.2
theorem dG_dX3_refuseToken_8 : (decode cX3_refuseToken 8 = .ok (.sipush 257, 3)) ∧ (decode cX3_refuseToken 11 = .ok (.if_icmp .ne 7, 3)) ∧ (decode cX3_refuseToken 14 = .ok (.iconst 1, 1)) ∧ (decode cX3_refuseToken 15 = .ok (.goto 4, 3)) ∧ (decode cX3_refuseToken 18 = .ok (.iconst 2, 1)) ∧ (decode cX3_refuseToken 19 = .ok (.invokevirtual 78, 3)) ∧ (decode cX3_refuseToken 22 = .ok (.return_, 1)) ∧ (decode cX3_goOn 0 = .ok (.aload_n 0, 1)) ∧ (decode cX3_goOn 1 = .ok (.getfield 32, 3)) ∧ (decode cX3_goOn 4 = .ok (.ifCond .ne 10, 3)) ∧ (decode cX3_goOn 7 = .ok (.aload_n 0, 1)) ∧ (decode cX3_goOn 8 = .ok (.getfield 12, 3)) := by decide +kernel
theorem dX3_refuseToken_8 : decode cX3_refuseToken 8 = .ok (.sipush 257, 3) := dG_dX3_refuseToken_8.1
theorem dX3_refuseToken_11 : decode cX3_refuseToken 11 = .ok (.if_icmp .ne 7, 3) := dG_dX3_refuseToken_8.2.1
theorem dX3_refuseToken_14 : decode cX3_refuseToken 14 = .ok (.iconst 1, 1) := dG_dX3_refuseToken_8.2.2.1
theorem dX3_refuseToken_15 : decode cX3_refuseToken 15 = .ok (.goto 4, 3) := dG_dX3_refuseToken_8.2.2.2.1
theorem dX3_refuseToken_18 : decode cX3_refuseToken 18 = .ok (.iconst 2, 1) := dG_dX3_refuseToken_8.2.2.2.2.1
theorem dX3_refuseToken_19 : decode cX3_refuseToken 19 = .ok (.invokevirtual 78, 3) := dG_dX3_refuseToken_8.2.2.2.2.2.1
theorem dX3_refuseToken_22 : decode cX3_refuseToken 22 = .ok (.return_, 1) := dG_dX3_refuseToken_8.2.2.2.2.2.2.1
theorem dX3_goOn_0 : decode cX3_goOn 0 = .ok (.aload_n 0, 1) := dG_dX3_refuseToken_8.2.2.2.2.2.2.2.1
theorem dX3_goOn_1 : decode cX3_goOn 1 = .ok (.getfield 32, 3) := dG_dX3_refuseToken_8.2.2.2.2.2.2.2.2.1
theorem dX3_goOn_4 : decode cX3_goOn 4 = .ok (.ifCond .ne 10, 3) := dG_dX3_refuseToken_8.2.2.2.2.2.2.2.2.2.1
theorem dX3_goOn_7 : decode cX3_goOn 7 = .ok (.aload_n 0, 1) := dG_dX3_refuseToken_8.2.2.2.2.2.2.2.2.2.2.1
theorem dX3_goOn_8 : decode cX3_goOn 8 = .ok (.getfield 12, 3) := dG_dX3_refuseToken_8.2.2.2.2.2.2.2.2.2.2.2
theorem dG_dX3_goOn_11 : (decode cX3_goOn 11 = .ok (.invokevirtual 97, 3)) ∧ (decode cX3_goOn 14 = .ok (.aload_n 0, 1)) ∧ (decode cX3_goOn 15 = .ok (.getfield 32, 3)) ∧ (decode cX3_goOn 18 = .ok (.ifCond .ne 7, 3)) ∧ (decode cX3_goOn 21 = .ok (.iconst 1, 1)) ∧ (decode cX3_goOn 22 = .ok (.goto 4, 3)) ∧ (decode cX3_goOn 25 = .ok (.iconst 0, 1)) ∧ (decode cX3_goOn 26 = .ok (.ireturn, 1)) ∧ (decode cX3_pass 0 = .ok (.aload_n 0, 1)) ∧ (decode cX3_pass 1 = .ok (.getfield 12, 3)) ∧ (decode cX3_pass 4 = .ok (.invokevirtual 56, 3)) ∧ (decode cX3_pass 7 = .ok (.iload_n 1, 1)) := by decide +kernel
theorem dX3_goOn_11 : decode cX3_goOn 11 = .ok (.invokevirtual 97, 3) := dG_dX3_goOn_11.1
theorem dX3_goOn_14 : decode cX3_goOn 14 = .ok (.aload_n 0, 1) := dG_dX3_goOn_11.2.1
theorem dX3_goOn_15 : decode cX3_goOn 15 = .ok (.getfield 32, 3) := dG_dX3_goOn_11.2.2.1
theorem dX3_goOn_18 : decode cX3_goOn 18 = .ok (.ifCond .ne 7, 3) := dG_dX3_goOn_11.2.2.2.1
theorem dX3_goOn_21 : decode cX3_goOn 21 = .ok (.iconst 1, 1) := dG_dX3_goOn_11.2.2.2.2.1
theorem dX3_goOn_22 : decode cX3_goOn 22 = .ok (.goto 4, 3) := dG_dX3_goOn_11.2.2.2.2.2.1
theorem dX3_goOn_25 : decode cX3_goOn 25 = .ok (.iconst 0, 1) := dG_dX3_goOn_11.2.2.2.2.2.2.1
theorem dX3_goOn_26 : decode cX3_goOn 26 = .ok (.ireturn, 1) := dG_dX3_goOn_11.2.2.2.2.2.2.2.1
theorem dX3_pass_0 : decode cX3_pass 0 = .ok (.aload_n 0, 1) := dG_dX3_goOn_11.2.2.2.2.2.2.2.2.1
theorem dX3_pass_1 : decode cX3_pass 1 = .ok (.getfield 12, 3) := dG_dX3_goOn_11.2.2.2.2.2.2.2.2.2.1
theorem dX3_pass_4 : decode cX3_pass 4 = .ok (.invokevirtual 56, 3) := dG_dX3_goOn_11.2.2.2.2.2.2.2.2.2.2.1
theorem dX3_pass_7 : decode cX3_pass 7 = .ok (.iload_n 1, 1) := dG_dX3_goOn_11.2.2.2.2.2.2.2.2.2.2.2
theorem dG_dX3_pass_8 : (decode cX3_pass 8 = .ok (.if_icmp .eq 7, 3)) ∧ (decode cX3_pass 11 = .ok (.aload_n 0, 1)) ∧ (decode cX3_pass 12 = .ok (.invokevirtual 88, 3)) ∧ (decode cX3_pass 15 = .ok (.aload_n 0, 1)) ∧ (decode cX3_pass 16 = .ok (.invokevirtual 70, 3)) ∧ (decode cX3_pass 19 = .ok (.pop, 1)) ∧ (decode cX3_pass 20 = .ok (.return_, 1)) ∧ (decode cX3_readKeys 0 = .ok (.aload_n 0, 1)) ∧ (decode cX3_readKeys 1 = .ok (.getfield 21, 3)) ∧ (decode cX3_readKeys 4 = .ok (.iconst 0, 1)) ∧ (decode cX3_readKeys 5 = .ok (.putfield 116, 3)) ∧ (decode cX3_readKeys 8 = .ok (.iconst 0, 1)) := by decide +kernel
theorem dX3_pass_8 : decode cX3_pass 8 = .ok (.if_icmp .eq 7, 3) := dG_dX3_pass_8.1
theorem dX3_pass_11 : decode cX3_pass 11 = .ok (.aload_n 0, 1) := dG_dX3_pass_8.2.1
theorem dX3_pass_12 : decode cX3_pass 12 = .ok (.invokevirtual 88, 3) := dG_dX3_pass_8.2.2.1
theorem dX3_pass_15 : decode cX3_pass 15 = .ok (.aload_n 0, 1) := dG_dX3_pass_8.2.2.2.1
theorem dX3_pass_16 : decode cX3_pass 16 = .ok (.invokevirtual 70, 3) := dG_dX3_pass_8.2.2.2.2.1
theorem dX3_pass_19 : decode cX3_pass 19 = .ok (.pop, 1) := dG_dX3_pass_8.2.2.2.2.2.1
theorem dX3_pass_20 : decode cX3_pass 20 = .ok (.return_, 1) := dG_dX3_pass_8.2.2.2.2.2.2.1
theorem dX3_readKeys_0 : decode cX3_readKeys 0 = .ok (.aload_n 0, 1) := dG_dX3_pass_8.2.2.2.2.2.2.2.1
theorem dX3_readKeys_1 : decode cX3_readKeys 1 = .ok (.getfield 21, 3) := dG_dX3_pass_8.2.2.2.2.2.2.2.2.1
theorem dX3_readKeys_4 : decode cX3_readKeys 4 = .ok (.iconst 0, 1) := dG_dX3_pass_8.2.2.2.2.2.2.2.2.2.1
theorem dX3_readKeys_5 : decode cX3_readKeys 5 = .ok (.putfield 116, 3) := dG_dX3_pass_8.2.2.2.2.2.2.2.2.2.2.1
theorem dX3_readKeys_8 : decode cX3_readKeys 8 = .ok (.iconst 0, 1) := dG_dX3_pass_8.2.2.2.2.2.2.2.2.2.2.2
theorem dG_dX3_readKeys_9 : (decode cX3_readKeys 9 = .ok (.istore_n 1, 1)) ∧ (decode cX3_readKeys 10 = .ok (.iload_n 1, 1)) ∧ (decode cX3_readKeys 11 = .ok (.iconst 4, 1)) ∧ (decode cX3_readKeys 12 = .ok (.if_icmp .gt 33, 3)) ∧ (decode cX3_readKeys 15 = .ok (.aload_n 0, 1)) ∧ (decode cX3_readKeys 16 = .ok (.invokevirtual 70, 3)) ∧ (decode cX3_readKeys 19 = .ok (.ifCond .eq 26, 3)) ∧ (decode cX3_readKeys 22 = .ok (.aload_n 0, 1)) ∧ (decode cX3_readKeys 23 = .ok (.invokevirtual 119, 3)) ∧ (decode cX3_readKeys 26 = .ok (.aload_n 0, 1)) ∧ (decode cX3_readKeys 27 = .ok (.getfield 12, 3)) ∧ (decode cX3_readKeys 30 = .ok (.invokevirtual 56, 3)) := by decide +kernel
theorem dX3_readKeys_9 : decode cX3_readKeys 9 = .ok (.istore_n 1, 1) := dG_dX3_readKeys_9.1
theorem dX3_readKeys_10 : decode cX3_readKeys 10 = .ok (.iload_n 1, 1) := dG_dX3_readKeys_9.2.1
theorem dX3_readKeys_11 : decode cX3_readKeys 11 = .ok (.iconst 4, 1) := dG_dX3_readKeys_9.2.2.1
theorem dX3_readKeys_12 : decode cX3_readKeys 12 = .ok (.if_icmp .gt 33, 3) := dG_dX3_readKeys_9.2.2.2.1
theorem dX3_readKeys_15 : decode cX3_readKeys 15 = .ok (.aload_n 0, 1) := dG_dX3_readKeys_9.2.2.2.2.1
theorem dX3_readKeys_16 : decode cX3_readKeys 16 = .ok (.invokevirtual 70, 3) := dG_dX3_readKeys_9.2.2.2.2.2.1
theorem dX3_readKeys_19 : decode cX3_readKeys 19 = .ok (.ifCond .eq 26, 3) := dG_dX3_readKeys_9.2.2.2.2.2.2.1
theorem dX3_readKeys_22 : decode cX3_readKeys 22 = .ok (.aload_n 0, 1) := dG_dX3_readKeys_9.2.2.2.2.2.2.2.1
theorem dX3_readKeys_23 : decode cX3_readKeys 23 = .ok (.invokevirtual 119, 3) := dG_dX3_readKeys_9.2.2.2.2.2.2.2.2.1
theorem dX3_readKeys_26 : decode cX3_readKeys 26 = .ok (.aload_n 0, 1) := dG_dX3_readKeys_9.2.2.2.2.2.2.2.2.2.1
theorem dX3_readKeys_27 : decode cX3_readKeys 27 = .ok (.getfield 12, 3) := dG_dX3_readKeys_9.2.2.2.2.2.2.2.2.2.2.1
theorem dX3_readKeys_30 : decode cX3_readKeys 30 = .ok (.invokevirtual 56, 3) := dG_dX3_readKeys_9.2.2.2.2.2.2.2.2.2.2.2
theorem dG_dX3_readKeys_33 : (decode cX3_readKeys 33 = .ok (.bipush 44, 2)) ∧ (decode cX3_readKeys 35 = .ok (.if_icmp .eq 4, 3)) ∧ (decode cX3_readKeys 38 = .ok (.return_, 1)) ∧ (decode cX3_readKeys 39 = .ok (.iinc 1 1, 3)) ∧ (decode cX3_readKeys 42 = .ok (.goto (-32), 3)) ∧ (decode cX3_readKeys 45 = .ok (.return_, 1)) ∧ (decode cX3_readKey 0 = .ok (.aload_n 0, 1)) ∧ (decode cX3_readKey 1 = .ok (.getfield 12, 3)) ∧ (decode cX3_readKey 4 = .ok (.invokevirtual 56, 3)) ∧ (decode cX3_readKey 7 = .ok (.sipush 267, 3)) ∧ (decode cX3_readKey 10 = .ok (.if_icmp .ne 7, 3)) ∧ (decode cX3_readKey 13 = .ok (.iconst 1, 1)) := by decide +kernel
theorem dX3_readKeys_33 : decode cX3_readKeys 33 = .ok (.bipush 44, 2) := dG_dX3_readKeys_33.1
theorem dX3_readKeys_35 : decode cX3_readKeys 35 = .ok (.if_icmp .eq 4, 3) := dG_dX3_readKeys_33.2.1
theorem dX3_readKeys_38 : decode cX3_readKeys 38 = .ok (.return_, 1) := dG_dX3_readKeys_33.2.2.1
theorem dX3_readKeys_39 : decode cX3_readKeys 39 = .ok (.iinc 1 1, 3) := dG_dX3_readKeys_33.2.2.2.1
theorem dX3_readKeys_42 : decode cX3_readKeys 42 = .ok (.goto (-32), 3) := dG_dX3_readKeys_33.2.2.2.2.1
theorem dX3_readKeys_45 : decode cX3_readKeys 45 = .ok (.return_, 1) := dG_dX3_readKeys_33.2.2.2.2.2.1
theorem dX3_readKey_0 : decode cX3_readKey 0 = .ok (.aload_n 0, 1) := dG_dX3_readKeys_33.2.2.2.2.2.2.1
theorem dX3_readKey_1 : decode cX3_readKey 1 = .ok (.getfield 12, 3) := dG_dX3_readKeys_33.2.2.2.2.2.2.2.1
theorem dX3_readKey_4 : decode cX3_readKey 4 = .ok (.invokevirtual 56, 3) := dG_dX3_readKeys_33.2.2.2.2.2.2.2.2.1
theorem dX3_readKey_7 : decode cX3_readKey 7 = .ok (.sipush 267, 3) := dG_dX3_readKeys_33.2.2.2.2.2.2.2.2.2.1
theorem dX3_readKey_10 : decode cX3_readKey 10 = .ok (.if_icmp .ne 7, 3) := dG_dX3_readKeys_33.2.2.2.2.2.2.2.2.2.2.1
theorem dX3_readKey_13 : decode cX3_readKey 13 = .ok (.iconst 1, 1) := dG_dX3_readKeys_33.2.2.2.2.2.2.2.2.2.2.2
theorem dG_dX3_readKey_14 : (decode cX3_readKey 14 = .ok (.goto 4, 3)) ∧ (decode cX3_readKey 17 = .ok (.iconst 0, 1)) ∧ (decode cX3_readKey 18 = .ok (.istore_n 1, 1)) ∧ (decode cX3_readKey 19 = .ok (.iload_n 1, 1)) ∧ (decode cX3_readKey 20 = .ok (.ifCond .ne 20, 3)) ∧ (decode cX3_readKey 23 = .ok (.aload_n 0, 1)) ∧ (decode cX3_readKey 24 = .ok (.getfield 12, 3)) ∧ (decode cX3_readKey 27 = .ok (.invokevirtual 56, 3)) ∧ (decode cX3_readKey 30 = .ok (.sipush 266, 3)) ∧ (decode cX3_readKey 33 = .ok (.if_icmp .eq 7, 3)) ∧ (decode cX3_readKey 36 = .ok (.aload_n 0, 1)) ∧ (decode cX3_readKey 37 = .ok (.invokevirtual 88, 3)) := by decide +kernel
theorem dX3_readKey_14 : decode cX3_readKey 14 = .ok (.goto 4, 3) := dG_dX3_readKey_14.1
theorem dX3_readKey_17 : decode cX3_readKey 17 = .ok (.iconst 0, 1) := dG_dX3_readKey_14.2.1
theorem dX3_readKey_18 : decode cX3_readKey 18 = .ok (.istore_n 1, 1) := dG_dX3_readKey_14.2.2.1
theorem dX3_readKey_19 : decode cX3_readKey 19 = .ok (.iload_n 1, 1) := dG_dX3_readKey_14.2.2.2.1
theorem dX3_readKey_20 : decode cX3_readKey 20 = .ok (.ifCond .ne 20, 3) := dG_dX3_readKey_14.2.2.2.2.1
theorem dX3_readKey_23 : decode cX3_readKey 23 = .ok (.aload_n 0, 1) := dG_dX3_readKey_14.2.2.2.2.2.1
theorem dX3_readKey_24 : decode cX3_readKey 24 = .ok (.getfield 12, 3) := dG_dX3_readKey_14.2.2.2.2.2.2.1
theorem dX3_readKey_27 : decode cX3_readKey 27 = .ok (.invokevirtual 56, 3) := dG_dX3_readKey_14.2.2.2.2.2.2.2.1
theorem dX3_readKey_30 : decode cX3_readKey 30 = .ok (.sipush 266, 3) := dG_dX3_readKey_14.2.2.2.2.2.2.2.2.1
theorem dX3_readKey_33 : decode cX3_readKey 33 = .ok (.if_icmp .eq 7, 3) := dG_dX3_readKey_14.2.2.2.2.2.2.2.2.2.1
theorem dX3_readKey_36 : decode cX3_readKey 36 = .ok (.aload_n 0, 1) := dG_dX3_readKey_14.2.2.2.2.2.2.2.2.2.2.1
theorem dX3_readKey_37 : decode cX3_readKey 37 = .ok (.invokevirtual 88, 3) := dG_dX3_readKey_14.2.2.2.2.2.2.2.2.2.2.2
theorem dG_dX3_readKey_40 : (decode cX3_readKey 40 = .ok (.aload_n 0, 1)) ∧ (decode cX3_readKey 41 = .ok (.aload_n 0, 1)) ∧ (decode cX3_readKey 42 = .ok (.getfield 21, 3)) ∧ (decode cX3_readKey 45 = .ok (.getfield 116, 3)) ∧ (decode cX3_readKey 48 = .ok (.iconst 4, 1)) ∧ (decode cX3_readKey 49 = .ok (.if_icmp .lt 7, 3)) ∧ (decode cX3_readKey 52 = .ok (.iconst 1, 1)) ∧ (decode cX3_readKey 53 = .ok (.goto 4, 3)) ∧ (decode cX3_readKey 56 = .ok (.iconst 0, 1)) ∧ (decode cX3_readKey 57 = .ok (.iconst 3, 1)) ∧ (decode cX3_readKey 58 = .ok (.invokevirtual 66, 3)) ∧ (decode cX3_readKey 61 = .ok (.aload_n 0, 1)) := by decide +kernel
theorem dX3_readKey_40 : decode cX3_readKey 40 = .ok (.aload_n 0, 1) := dG_dX3_readKey_40.1
theorem dX3_readKey_41 : decode cX3_readKey 41 = .ok (.aload_n 0, 1) := dG_dX3_readKey_40.2.1
theorem dX3_readKey_42 : decode cX3_readKey 42 = .ok (.getfield 21, 3) := dG_dX3_readKey_40.2.2.1
theorem dX3_readKey_45 : decode cX3_readKey 45 = .ok (.getfield 116, 3) := dG_dX3_readKey_40.2.2.2.1
theorem dX3_readKey_48 : decode cX3_readKey 48 = .ok (.iconst 4, 1) := dG_dX3_readKey_40.2.2.2.2.1
theorem dX3_readKey_49 : decode cX3_readKey 49 = .ok (.if_icmp .lt 7, 3) := dG_dX3_readKey_40.2.2.2.2.2.1
theorem dX3_readKey_52 : decode cX3_readKey 52 = .ok (.iconst 1, 1) := dG_dX3_readKey_40.2.2.2.2.2.2.1
theorem dX3_readKey_53 : decode cX3_readKey 53 = .ok (.goto 4, 3) := dG_dX3_readKey_40.2.2.2.2.2.2.2.1
theorem dX3_readKey_56 : decode cX3_readKey 56 = .ok (.iconst 0, 1) := dG_dX3_readKey_40.2.2.2.2.2.2.2.2.1
theorem dX3_readKey_57 : decode cX3_readKey 57 = .ok (.iconst 3, 1) := dG_dX3_readKey_40.2.2.2.2.2.2.2.2.2.1
theorem dX3_readKey_58 : decode cX3_readKey 58 = .ok (.invokevirtual 66, 3) := dG_dX3_readKey_40.2.2.2.2.2.2.2.2.2.2.1
theorem dX3_readKey_61 : decode cX3_readKey 61 = .ok (.aload_n 0, 1) := dG_dX3_readKey_40.2.2.2.2.2.2.2.2.2.2.2
theorem dG_dX3_readKey_62 : (decode cX3_readKey 62 = .ok (.invokevirtual 70, 3)) ∧ (decode cX3_readKey 65 = .ok (.ifCond .ne 4, 3)) ∧ (decode cX3_readKey 68 = .ok (.return_, 1)) ∧ (decode cX3_readKey 69 = .ok (.aload_n 0, 1)) ∧ (decode cX3_readKey 70 = .ok (.getfield 12, 3)) ∧ (decode cX3_readKey 73 = .ok (.invokevirtual 56, 3)) ∧ (decode cX3_readKey 76 = .ok (.sipush 268, 3)) ∧ (decode cX3_readKey 79 = .ok (.isub, 1)) ∧ (decode cX3_readKey 80 = .ok (.istore_n 2, 1)) ∧ (decode cX3_readKey 81 = .ok (.iload_n 2, 1)) ∧ (decode cX3_readKey 82 = .ok (.ifCond .lt 8, 3)) ∧ (decode cX3_readKey 85 = .ok (.iload_n 2, 1)) := by decide +kernel
theorem dX3_readKey_62 : decode cX3_readKey 62 = .ok (.invokevirtual 70, 3) := dG_dX3_readKey_62.1
theorem dX3_readKey_65 : decode cX3_readKey 65 = .ok (.ifCond .ne 4, 3) := dG_dX3_readKey_62.2.1
theorem dX3_readKey_68 : decode cX3_readKey 68 = .ok (.return_, 1) := dG_dX3_readKey_62.2.2.1
theorem dX3_readKey_69 : decode cX3_readKey 69 = .ok (.aload_n 0, 1) := dG_dX3_readKey_62.2.2.2.1
theorem dX3_readKey_70 : decode cX3_readKey 70 = .ok (.getfield 12, 3) := dG_dX3_readKey_62.2.2.2.2.1
theorem dX3_readKey_73 : decode cX3_readKey 73 = .ok (.invokevirtual 56, 3) := dG_dX3_readKey_62.2.2.2.2.2.1
theorem dX3_readKey_76 : decode cX3_readKey 76 = .ok (.sipush 268, 3) := dG_dX3_readKey_62.2.2.2.2.2.2.1
theorem dX3_readKey_79 : decode cX3_readKey 79 = .ok (.isub, 1) := dG_dX3_readKey_62.2.2.2.2.2.2.2.1
theorem dX3_readKey_80 : decode cX3_readKey 80 = .ok (.istore_n 2, 1) := dG_dX3_readKey_62.2.2.2.2.2.2.2.2.1
theorem dX3_readKey_81 : decode cX3_readKey 81 = .ok (.iload_n 2, 1) := dG_dX3_readKey_62.2.2.2.2.2.2.2.2.2.1
theorem dX3_readKey_82 : decode cX3_readKey 82 = .ok (.ifCond .lt 8, 3) := dG_dX3_readKey_62.2.2.2.2.2.2.2.2.2.2.1
theorem dX3_readKey_85 : decode cX3_readKey 85 = .ok (.iload_n 2, 1) := dG_dX3_readKey_62.2.2.2.2.2.2.2.2.2.2.2
theorem dG_dX3_readKey_86 : (decode cX3_readKey 86 = .ok (.iconst 3, 1)) ∧ (decode cX3_readKey 87 = .ok (.if_icmp .le 10, 3)) ∧ (decode cX3_readKey 90 = .ok (.aload_n 0, 1)) ∧ (decode cX3_readKey 91 = .ok (.invokevirtual 88, 3)) ∧ (decode cX3_readKey 94 = .ok (.goto 12, 3)) ∧ (decode cX3_readKey 97 = .ok (.aload_n 0, 1)) ∧ (decode cX3_readKey 98 = .ok (.getfield 21, 3)) ∧ (decode cX3_readKey 101 = .ok (.iload_n 2, 1)) ∧ (decode cX3_readKey 102 = .ok (.iload_n 1, 1)) ∧ (decode cX3_readKey 103 = .ok (.invokevirtual 122, 3)) ∧ (decode cX3_readKey 106 = .ok (.aload_n 0, 1)) ∧ (decode cX3_readKey 107 = .ok (.invokevirtual 70, 3)) := by decide +kernel
theorem dX3_readKey_86 : decode cX3_readKey 86 = .ok (.iconst 3, 1) := dG_dX3_readKey_86.1
theorem dX3_readKey_87 : decode cX3_readKey 87 = .ok (.if_icmp .le 10, 3) := dG_dX3_readKey_86.2.1
theorem dX3_readKey_90 : decode cX3_readKey 90 = .ok (.aload_n 0, 1) := dG_dX3_readKey_86.2.2.1
theorem dX3_readKey_91 : decode cX3_readKey 91 = .ok (.invokevirtual 88, 3) := dG_dX3_readKey_86.2.2.2.1
theorem dX3_readKey_94 : decode cX3_readKey 94 = .ok (.goto 12, 3) := dG_dX3_readKey_86.2.2.2.2.1
theorem dX3_readKey_97 : decode cX3_readKey 97 = .ok (.aload_n 0, 1) := dG_dX3_readKey_86.2.2.2.2.2.1
theorem dX3_readKey_98 : decode cX3_readKey 98 = .ok (.getfield 21, 3) := dG_dX3_readKey_86.2.2.2.2.2.2.1
theorem dX3_readKey_101 : decode cX3_readKey 101 = .ok (.iload_n 2, 1) := dG_dX3_readKey_86.2.2.2.2.2.2.2.1
theorem dX3_readKey_102 : decode cX3_readKey 102 = .ok (.iload_n 1, 1) := dG_dX3_readKey_86.2.2.2.2.2.2.2.2.1
theorem dX3_readKey_103 : decode cX3_readKey 103 = .ok (.invokevirtual 122, 3) := dG_dX3_readKey_86.2.2.2.2.2.2.2.2.2.1
theorem dX3_readKey_106 : decode cX3_readKey 106 = .ok (.aload_n 0, 1) := dG_dX3_readKey_86.2.2.2.2.2.2.2.2.2.2.1
theorem dX3_readKey_107 : decode cX3_readKey 107 = .ok (.invokevirtual 70, 3) := dG_dX3_readKey_86.2.2.2.2.2.2.2.2.2.2.2
theorem dG_dX3_readKey_110 : (decode cX3_readKey 110 = .ok (.pop, 1)) ∧ (decode cX3_readKey 111 = .ok (.return_, 1)) ∧ (decode cX3_readTies 0 = .ok (.aload_n 0, 1)) ∧ (decode cX3_readTies 1 = .ok (.invokevirtual 70, 3)) ∧ (decode cX3_readTies 4 = .ok (.ifCond .eq 51, 3)) ∧ (decode cX3_readTies 7 = .ok (.aload_n 0, 1)) ∧ (decode cX3_readTies 8 = .ok (.getfield 21, 3)) ∧ (decode cX3_readTies 11 = .ok (.aload_n 0, 1)) ∧ (decode cX3_readTies 12 = .ok (.getfield 12, 3)) ∧ (decode cX3_readTies 15 = .ok (.invokevirtual 56, 3)) ∧ (decode cX3_readTies 18 = .ok (.sipush 264, 3)) ∧ (decode cX3_readTies 21 = .ok (.if_icmp .ne 7, 3)) := by decide +kernel
theorem dX3_readKey_110 : decode cX3_readKey 110 = .ok (.pop, 1) := dG_dX3_readKey_110.1
theorem dX3_readKey_111 : decode cX3_readKey 111 = .ok (.return_, 1) := dG_dX3_readKey_110.2.1
theorem dX3_readTies_0 : decode cX3_readTies 0 = .ok (.aload_n 0, 1) := dG_dX3_readKey_110.2.2.1
theorem dX3_readTies_1 : decode cX3_readTies 1 = .ok (.invokevirtual 70, 3) := dG_dX3_readKey_110.2.2.2.1
theorem dX3_readTies_4 : decode cX3_readTies 4 = .ok (.ifCond .eq 51, 3) := dG_dX3_readKey_110.2.2.2.2.1
theorem dX3_readTies_7 : decode cX3_readTies 7 = .ok (.aload_n 0, 1) := dG_dX3_readKey_110.2.2.2.2.2.1
theorem dX3_readTies_8 : decode cX3_readTies 8 = .ok (.getfield 21, 3) := dG_dX3_readKey_110.2.2.2.2.2.2.1
theorem dX3_readTies_11 : decode cX3_readTies 11 = .ok (.aload_n 0, 1) := dG_dX3_readKey_110.2.2.2.2.2.2.2.1
theorem dX3_readTies_12 : decode cX3_readTies 12 = .ok (.getfield 12, 3) := dG_dX3_readKey_110.2.2.2.2.2.2.2.2.1
theorem dX3_readTies_15 : decode cX3_readTies 15 = .ok (.invokevirtual 56, 3) := dG_dX3_readKey_110.2.2.2.2.2.2.2.2.2.1
theorem dX3_readTies_18 : decode cX3_readTies 18 = .ok (.sipush 264, 3) := dG_dX3_readKey_110.2.2.2.2.2.2.2.2.2.2.1
theorem dX3_readTies_21 : decode cX3_readTies 21 = .ok (.if_icmp .ne 7, 3) := dG_dX3_readKey_110.2.2.2.2.2.2.2.2.2.2.2
theorem dG_dX3_readTies_24 : (decode cX3_readTies 24 = .ok (.iconst 1, 1)) ∧ (decode cX3_readTies 25 = .ok (.goto 4, 3)) ∧ (decode cX3_readTies 28 = .ok (.iconst 0, 1)) ∧ (decode cX3_readTies 29 = .ok (.putfield 126, 3)) ∧ (decode cX3_readTies 32 = .ok (.aload_n 0, 1)) ∧ (decode cX3_readTies 33 = .ok (.aload_n 0, 1)) ∧ (decode cX3_readTies 34 = .ok (.getfield 21, 3)) ∧ (decode cX3_readTies 37 = .ok (.getfield 126, 3)) ∧ (decode cX3_readTies 40 = .ok (.ifCond .eq 9, 3)) ∧ (decode cX3_readTies 43 = .ok (.sipush 264, 3)) ∧ (decode cX3_readTies 46 = .ok (.goto 6, 3)) ∧ (decode cX3_readTies 49 = .ok (.sipush 265, 3)) := by decide +kernel
theorem dX3_readTies_24 : decode cX3_readTies 24 = .ok (.iconst 1, 1) := dG_dX3_readTies_24.1
theorem dX3_readTies_25 : decode cX3_readTies 25 = .ok (.goto 4, 3) := dG_dX3_readTies_24.2.1
theorem dX3_readTies_28 : decode cX3_readTies 28 = .ok (.iconst 0, 1) := dG_dX3_readTies_24.2.2.1
theorem dX3_readTies_29 : decode cX3_readTies 29 = .ok (.putfield 126, 3) := dG_dX3_readTies_24.2.2.2.1
theorem dX3_readTies_32 : decode cX3_readTies 32 = .ok (.aload_n 0, 1) := dG_dX3_readTies_24.2.2.2.2.1
theorem dX3_readTies_33 : decode cX3_readTies 33 = .ok (.aload_n 0, 1) := dG_dX3_readTies_24.2.2.2.2.2.1
theorem dX3_readTies_34 : decode cX3_readTies 34 = .ok (.getfield 21, 3) := dG_dX3_readTies_24.2.2.2.2.2.2.1
theorem dX3_readTies_37 : decode cX3_readTies 37 = .ok (.getfield 126, 3) := dG_dX3_readTies_24.2.2.2.2.2.2.2.1
theorem dX3_readTies_40 : decode cX3_readTies 40 = .ok (.ifCond .eq 9, 3) := dG_dX3_readTies_24.2.2.2.2.2.2.2.2.1
theorem dX3_readTies_43 : decode cX3_readTies 43 = .ok (.sipush 264, 3) := dG_dX3_readTies_24.2.2.2.2.2.2.2.2.2.1
theorem dX3_readTies_46 : decode cX3_readTies 46 = .ok (.goto 6, 3) := dG_dX3_readTies_24.2.2.2.2.2.2.2.2.2.2.1
theorem dX3_readTies_49 : decode cX3_readTies 49 = .ok (.sipush 265, 3) := dG_dX3_readTies_24.2.2.2.2.2.2.2.2.2.2.2
theorem dG_dX3_readTies_52 : (decode cX3_readTies 52 = .ok (.invokevirtual 91, 3)) ∧ (decode cX3_readTies 55 = .ok (.return_, 1)) ∧ (decode cX4_addKey 0 = .ok (.aload_n 0, 1)) ∧ (decode cX4_addKey 1 = .ok (.getfield 42, 3)) ∧ (decode cX4_addKey 4 = .ok (.iconst 4, 1)) ∧ (decode cX4_addKey 5 = .ok (.if_icmp .ge 41, 3)) ∧ (decode cX4_addKey 8 = .ok (.aload_n 0, 1)) ∧ (decode cX4_addKey 9 = .ok (.getfield 21, 3)) ∧ (decode cX4_addKey 12 = .ok (.aload_n 0, 1)) ∧ (decode cX4_addKey 13 = .ok (.getfield 42, 3)) ∧ (decode cX4_addKey 16 = .ok (.iload_n 1, 1)) ∧ (decode cX4_addKey 17 = .ok (.iastore, 1)) := by decide +kernel
theorem dX3_readTies_52 : decode cX3_readTies 52 = .ok (.invokevirtual 91, 3) := dG_dX3_readTies_52.1
theorem dX3_readTies_55 : decode cX3_readTies 55 = .ok (.return_, 1) := dG_dX3_readTies_52.2.1
theorem dX4_addKey_0 : decode cX4_addKey 0 = .ok (.aload_n 0, 1) := dG_dX3_readTies_52.2.2.1
theorem dX4_addKey_1 : decode cX4_addKey 1 = .ok (.getfield 42, 3) := dG_dX3_readTies_52.2.2.2.1
theorem dX4_addKey_4 : decode cX4_addKey 4 = .ok (.iconst 4, 1) := dG_dX3_readTies_52.2.2.2.2.1
theorem dX4_addKey_5 : decode cX4_addKey 5 = .ok (.if_icmp .ge 41, 3) := dG_dX3_readTies_52.2.2.2.2.2.1
theorem dX4_addKey_8 : decode cX4_addKey 8 = .ok (.aload_n 0, 1) := dG_dX3_readTies_52.2.2.2.2.2.2.1
theorem dX4_addKey_9 : decode cX4_addKey 9 = .ok (.getfield 21, 3) := dG_dX3_readTies_52.2.2.2.2.2.2.2.1
theorem dX4_addKey_12 : decode cX4_addKey 12 = .ok (.aload_n 0, 1) := dG_dX3_readTies_52.2.2.2.2.2.2.2.2.1
theorem dX4_addKey_13 : decode cX4_addKey 13 = .ok (.getfield 42, 3) := dG_dX3_readTies_52.2.2.2.2.2.2.2.2.2.1
theorem dX4_addKey_16 : decode cX4_addKey 16 = .ok (.iload_n 1, 1) := dG_dX3_readTies_52.2.2.2.2.2.2.2.2.2.2.1
theorem dX4_addKey_17 : decode cX4_addKey 17 = .ok (.iastore, 1) := dG_dX3_readTies_52.2.2.2.2.2.2.2.2.2.2.2
theorem dG_dX4_addKey_18 : (decode cX4_addKey 18 = .ok (.aload_n 0, 1)) ∧ (decode cX4_addKey 19 = .ok (.getfield 24, 3)) ∧ (decode cX4_addKey 22 = .ok (.aload_n 0, 1)) ∧ (decode cX4_addKey 23 = .ok (.getfield 42, 3)) ∧ (decode cX4_addKey 26 = .ok (.iload_n 2, 1)) ∧ (decode cX4_addKey 27 = .ok (.ifCond .eq 7, 3)) ∧ (decode cX4_addKey 30 = .ok (.iconst 1, 1)) ∧ (decode cX4_addKey 31 = .ok (.goto 4, 3)) ∧ (decode cX4_addKey 34 = .ok (.iconst 0, 1)) ∧ (decode cX4_addKey 35 = .ok (.iastore, 1)) ∧ (decode cX4_addKey 36 = .ok (.aload_n 0, 1)) ∧ (decode cX4_addKey 37 = .ok (.dup, 1)) := by decide +kernel
theorem dX4_addKey_18 : decode cX4_addKey 18 = .ok (.aload_n 0, 1) := dG_dX4_addKey_18.1
theorem dX4_addKey_19 : decode cX4_addKey 19 = .ok (.getfield 24, 3) := dG_dX4_addKey_18.2.1
theorem dX4_addKey_22 : decode cX4_addKey 22 = .ok (.aload_n 0, 1) := dG_dX4_addKey_18.2.2.1
theorem dX4_addKey_23 : decode cX4_addKey 23 = .ok (.getfield 42, 3) := dG_dX4_addKey_18.2.2.2.1
theorem dX4_addKey_26 : decode cX4_addKey 26 = .ok (.iload_n 2, 1) := dG_dX4_addKey_18.2.2.2.2.1
theorem dX4_addKey_27 : decode cX4_addKey 27 = .ok (.ifCond .eq 7, 3) := dG_dX4_addKey_18.2.2.2.2.2.1
theorem dX4_addKey_30 : decode cX4_addKey 30 = .ok (.iconst 1, 1) := dG_dX4_addKey_18.2.2.2.2.2.2.1
theorem dX4_addKey_31 : decode cX4_addKey 31 = .ok (.goto 4, 3) := dG_dX4_addKey_18.2.2.2.2.2.2.2.1
theorem dX4_addKey_34 : decode cX4_addKey 34 = .ok (.iconst 0, 1) := dG_dX4_addKey_18.2.2.2.2.2.2.2.2.1
theorem dX4_addKey_35 : decode cX4_addKey 35 = .ok (.iastore, 1) := dG_dX4_addKey_18.2.2.2.2.2.2.2.2.2.1
theorem dX4_addKey_36 : decode cX4_addKey 36 = .ok (.aload_n 0, 1) := dG_dX4_addKey_18.2.2.2.2.2.2.2.2.2.2.1
theorem dX4_addKey_37 : decode cX4_addKey 37 = .ok (.dup, 1) := dG_dX4_addKey_18.2.2.2.2.2.2.2.2.2.2.2
theorem dG_dX4_addKey_38 : (decode cX4_addKey 38 = .ok (.getfield 42, 3)) ∧ (decode cX4_addKey 41 = .ok (.iconst 1, 1)) ∧ (decode cX4_addKey 42 = .ok (.iadd, 1)) ∧ (decode cX4_addKey 43 = .ok (.putfield 42, 3)) ∧ (decode cX4_addKey 46 = .ok (.return_, 1)) := by decide +kernel
theorem dX4_addKey_38 : decode cX4_addKey 38 = .ok (.getfield 42, 3) := dG_dX4_addKey_38.1
theorem dX4_addKey_41 : decode cX4_addKey 41 = .ok (.iconst 1, 1) := dG_dX4_addKey_38.2.1
theorem dX4_addKey_42 : decode cX4_addKey 42 = .ok (.iadd, 1) := dG_dX4_addKey_38.2.2.1
theorem dX4_addKey_43 : decode cX4_addKey 43 = .ok (.putfield 42, 3) := dG_dX4_addKey_38.2.2.2.1
theorem dX4_addKey_46 : decode cX4_addKey 46 = .ok (.return_, 1) := dG_dX4_addKey_38.2.2.2.2
end

section
set_option maxHeartbeats 4000000 in
set_option maxRecDepth 100000 in
theorem e_La_note (l : Launch) (D : va_G) (k : Nat → ClassId) (A : Nat → Prop) (ad : Nat → Nat) (hD : rwD A k ad) (v : gV) (f g : gF) (a1 : Int) (nn : Int) (pp : Int) (h_a1 : inR a1) (hc : tAt (f 0) nn (f 6) (f 7) (f 8) (v 5) (v 6) pp) (h1 : 0 ≤ a1 ∧ a1 ≤ 5) : GM l D k A (rwT k ad) yX3_note cX3_note 2 none 1 20 [.ref (ad 9), .int (iI a1)] v f g (fun r v1 f1 g1 => ∃ (w16 : Int) (w17 : Int), r = none ∧ (va_up (va_up v 16 w16) 17 w17) = v1 ∧ f = f1 ∧ g = g1 ∧ ((v 16) = 0 → w16 = a1) ∧ ((v 16) = 0 → a1 ≠ 0 → w17 = pp) ∧ ((v 16) ≠ 0 ∨ a1 = 0 → w16 = (v 16) ∧ w17 = (v 17))) := by
  refine GM.of (by decide) (Nat.le_of_ble_eq_true rfl) ?_
  intro p e s m args below meth c Q ls hQ C hml hr hlocks hP hl
  have hx := C.1
  have hb := C.2.1
  have hok := hP.2
  have hS : va_S A s.heap s.heap [] := va_S.rf
  have hl : lv_has ls 2 [(0, .ref (ad 9)), (1, .int (iI a1))] := hl
  have hP : gWd D (rwT k ad) (va_up (va_up v 16 (v 16)) 17 (v 17)) f g s.heap := by rw [va_id, va_id]; exact hP
  have r_1 : 0 ≤ (v 16) ∧ (v 16) ≤ 5 := hok.1 16
  refine lv_aload_n hx hb dX3_note_0 rfl (lv_at hl 0 rfl) ?_
  refine rwG_reader_fault C hP mF_X3_32 dX3_note_1 ?_
  show W p l e (gRm 1 20) s m args below meth c _ _ 0 0 Q (F0 m 4 ls [.int (iI (v 16))])
  refine gi_zne (tgt := 27) hx hb dX3_note_4 (by decide) (by omega) (fun c_2 => ?_) (fun c_2 => ?_)
  · exact g_vret hQ C hr hlocks hP hS dX3_note_27 ⟨(v 16), (v 17), rfl, rfl, rfl, rfl, (by first | omega | (split <;> omega)), (by first | omega | (split <;> omega)), (by first | omega | (split <;> omega))⟩
  · refine lv_iload_n hx hb dX3_note_7 rfl (lv_at hl 1 rfl) ?_
    refine gi_zeq (tgt := 27) hx hb dX3_note_8 (by decide) (by omega) (fun c_3 => ?_) (fun c_3 => ?_)
    · exact g_vret hQ C hr hlocks hP hS dX3_note_27 ⟨(v 16), (v 17), rfl, rfl, rfl, rfl, (by first | omega | (split <;> omega)), (by first | omega | (split <;> omega)), (by first | omega | (split <;> omega))⟩
    · refine lv_aload_n hx hb dX3_note_11 rfl (lv_at hl 0 rfl) ?_
      refine lv_iload_n hx hb dX3_note_12 rfl (lv_at hl 1 rfl) ?_
      refine rwP_reader_fault (v1 := (va_up (va_up v 16 a1) 17 (v 17))) C hP hD hS mF_X3_32 (by omega) rfl (Or.inr (gR_up (V := rwV) (F := rwF) (gR_up (V := rwV) (F := rwF) ⟨hok.1, hok.2⟩ 16 (show 0 ≤ a1 ∧ a1 ≤ 5 from by omega)) 17 (hP.2.1 17))) dX3_note_13 (fun H locs hP hS => ?_)
      refine lv_aload_n hx hb dX3_note_16 rfl (lv_at hl 0 rfl) ?_
      refine lv_aload_n hx hb dX3_note_17 rfl (lv_at hl 0 rfl) ?_
      refine rwG_reader_tokens C hP mF_X3_12 dX3_note_18 ?_
      refine g_cv (As := []) (rest := [.ref (ad 9)]) (n := 0) C hml (e_To_place l D k A ad hD (va_up (va_up v 16 a1) 17 (v 17)) f g nn pp (show tAt (f 0) nn (f 6) (f 7) (f 8) (v 5) (v 6) pp from hc)) mM_X3_94 mI_X6_place mE_X6_place mN_X6 mC_X6_place (by decide +kernel) 10 (ci := 6) rfl rfl hP hS (fun _ h => h) ⟨Nat.le_of_ble_eq_true rfl, Nat.le_of_ble_eq_true rfl⟩ ⟨Nat.zero_le _, Nat.zero_le _⟩ hl.1 rfl rfl (Nat.le_of_ble_eq_true rfl) dX3_note_21 (fun r_4 v_4 f_4 g_4 H locs hq_4 hP _ hS => ?_)
      obtain ⟨z_4, rfl, rfl, rfl, rfl, p0_4, p1_4⟩ := hq_4
      show W p l e (gRm 1 20) s m args below meth c _ _ 0 0 Q (F0 m 24 ls [.int (iI z_4), .ref (ad 9)])
      replace p0_4 : z_4 = pp := p0_4
      replace p1_4 : 0 ≤ z_4 ∧ z_4 ≤ 700 := p1_4
      have hz_4 : inR z_4 := (by first | omega | (rw [p0_4]; split <;> omega))
      refine rwP_reader_faultPlace (v1 := (va_up (va_up v 16 a1) 17 z_4)) C hP hD hS mF_X3_36 (by omega) rfl (Or.inr (gR_up (V := rwV) (F := rwF) (gR_up (V := rwV) (F := rwF) ⟨hok.1, hok.2⟩ 16 (hP.2.1 16)) 17 (show (-1) ≤ z_4 ∧ z_4 ≤ 700 from by omega))) dX3_note_24 (fun H locs hP hS => ?_)
      exact g_vret hQ C hr hlocks hP hS dX3_note_27 ⟨a1, z_4, rfl, rfl, rfl, rfl, (by first | omega | (split <;> omega)), (by first | omega | (split <;> omega)), (by first | omega | (split <;> omega))⟩

set_option maxHeartbeats 4000000 in
set_option maxRecDepth 100000 in
theorem e_La_refuseIf (l : Launch) (D : va_G) (k : Nat → ClassId) (A : Nat → Prop) (ad : Nat → Nat) (hD : rwD A k ad) (v : gV) (f g : gF) (a1 : Int) (a2 : Int) (nn : Int) (pp : Int) (h_a1 : inR a1) (h_a2 : inR a2) (hc : tAt (f 0) nn (f 6) (f 7) (f 8) (v 5) (v 6) pp) (h2 : 1 ≤ a2 ∧ a2 ≤ 5) : GM l D k A (rwT k ad) yX3_refuseIf cX3_refuseIf 3 none 2 41 [.ref (ad 9), .int (iI a1), .int (iI a2)] v f g (fun r v1 f1 g1 => ∃ (w16 : Int) (w17 : Int), r = none ∧ (va_up (va_up v 16 w16) 17 w17) = v1 ∧ f = f1 ∧ g = g1 ∧ (a1 = 0 ∨ (v 16) ≠ 0 → w16 = (v 16) ∧ w17 = (v 17)) ∧ (a1 ≠ 0 → (v 16) = 0 → w16 = a2 ∧ w17 = pp)) := by
  refine GM.of (by decide) (Nat.le_of_ble_eq_true rfl) ?_
  intro p e s m args below meth c Q ls hQ C hml hr hlocks hP hl
  have hx := C.1
  have hb := C.2.1
  have hok := hP.2
  have hS : va_S A s.heap s.heap [] := va_S.rf
  have hl : lv_has ls 3 [(0, .ref (ad 9)), (1, .int (iI a1)), (2, .int (iI a2))] := hl
  have hP : gWd D (rwT k ad) (va_up (va_up v 16 (v 16)) 17 (v 17)) f g s.heap := by rw [va_id, va_id]; exact hP
  have r_1 : 0 ≤ (v 16) ∧ (v 16) ≤ 5 := hok.1 16
  refine lv_iload_n hx hb dX3_refuseIf_0 rfl (lv_at hl 1 rfl) ?_
  refine gi_zeq (tgt := 9) hx hb dX3_refuseIf_1 (by decide) (by omega) (fun c_2 => ?_) (fun c_2 => ?_)
  · exact g_vret hQ C hr hlocks hP hS dX3_refuseIf_9 ⟨(v 16), (v 17), rfl, rfl, rfl, rfl, (by first | omega | (split <;> omega)), (by first | omega | (split <;> omega))⟩
  · refine lv_aload_n hx hb dX3_refuseIf_4 rfl (lv_at hl 0 rfl) ?_
    refine lv_iload_n hx hb dX3_refuseIf_5 rfl (lv_at hl 2 rfl) ?_
    refine g_cv (As := [.int (iI a2)]) (rest := []) (n := 1) C hml (e_La_note l D k A ad hD (va_up (va_up v 16 (v 16)) 17 (v 17)) f g a2 nn pp (by omega) (show tAt (f 0) nn (f 6) (f 7) (f 8) (v 5) (v 6) pp from hc) (show 0 ≤ a2 ∧ a2 ≤ 5 from by omega)) mM_X3_78 mI_X3_note mE_X3_note mN_X3 mC_X3_note (by decide +kernel) 9 (ci := 3) rfl rfl hP hS (fun _ h => h) ⟨Nat.le_of_ble_eq_true rfl, Nat.le_of_ble_eq_true rfl⟩ ⟨Nat.zero_le _, Nat.zero_le _⟩ hl.1 rfl rfl (Nat.le_of_ble_eq_true rfl) dX3_refuseIf_6 (fun r_3 v_3 f_3 g_3 H locs hq_3 hP _ hS => ?_)
    obtain ⟨w16_3, w17_3, rfl, rfl, rfl, rfl, p0_3, p1_3, p2_3⟩ := hq_3
    show W p l e (gRm 2 41) s m args below meth c _ _ 0 0 Q (F0 m 9 ls [])
    have hP : gWd D (rwT k ad) (va_up (va_up v 16 w16_3) 17 w17_3) f g H := ⟨hP.1, (gR_up (V := rwV) (F := rwF) (gR_up (V := rwV) (F := rwF) ⟨hok.1, hok.2⟩ 16 (hP.2.1 16)) 17 (hP.2.1 17))⟩
    replace p0_3 : (v 16) = 0 → w16_3 = a2 := p0_3
    replace p1_3 : (v 16) = 0 → a2 ≠ 0 → w17_3 = pp := p1_3
    replace p2_3 : (v 16) ≠ 0 ∨ a2 = 0 → w16_3 = (v 16) ∧ w17_3 = (v 17) := p2_3
    have rw16_3 : 0 ≤ w16_3 ∧ w16_3 ≤ 5 := hP.2.1 16
    have rw17_3 : (-1) ≤ w17_3 ∧ w17_3 ≤ 700 := hP.2.1 17
    exact g_vret hQ C hr hlocks hP hS dX3_refuseIf_9 ⟨w16_3, w17_3, rfl, rfl, rfl, rfl, (by first | omega | (split <;> omega)), (by first | omega | (split <;> omega))⟩

set_option maxHeartbeats 4000000 in
set_option maxRecDepth 100000 in
theorem e_La_refuseToken (l : Launch) (D : va_G) (k : Nat → ClassId) (A : Nat → Prop) (ad : Nat → Nat) (hD : rwD A k ad) (v : gV) (f g : gF) (nn : Int) (pp : Int) (hc : tAt (f 0) nn (f 6) (f 7) (f 8) (v 5) (v 6) pp) : GM l D k A (rwT k ad) yX3_refuseToken cX3_refuseToken 1 none 2 41 [.ref (ad 9)] v f g (fun r v1 f1 g1 => ∃ (w16 : Int) (w17 : Int), r = none ∧ (va_up (va_up v 16 w16) 17 w17) = v1 ∧ f = f1 ∧ g = g1 ∧ ((v 16) = 0 → w16 = (fk (f 0) nn pp) ∧ w17 = pp) ∧ ((v 16) ≠ 0 → w16 = (v 16) ∧ w17 = (v 17))) := by
  refine GM.of (by decide) (Nat.le_of_ble_eq_true rfl) ?_
  intro p e s m args below meth c Q ls hQ C hml hr hlocks hP hl
  have hx := C.1
  have hb := C.2.1
  have hok := hP.2
  have hS : va_S A s.heap s.heap [] := va_S.rf
  have hl : lv_has ls 1 [(0, .ref (ad 9))] := hl
  have hP : gWd D (rwT k ad) (va_up (va_up v 16 (v 16)) 17 (v 17)) f g s.heap := by rw [va_id, va_id]; exact hP
  have r_1 : 0 ≤ (v 16) ∧ (v 16) ≤ 5 := hok.1 16
  refine lv_aload_n hx hb dX3_refuseToken_0 rfl (lv_at hl 0 rfl) ?_
  refine lv_aload_n hx hb dX3_refuseToken_1 rfl (lv_at hl 0 rfl) ?_
  refine rwG_reader_tokens C hP mF_X3_12 dX3_refuseToken_2 ?_
  refine g_cv (As := []) (rest := [.ref (ad 9)]) (n := 0) C hml (e_To_kind l D k A ad hD (va_up (va_up v 16 (v 16)) 17 (v 17)) f g nn pp (show tAt (f 0) nn (f 6) (f 7) (f 8) (v 5) (v 6) pp from hc)) mM_X3_56 mI_X6_kind mE_X6_kind mN_X6 mC_X6_kind (by decide +kernel) 10 (ci := 6) rfl rfl hP hS (fun _ h => h) ⟨Nat.le_of_ble_eq_true rfl, Nat.le_of_ble_eq_true rfl⟩ ⟨Nat.zero_le _, Nat.zero_le _⟩ hl.1 rfl rfl (Nat.le_of_ble_eq_true rfl) dX3_refuseToken_5 (fun r_2 v_2 f_2 g_2 H locs hq_2 hP _ hS => ?_)
  obtain ⟨z_2, rfl, rfl, rfl, rfl, p0_2, p1_2⟩ := hq_2
  show W p l e (gRm 2 41) s m args below meth c _ _ 0 0 Q (F0 m 8 ls [.int (iI z_2), .ref (ad 9)])
  replace p0_2 : z_2 = (tK (f 0) nn pp) := p0_2
  replace p1_2 : 40 ≤ z_2 ∧ z_2 ≤ 277 := p1_2
  have hz_2 : inR z_2 := (by first | omega | (rw [p0_2]; split <;> omega))
  refine lv_sipush (v := iI 257) hx hb dX3_refuseToken_8 (by decide) ?_
  refine gi_cne (tgt := 18) hx hb dX3_refuseToken_11 (by decide) (by omega) (by decide) (fun c_3 => ?_) (fun c_3 => ?_)
  · refine lv_iconst (v := iI 2) hx hb dX3_refuseToken_18 rfl ?_
    refine g_cv (As := [.int (iI 2)]) (rest := []) (n := 1) C hml (e_La_note l D k A ad hD (va_up (va_up v 16 (v 16)) 17 (v 17)) f g 2 nn pp (by decide) (show tAt (f 0) nn (f 6) (f 7) (f 8) (v 5) (v 6) pp from hc) (show 0 ≤ (2 : Int) ∧ (2 : Int) ≤ 5 from by omega)) mM_X3_78 mI_X3_note mE_X3_note mN_X3 mC_X3_note (by decide +kernel) 9 (ci := 3) rfl rfl hP hS (fun _ h => h) ⟨Nat.le_of_ble_eq_true rfl, Nat.le_of_ble_eq_true rfl⟩ ⟨Nat.zero_le _, Nat.zero_le _⟩ hl.1 rfl rfl (Nat.le_of_ble_eq_true rfl) dX3_refuseToken_19 (fun r_4 v_4 f_4 g_4 H locs hq_4 hP _ hS => ?_)
    obtain ⟨w16_4, w17_4, rfl, rfl, rfl, rfl, p0_4, p1_4, p2_4⟩ := hq_4
    show W p l e (gRm 2 41) s m args below meth c _ _ 0 0 Q (F0 m 22 ls [])
    have hP : gWd D (rwT k ad) (va_up (va_up v 16 w16_4) 17 w17_4) f g H := ⟨hP.1, (gR_up (V := rwV) (F := rwF) (gR_up (V := rwV) (F := rwF) ⟨hok.1, hok.2⟩ 16 (hP.2.1 16)) 17 (hP.2.1 17))⟩
    replace p0_4 : (v 16) = 0 → w16_4 = (2 : Int) := p0_4
    replace p1_4 : (v 16) = 0 → (2 : Int) ≠ 0 → w17_4 = pp := p1_4
    replace p2_4 : (v 16) ≠ 0 ∨ (2 : Int) = 0 → w16_4 = (v 16) ∧ w17_4 = (v 17) := p2_4
    have rw16_4 : 0 ≤ w16_4 ∧ w16_4 ≤ 5 := hP.2.1 16
    have rw17_4 : (-1) ≤ w17_4 ∧ w17_4 ≤ 700 := hP.2.1 17
    exact g_vret hQ C hr hlocks hP hS dX3_refuseToken_22 ⟨w16_4, w17_4, rfl, rfl, rfl, rfl, (by first | (intro h; rw [fk_p (by omega)]; omega) | (intro h; rw [fk_n (by omega)]; omega)), (by first | omega | (split <;> omega))⟩
  · refine lv_iconst (v := iI 1) hx hb dX3_refuseToken_14 rfl ?_
    refine lv_goto (tgt := 19) hx hb dX3_refuseToken_15 (by decide) ?_
    refine g_cv (As := [.int (iI 1)]) (rest := []) (n := 1) C hml (e_La_note l D k A ad hD (va_up (va_up v 16 (v 16)) 17 (v 17)) f g 1 nn pp (by decide) (show tAt (f 0) nn (f 6) (f 7) (f 8) (v 5) (v 6) pp from hc) (show 0 ≤ (1 : Int) ∧ (1 : Int) ≤ 5 from by omega)) mM_X3_78 mI_X3_note mE_X3_note mN_X3 mC_X3_note (by decide +kernel) 9 (ci := 3) rfl rfl hP hS (fun _ h => h) ⟨Nat.le_of_ble_eq_true rfl, Nat.le_of_ble_eq_true rfl⟩ ⟨Nat.zero_le _, Nat.zero_le _⟩ hl.1 rfl rfl (Nat.le_of_ble_eq_true rfl) dX3_refuseToken_19 (fun r_5 v_5 f_5 g_5 H locs hq_5 hP _ hS => ?_)
    obtain ⟨w16_5, w17_5, rfl, rfl, rfl, rfl, p0_5, p1_5, p2_5⟩ := hq_5
    show W p l e (gRm 2 41) s m args below meth c _ _ 0 0 Q (F0 m 22 ls [])
    have hP : gWd D (rwT k ad) (va_up (va_up v 16 w16_5) 17 w17_5) f g H := ⟨hP.1, (gR_up (V := rwV) (F := rwF) (gR_up (V := rwV) (F := rwF) ⟨hok.1, hok.2⟩ 16 (hP.2.1 16)) 17 (hP.2.1 17))⟩
    replace p0_5 : (v 16) = 0 → w16_5 = (1 : Int) := p0_5
    replace p1_5 : (v 16) = 0 → (1 : Int) ≠ 0 → w17_5 = pp := p1_5
    replace p2_5 : (v 16) ≠ 0 ∨ (1 : Int) = 0 → w16_5 = (v 16) ∧ w17_5 = (v 17) := p2_5
    have rw16_5 : 0 ≤ w16_5 ∧ w16_5 ≤ 5 := hP.2.1 16
    have rw17_5 : (-1) ≤ w17_5 ∧ w17_5 ≤ 700 := hP.2.1 17
    exact g_vret hQ C hr hlocks hP hS dX3_refuseToken_22 ⟨w16_5, w17_5, rfl, rfl, rfl, rfl, (by first | (intro h; rw [fk_p (by omega)]; omega) | (intro h; rw [fk_n (by omega)]; omega)), (by first | omega | (split <;> omega))⟩

set_option maxHeartbeats 4000000 in
set_option maxRecDepth 100000 in
theorem e_La_goOn (l : Launch) (D : va_G) (k : Nat → ClassId) (A : Nat → Prop) (ad : Nat → Nat) (hD : rwD A k ad) (v : gV) (f g : gF) (nn : Int) (pp : Int) (hc : tAt (f 0) nn (f 6) (f 7) (f 8) (v 5) (v 6) pp) : GM l D k A (rwT k ad) yX3_goOn cX3_goOn 1 (some .boolean) 1 20 [.ref (ad 9)] v f g (fun r v1 f1 g1 => ∃ (z : Int) (w6 : Int), r = some (.int (iI z)) ∧ (va_up v 6 w6) = v1 ∧ f = f1 ∧ g = g1 ∧ (0 ≤ z ∧ z ≤ 1) ∧ (z = 1 ↔ (v 16) = 0) ∧ ((v 16) ≠ 0 → w6 = (v 6)) ∧ ((v 16) = 0 → (tK (f 0) nn pp) ≠ 256 → (tK (f 0) nn pp) ≠ 257 → tAt (f 0) nn (f 6) (f 7) (f 8) (v 5) w6 (tX (f 0) nn pp))) := by
  refine GM.of (by decide) (Nat.le_of_ble_eq_true rfl) ?_
  intro p e s m args below meth c Q ls hQ C hml hr hlocks hP hl
  have hx := C.1
  have hb := C.2.1
  have hok := hP.2
  have hS : va_S A s.heap s.heap [] := va_S.rf
  have hl : lv_has ls 1 [(0, .ref (ad 9))] := hl
  have hP : gWd D (rwT k ad) (va_up v 6 (v 6)) f g s.heap := by rw [va_id]; exact hP
  have r_1 : 0 ≤ (v 16) ∧ (v 16) ≤ 5 := hok.1 16
  refine lv_aload_n hx hb dX3_goOn_0 rfl (lv_at hl 0 rfl) ?_
  refine rwG_reader_fault C hP mF_X3_32 dX3_goOn_1 ?_
  show W p l e (gRm 1 20) s m args below meth c _ _ 0 0 Q (F0 m 4 ls [.int (iI (v 16))])
  refine gi_zne (tgt := 14) hx hb dX3_goOn_4 (by decide) (by omega) (fun c_2 => ?_) (fun c_2 => ?_)
  · refine lv_aload_n hx hb dX3_goOn_14 rfl (lv_at hl 0 rfl) ?_
    refine rwG_reader_fault C hP mF_X3_32 dX3_goOn_15 ?_
    show W p l e (gRm 1 20) s m args below meth c _ _ 0 0 Q (F0 m 18 ls [.int (iI (v 16))])
    refine gi_zne (tgt := 25) hx hb dX3_goOn_18 (by decide) (by omega) (fun c_3 => ?_) (fun c_3 => ?_)
    · refine lv_iconst (v := iI 0) hx hb dX3_goOn_25 rfl ?_
      exact g_zret hQ C hr hlocks (by decide) hP hS dX3_goOn_26 ⟨0, (v 6), rfl, rfl, rfl, rfl, (by first | omega | (split <;> omega)), (by first | omega | (split <;> omega)), (by first | omega | (split <;> omega)), (by first | (intro h; exfalso; omega) | exact fun _ => hSt)⟩
    · refine lv_iconst (v := iI 1) hx hb dX3_goOn_21 rfl ?_
      refine lv_goto (tgt := 26) hx hb dX3_goOn_22 (by decide) ?_
      exact g_zret hQ C hr hlocks (by decide) hP hS dX3_goOn_26 ⟨1, (v 6), rfl, rfl, rfl, rfl, (by first | omega | (split <;> omega)), (by first | omega | (split <;> omega)), (by first | omega | (split <;> omega)), (by first | (intro h; exfalso; omega) | exact fun _ => hSt)⟩
  · refine lv_aload_n hx hb dX3_goOn_7 rfl (lv_at hl 0 rfl) ?_
    refine rwG_reader_tokens C hP mF_X3_12 dX3_goOn_8 ?_
    refine g_cv (As := []) (rest := []) (n := 0) C hml (e_To_step l D k A ad hD (va_up v 6 (v 6)) f g nn pp (show tAt (f 0) nn (f 6) (f 7) (f 8) (v 5) (v 6) pp from hc)) mM_X3_97 mI_X6_step mE_X6_step mN_X6 mC_X6_step (by decide +kernel) 10 (ci := 6) rfl rfl hP hS (fun _ h => h) ⟨Nat.le_of_ble_eq_true rfl, Nat.le_of_ble_eq_true rfl⟩ ⟨Nat.zero_le _, Nat.zero_le _⟩ hl.1 rfl rfl (Nat.le_of_ble_eq_true rfl) dX3_goOn_11 (fun r_4 v_4 f_4 g_4 H locs hq_4 hP _ hS => ?_)
    obtain ⟨w6_4, rfl, rfl, rfl, rfl, p0_4⟩ := hq_4
    show W p l e (gRm 1 20) s m args below meth c _ _ 0 0 Q (F0 m 14 ls [])
    have hP : gWd D (rwT k ad) (va_up v 6 w6_4) f g H := ⟨hP.1, (gR_up (V := rwV) (F := rwF) ⟨hok.1, hok.2⟩ 6 (hP.2.1 6))⟩
    replace p0_4 : (tK (f 0) nn pp) ≠ 256 → (tK (f 0) nn pp) ≠ 257 → tAt (f 0) nn (f 6) (f 7) (f 8) (v 5) w6_4 (tX (f 0) nn pp) := p0_4
    have rw6_4 : 0 ≤ w6_4 ∧ w6_4 ≤ 700 := hP.2.1 6
    have hSt := p0_4
    refine lv_aload_n hx hb dX3_goOn_14 rfl (lv_at hl 0 rfl) ?_
    refine rwG_reader_fault C hP mF_X3_32 dX3_goOn_15 ?_
    show W p l e (gRm 1 20) s m args below meth c _ _ 0 0 Q (F0 m 18 ls [.int (iI (v 16))])
    refine gi_zne (tgt := 25) hx hb dX3_goOn_18 (by decide) (by omega) (fun c_5 => ?_) (fun c_5 => ?_)
    · refine lv_iconst (v := iI 0) hx hb dX3_goOn_25 rfl ?_
      exact g_zret hQ C hr hlocks (by decide) hP hS dX3_goOn_26 ⟨0, w6_4, rfl, rfl, rfl, rfl, (by first | omega | (split <;> omega)), (by first | omega | (split <;> omega)), (by first | omega | (split <;> omega)), (by first | (intro h; exfalso; omega) | exact fun _ => hSt)⟩
    · refine lv_iconst (v := iI 1) hx hb dX3_goOn_21 rfl ?_
      refine lv_goto (tgt := 26) hx hb dX3_goOn_22 (by decide) ?_
      exact g_zret hQ C hr hlocks (by decide) hP hS dX3_goOn_26 ⟨1, w6_4, rfl, rfl, rfl, rfl, (by first | omega | (split <;> omega)), (by first | omega | (split <;> omega)), (by first | omega | (split <;> omega)), (by first | (intro h; exfalso; omega) | exact fun _ => hSt)⟩

set_option maxHeartbeats 4000000 in
set_option maxRecDepth 100000 in
theorem e_La_pass (l : Launch) (D : va_G) (k : Nat → ClassId) (A : Nat → Prop) (ad : Nat → Nat) (hD : rwD A k ad) (v : gV) (f g : gF) (a1 : Int) (nn : Int) (pp : Int) (h_a1 : inR a1) (hc : tAt (f 0) nn (f 6) (f 7) (f 8) (v 5) (v 6) pp) (ha : a1 ≠ 256 ∧ a1 ≠ 257) : GM l D k A (rwT k ad) yX3_pass cX3_pass 2 none 3 61 [.ref (ad 9), .int (iI a1)] v f g (fun r v1 f1 g1 => ∃ (w6 : Int) (w16 : Int) (w17 : Int), r = none ∧ (va_up (va_up (va_up v 6 w6) 16 w16) 17 w17) = v1 ∧ f = f1 ∧ g = g1 ∧ ((v 16) = 0 → (tK (f 0) nn pp) = a1 → w16 = 0 ∧ w17 = (v 17)) ∧ ((v 16) = 0 → (tK (f 0) nn pp) ≠ a1 → w16 = (fk (f 0) nn pp) ∧ w17 = pp ∧ w6 = (v 6)) ∧ ((v 16) ≠ 0 → w16 = (v 16) ∧ w17 = (v 17) ∧ w6 = (v 6)) ∧ ((v 16) = 0 → (tK (f 0) nn pp) = a1 → tAt (f 0) nn (f 6) (f 7) (f 8) (v 5) w6 (tX (f 0) nn pp))) := by
  refine GM.of (by decide) (Nat.le_of_ble_eq_true rfl) ?_
  intro p e s m args below meth c Q ls hQ C hml hr hlocks hP hl
  have hx := C.1
  have hb := C.2.1
  have hok := hP.2
  have hS : va_S A s.heap s.heap [] := va_S.rf
  have hl : lv_has ls 2 [(0, .ref (ad 9)), (1, .int (iI a1))] := hl
  have hP : gWd D (rwT k ad) (va_up (va_up (va_up v 6 (v 6)) 16 (v 16)) 17 (v 17)) f g s.heap := by rw [va_id, va_id, va_id]; exact hP
  have hfk := fk_rng (f 0) nn pp
  have r_1 : 0 ≤ (v 16) ∧ (v 16) ≤ 5 := hok.1 16
  refine lv_aload_n hx hb dX3_pass_0 rfl (lv_at hl 0 rfl) ?_
  refine rwG_reader_tokens C hP mF_X3_12 dX3_pass_1 ?_
  refine g_cv (As := []) (rest := []) (n := 0) C hml (e_To_kind l D k A ad hD (va_up (va_up (va_up v 6 (v 6)) 16 (v 16)) 17 (v 17)) f g nn pp (show tAt (f 0) nn (f 6) (f 7) (f 8) (v 5) (v 6) pp from hc)) mM_X3_56 mI_X6_kind mE_X6_kind mN_X6 mC_X6_kind (by decide +kernel) 10 (ci := 6) rfl rfl hP hS (fun _ h => h) ⟨Nat.le_of_ble_eq_true rfl, Nat.le_of_ble_eq_true rfl⟩ ⟨Nat.zero_le _, Nat.zero_le _⟩ hl.1 rfl rfl (Nat.le_of_ble_eq_true rfl) dX3_pass_4 (fun r_2 v_2 f_2 g_2 H locs hq_2 hP _ hS => ?_)
  obtain ⟨z_2, rfl, rfl, rfl, rfl, p0_2, p1_2⟩ := hq_2
  show W p l e (gRm 3 61) s m args below meth c _ _ 0 0 Q (F0 m 7 ls [.int (iI z_2)])
  replace p0_2 : z_2 = (tK (f 0) nn pp) := p0_2
  replace p1_2 : 40 ≤ z_2 ∧ z_2 ≤ 277 := p1_2
  have hz_2 : inR z_2 := (by first | omega | (rw [p0_2]; split <;> omega))
  refine lv_iload_n hx hb dX3_pass_7 rfl (lv_at hl 1 rfl) ?_
  refine gi_ceq (tgt := 15) hx hb dX3_pass_8 (by decide) (by omega) (by omega) (fun c_3 => ?_) (fun c_3 => ?_)
  · refine lv_aload_n hx hb dX3_pass_15 rfl (lv_at hl 0 rfl) ?_
    refine g_cv (As := []) (rest := []) (n := 0) C hml (e_La_goOn l D k A ad hD (va_up (va_up (va_up v 6 (v 6)) 16 (v 16)) 17 (v 17)) f g nn pp (show tAt (f 0) nn (f 6) (f 7) (f 8) (v 5) (v 6) pp from hc)) mM_X3_70 mI_X3_goOn mE_X3_goOn mN_X3 mC_X3_goOn (by decide +kernel) 9 (ci := 3) rfl rfl hP hS (fun _ h => h) ⟨Nat.le_of_ble_eq_true rfl, Nat.le_of_ble_eq_true rfl⟩ ⟨Nat.zero_le _, Nat.zero_le _⟩ hl.1 rfl rfl (Nat.le_of_ble_eq_true rfl) dX3_pass_16 (fun r_4 v_4 f_4 g_4 H locs hq_4 hP _ hS => ?_)
    obtain ⟨z_4, w6_4, rfl, rfl, rfl, rfl, p0_4, p1_4, p2_4, p3_4⟩ := hq_4
    show W p l e (gRm 3 61) s m args below meth c _ _ 0 0 Q (F0 m 19 ls [.int (iI z_4)])
    have hP : gWd D (rwT k ad) (va_up (va_up (va_up v 6 w6_4) 16 (v 16)) 17 (v 17)) f g H := ⟨hP.1, (gR_up (V := rwV) (F := rwF) (gR_up (V := rwV) (F := rwF) (gR_up (V := rwV) (F := rwF) ⟨hok.1, hok.2⟩ 6 (hP.2.1 6)) 16 (hP.2.1 16)) 17 (hP.2.1 17))⟩
    replace p0_4 : 0 ≤ z_4 ∧ z_4 ≤ 1 := p0_4
    replace p1_4 : z_4 = 1 ↔ (v 16) = 0 := p1_4
    replace p2_4 : (v 16) ≠ 0 → w6_4 = (v 6) := p2_4
    replace p3_4 : (v 16) = 0 → (tK (f 0) nn pp) ≠ 256 → (tK (f 0) nn pp) ≠ 257 → tAt (f 0) nn (f 6) (f 7) (f 8) (v 5) w6_4 (tX (f 0) nn pp) := p3_4
    have rw6_4 : 0 ≤ w6_4 ∧ w6_4 ≤ 700 := hP.2.1 6
    have hG2 := p2_4
    have hG3 := p3_4
    refine lv_pop hx hb dX3_pass_19 rfl ?_
    exact g_vret hQ C hr hlocks hP hS dX3_pass_20 ⟨w6_4, (v 16), (v 17), rfl, rfl, rfl, rfl, (by first | omega | (split <;> omega)), (by first | omega | (split <;> omega)), (by first | omega | (split <;> omega)), (by first | (intro h1 h2; exfalso; omega) | exact fun h1 h2 => hG3 h1 (by omega) (by omega))⟩
  · refine lv_aload_n hx hb dX3_pass_11 rfl (lv_at hl 0 rfl) ?_
    refine g_cv (As := []) (rest := []) (n := 0) C hml (e_La_refuseToken l D k A ad hD (va_up (va_up (va_up v 6 (v 6)) 16 (v 16)) 17 (v 17)) f g nn pp (show tAt (f 0) nn (f 6) (f 7) (f 8) (v 5) (v 6) pp from hc)) mM_X3_88 mI_X3_refuseToken mE_X3_refuseToken mN_X3 mC_X3_refuseToken (by decide +kernel) 9 (ci := 3) rfl rfl hP hS (fun _ h => h) ⟨Nat.le_of_ble_eq_true rfl, Nat.le_of_ble_eq_true rfl⟩ ⟨Nat.zero_le _, Nat.zero_le _⟩ hl.1 rfl rfl (Nat.le_of_ble_eq_true rfl) dX3_pass_12 (fun r_5 v_5 f_5 g_5 H locs hq_5 hP _ hS => ?_)
    obtain ⟨w16_5, w17_5, rfl, rfl, rfl, rfl, p0_5, p1_5⟩ := hq_5
    show W p l e (gRm 3 61) s m args below meth c _ _ 0 0 Q (F0 m 15 ls [])
    have hP : gWd D (rwT k ad) (va_up (va_up (va_up v 6 (v 6)) 16 w16_5) 17 w17_5) f g H := ⟨hP.1, (gR_up (V := rwV) (F := rwF) (gR_up (V := rwV) (F := rwF) (gR_up (V := rwV) (F := rwF) ⟨hok.1, hok.2⟩ 6 (hP.2.1 6)) 16 (hP.2.1 16)) 17 (hP.2.1 17))⟩
    replace p0_5 : (v 16) = 0 → w16_5 = (fk (f 0) nn pp) ∧ w17_5 = pp := p0_5
    replace p1_5 : (v 16) ≠ 0 → w16_5 = (v 16) ∧ w17_5 = (v 17) := p1_5
    have rw16_5 : 0 ≤ w16_5 ∧ w16_5 ≤ 5 := hP.2.1 16
    have rw17_5 : (-1) ≤ w17_5 ∧ w17_5 ≤ 700 := hP.2.1 17
    refine lv_aload_n hx hb dX3_pass_15 rfl (lv_at hl 0 rfl) ?_
    refine g_cv (As := []) (rest := []) (n := 0) C hml (e_La_goOn l D k A ad hD (va_up (va_up (va_up v 6 (v 6)) 16 w16_5) 17 w17_5) f g nn pp (show tAt (f 0) nn (f 6) (f 7) (f 8) (v 5) (v 6) pp from hc)) mM_X3_70 mI_X3_goOn mE_X3_goOn mN_X3 mC_X3_goOn (by decide +kernel) 9 (ci := 3) rfl rfl hP hS (fun _ h => h) ⟨Nat.le_of_ble_eq_true rfl, Nat.le_of_ble_eq_true rfl⟩ ⟨Nat.zero_le _, Nat.zero_le _⟩ hl.1 rfl rfl (Nat.le_of_ble_eq_true rfl) dX3_pass_16 (fun r_6 v_6 f_6 g_6 H locs hq_6 hP _ hS => ?_)
    obtain ⟨z_6, w6_6, rfl, rfl, rfl, rfl, p0_6, p1_6, p2_6, p3_6⟩ := hq_6
    show W p l e (gRm 3 61) s m args below meth c _ _ 0 0 Q (F0 m 19 ls [.int (iI z_6)])
    have hP : gWd D (rwT k ad) (va_up (va_up (va_up v 6 w6_6) 16 w16_5) 17 w17_5) f g H := ⟨hP.1, (gR_up (V := rwV) (F := rwF) (gR_up (V := rwV) (F := rwF) (gR_up (V := rwV) (F := rwF) ⟨hok.1, hok.2⟩ 6 (hP.2.1 6)) 16 (hP.2.1 16)) 17 (hP.2.1 17))⟩
    replace p0_6 : 0 ≤ z_6 ∧ z_6 ≤ 1 := p0_6
    replace p1_6 : z_6 = 1 ↔ w16_5 = 0 := p1_6
    replace p2_6 : w16_5 ≠ 0 → w6_6 = (v 6) := p2_6
    replace p3_6 : w16_5 = 0 → (tK (f 0) nn pp) ≠ 256 → (tK (f 0) nn pp) ≠ 257 → tAt (f 0) nn (f 6) (f 7) (f 8) (v 5) w6_6 (tX (f 0) nn pp) := p3_6
    have rw6_6 : 0 ≤ w6_6 ∧ w6_6 ≤ 700 := hP.2.1 6
    have hG2 := p2_6
    have hG3 := p3_6
    refine lv_pop hx hb dX3_pass_19 rfl ?_
    exact g_vret hQ C hr hlocks hP hS dX3_pass_20 ⟨w6_6, w16_5, w17_5, rfl, rfl, rfl, rfl, (by first | omega | (split <;> omega)), (by first | omega | (split <;> omega)), (by first | omega | (split <;> omega)), (by first | (intro h1 h2; exfalso; omega) | exact fun h1 h2 => hG3 h1 (by omega) (by omega))⟩
end
