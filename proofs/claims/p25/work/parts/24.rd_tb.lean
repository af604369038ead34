section
/-! an expression on its way: signs that wait (top first), the code (latest first) -/
def hdS : List Int → Int
  | [] => 0
  | x :: _ => x
def cSg : List Int → Int
  | [] => 0
  | x :: S => cSg S + (if x = 11 then 0 else 1)
def cNs : List Int → Int
  | [] => 0
  | x :: S => cNs S + (if 10 ≤ x then 1 else 0)
def cPa : List Int → Int
  | [] => 0
  | x :: S => cPa S + (if x = 11 then 1 else 0)
def rlN : List Int → List (Int × Int) → List Int × List (Int × Int)
  | [], E => ([], E)
  | x :: S, E => if x = 10 then rlN S ((10, 0) :: E) else (x :: S, E)
def rlS (c : Int) : List Int → List (Int × Int) → List Int × List (Int × Int)
  | [], E => ([], E)
  | x :: S, E => if x < 10 ∧ (c = 9 → x = 9) then rlS c S ((x, 0) :: E) else (x :: S, E)
def wfS : List Int → Prop
  | [] => True
  | x :: S => wfS S ∧ (7 ≤ x ∧ x ≤ 11) ∧ (x < 10 → S = [] ∨ hdS S = 11 ∨ (x = 9 ∧ (hdS S = 7 ∨ hdS S = 8)))
def rep : List Int → (Int → Int) → Int → Prop
  | [], _, w => w = 0
  | x :: S, a, w => a (w - 1) = x ∧ rep S a (w - 1)
def repC (μ : Int → Int) : List (Int × Int) → (Int → Int) → (Int → Int) → Int → Prop
  | [], _, _, c => c = 0
  | x :: E, a, b, c => a (c - 1) = μ x.1 ∧ b (c - 1) = x.2 ∧ repC μ E a b (c - 1)
theorem rep_len : ∀ (S : List Int) (a : Int → Int) (w : Int), rep S a w → w = (S.length : Int) := by
  intro S
  induction S with
  | nil => intro a w h; exact h
  | cons x S ih =>
    intro a w h
    have := ih a (w - 1) h.2
    simp only [List.length_cons]
    omega
theorem rep_top {S : List Int} {a : Int → Int} {w : Int} (h : rep S a w) (h0 : 0 < w) : a (w - 1) = hdS S ∧ rep S.tail a (w - 1) := by
  cases S with
  | nil => have : w = 0 := h; omega
  | cons x S => exact h
theorem rep_nil {S : List Int} {a : Int → Int} {w : Int} (h : rep S a w) : w = 0 ↔ S = [] := by
  have := rep_len S a w h
  cases S with
  | nil => exact ⟨fun _ => rfl, fun _ => h⟩
  | cons x S =>
    simp only [List.length_cons] at this
    exact ⟨fun h => by omega, fun h => by cases h⟩
theorem rep_ext : ∀ (S : List Int) (a b : Int → Int) (w : Int), rep S a w → (∀ j, j < w → b j = a j) → rep S b w := by
  intro S
  induction S with
  | nil => intro a b w h _; exact h
  | cons x S ih =>
    intro a b w h he
    exact ⟨by rw [he (w - 1) (by omega)]; exact h.1, ih a b (w - 1) h.2 (fun j hj => he j (by omega))⟩
theorem rep_push {S : List Int} {a : Int → Int} {w x : Int} (h : rep S a w) : rep (x :: S) (u1 a w x) (w + 1) := by
  have e : w + 1 - 1 = w := by omega
  refine ⟨by rw [e]; exact u1_s, ?_⟩
  rw [e]
  exact rep_ext S a _ w h (fun j hj => u1_n (by omega))
theorem repC_len {μ : Int → Int} : ∀ (E : List (Int × Int)) (a b : Int → Int) (c : Int), repC μ E a b c → c = (E.length : Int) := by
  intro E
  induction E with
  | nil => intro a b c h; exact h
  | cons x E ih =>
    intro a b c h
    have := ih a b (c - 1) h.2.2
    simp only [List.length_cons]
    omega
theorem repC_ext {μ : Int → Int} : ∀ (E : List (Int × Int)) (a b a2 b2 : Int → Int) (c : Int), repC μ E a b c → (∀ j, j < c → a2 j = a j ∧ b2 j = b j) → repC μ E a2 b2 c := by
  intro E
  induction E with
  | nil => intro a b a2 b2 c h _; exact h
  | cons x E ih =>
    intro a b a2 b2 c h he
    exact ⟨by rw [(he (c - 1) (by omega)).1]; exact h.1, by rw [(he (c - 1) (by omega)).2]; exact h.2.1, ih a b a2 b2 (c - 1) h.2.2 (fun j hj => he j (by omega))⟩
theorem repC_push {μ : Int → Int} {E : List (Int × Int)} {a b : Int → Int} {c y z : Int} (x : Int) (h : repC μ E a b c) (hy : y = μ x) : repC μ ((x, z) :: E) (u1 a c y) (u1 b c z) (c + 1) := by
  have e : c + 1 - 1 = c := by omega
  refine ⟨by rw [e]; exact u1_s.trans hy, by rw [e]; exact u1_s, ?_⟩
  rw [e]
  exact repC_ext E a b _ _ c h (fun j hj => ⟨u1_n (by omega), u1_n (by omega)⟩)
theorem wfS_tail {S : List Int} (h : wfS S) : wfS S.tail := by
  cases S with
  | nil => exact h
  | cons x S => exact h.1
theorem wfS_hd {S : List Int} (h : wfS S) (h0 : S ≠ []) : 7 ≤ hdS S ∧ hdS S ≤ 11 := by
  cases S with
  | nil => exact absurd rfl h0
  | cons x S => exact h.2.1
theorem wfS_bel {S : List Int} (h : wfS S) (h0 : S ≠ []) (h1 : hdS S < 10) : hdS S.tail ≠ 10 ∧ (hdS S ≠ 9 → S.tail = [] ∨ hdS S.tail = 11) := by
  cases S with
  | nil => exact absurd rfl h0
  | cons x S =>
    have h2 : S = [] ∨ hdS S = 11 ∨ (x = 9 ∧ (hdS S = 7 ∨ hdS S = 8)) := h.2.2 h1
    refine ⟨?_, fun h3 => ?_⟩
    · show hdS S ≠ 10
      rcases h2 with e | e | e
      · rw [e]; decide
      · omega
      · omega
    · show S = [] ∨ hdS S = 11
      have h4 : x ≠ 9 := h3
      rcases h2 with e | e | e
      · exact Or.inl e
      · exact Or.inr e
      · exact absurd e.1 h4
theorem cnt_tail {S : List Int} (h0 : S ≠ []) : (hdS S = 11 → cSg S = cSg S.tail) ∧ (hdS S ≠ 11 → cSg S = cSg S.tail + 1) ∧ (10 ≤ hdS S → cNs S = cNs S.tail + 1) ∧ (hdS S < 10 → cNs S = cNs S.tail) ∧ (hdS S = 11 → cPa S = cPa S.tail + 1) ∧ (hdS S ≠ 11 → cPa S = cPa S.tail) := by
  cases S with
  | nil => exact absurd rfl h0
  | cons x S =>
    simp only [cSg, cNs, cPa, hdS, List.tail_cons]
    refine ⟨fun h => ?_, fun h => ?_, fun h => ?_, fun h => ?_, fun h => ?_, fun h => ?_⟩
    · rw [if_pos h]; omega
    · rw [if_neg h]
    · rw [if_pos h]
    · rw [if_neg (by omega)]; omega
    · rw [if_pos h]
    · rw [if_neg h]; omega
theorem cnt_pos : ∀ S : List Int, 0 ≤ cSg S ∧ 0 ≤ cNs S ∧ 0 ≤ cPa S ∧ cPa S ≤ cNs S := by
  intro S
  induction S with
  | nil => decide
  | cons x S ih =>
    simp only [cSg, cNs, cPa]
    refine ⟨?_, ?_, ?_, ?_⟩ <;> (repeat' split) <;> omega
theorem wfS_len : ∀ S : List Int, wfS S → (S.length : Int) ≤ 3 * cNs S + 2 ∧ (hdS S = 7 ∨ hdS S = 8 → (S.length : Int) ≤ 3 * cNs S + 1) ∧ (S = [] ∨ 10 ≤ hdS S → (S.length : Int) ≤ 3 * cNs S) := by
  intro S
  induction S with
  | nil => intro _; simp [cNs]
  | cons x S ih =>
    intro h
    obtain ⟨i1, i2, i3⟩ := ih h.1
    have hx := h.2.1
    have hb := h.2.2
    simp only [cNs, List.length_cons, hdS]
    by_cases h10 : 10 ≤ x
    · rw [if_pos h10]
      exact ⟨by omega, fun _ => by omega, fun _ => by omega⟩
    · rw [if_neg h10]
      rcases hb (by omega) with e | e | e
      · have := i3 (Or.inl e)
        exact ⟨by omega, fun _ => by omega, fun h => by rcases h with h | h; cases h; omega⟩
      · have := i3 (Or.inr (by omega))
        exact ⟨by omega, fun _ => by omega, fun h => by rcases h with h | h; cases h; omega⟩
      · have := i2 e.2
        exact ⟨by omega, fun _ => by omega, fun h => by rcases h with h | h; cases h; omega⟩
theorem rlS_pop {c : Int} {S : List Int} {E : List (Int × Int)} (h0 : S ≠ []) (h1 : hdS S < 10) (h2 : c = 9 → hdS S = 9) : rlS c S E = rlS c S.tail ((hdS S, 0) :: E) := by
  cases S with
  | nil => exact absurd rfl h0
  | cons x S =>
    conv => lhs; unfold rlS
    rw [if_pos ⟨h1, h2⟩]
    rfl
theorem rlS_stop {c : Int} {S : List Int} {E : List (Int × Int)} (h : S = [] ∨ 10 ≤ hdS S ∨ (c = 9 ∧ hdS S ≠ 9)) : rlS c S E = (S, E) := by
  cases S with
  | nil => rfl
  | cons x S =>
    unfold rlS
    rw [if_neg]
    rintro ⟨h1, h2⟩
    rcases h with h | h | h
    · cases h
    · have : 10 ≤ x := h; omega
    · exact h.2 (h2 h.1)
theorem rlN_pop {S : List Int} {E : List (Int × Int)} (h1 : hdS S = 10) : rlN S E = rlN S.tail ((10, 0) :: E) := by
  cases S with
  | nil => exact absurd h1 (by decide)
  | cons x S =>
    conv => lhs; unfold rlN
    rw [if_pos (show x = 10 from h1)]
    rfl
theorem rlN_stop {S : List Int} {E : List (Int × Int)} (h : hdS S ≠ 10) : rlN S E = (S, E) := by
  cases S with
  | nil => rfl
  | cons x S =>
    unfold rlN
    rw [if_neg (show ¬ x = 10 from h)]
theorem rlS_ok (c : Int) : ∀ (S : List Int) (E : List (Int × Int)), wfS S → hdS S ≠ 10 → wfS (rlS c S E).1 ∧ hdS (rlS c S E).1 ≠ 10 ∧ cNs (rlS c S E).1 = cNs S ∧ cPa (rlS c S E).1 = cPa S ∧ ((rlS c S E).2.length : Int) + cSg (rlS c S E).1 = (E.length : Int) + cSg S ∧ (c ≠ 9 → (rlS c S E).1 = [] ∨ hdS (rlS c S E).1 = 11) ∧ (c = 9 → hdS (rlS c S E).1 ≠ 9) := by
  intro S
  induction S with
  | nil => intro E h1 h2; exact ⟨h1, h2, rfl, rfl, rfl, fun _ => Or.inl rfl, fun _ => by show (0 : Int) ≠ 9; decide⟩
  | cons x S ih =>
    intro E h1 h2
    have hx := h1.2.1
    by_cases hp : x < 10 ∧ (c = 9 → x = 9)
    · have hb := wfS_bel h1 (by simp) hp.1
      have hc := cnt_tail (S := x :: S) (by simp)
      have e : rlS c (x :: S) E = rlS c S ((x, 0) :: E) := rlS_pop (by simp) hp.1 hp.2
      rw [e]
      obtain ⟨i1, i2, i3, i4, i5, i6, i7⟩ := ih ((x, 0) :: E) h1.1 hb.1
      simp only [hdS, List.tail_cons] at hc
      refine ⟨i1, i2, ?_, ?_, ?_, i6, i7⟩
      · rw [i3]; exact (hc.2.2.2.1 hp.1).symm
      · rw [i4]; exact (hc.2.2.2.2.2 (by omega)).symm
      · rw [i5]
        have := hc.2.1 (by omega)
        simp only [List.length_cons]
        omega
    · have e : rlS c (x :: S) E = (x :: S, E) := rlS_stop (by
        by_cases h10 : 10 ≤ x
        · exact Or.inr (Or.inl h10)
        · refine Or.inr (Or.inr ?_)
          show c = 9 ∧ x ≠ 9
          by_cases c9 : c = 9
          · exact ⟨c9, fun h9 => hp ⟨by omega, fun _ => h9⟩⟩
          · exact absurd ⟨by omega, fun h => absurd h c9⟩ hp)
      rw [e]
      refine ⟨h1, h2, rfl, rfl, rfl, fun hc9 => Or.inr ?_, fun hc9 h9 => ?_⟩
      · show x = 11
        have h10 : x ≠ 10 := h2
        by_cases hl : x < 10
        · exact absurd ⟨hl, fun h => absurd h hc9⟩ hp
        · omega
      · have h9' : x = 9 := h9
        exact hp ⟨by omega, fun _ => h9'⟩
theorem rlN_ok : ∀ (S : List Int) (E : List (Int × Int)), wfS S → wfS (rlN S E).1 ∧ hdS (rlN S E).1 ≠ 10 ∧ cNs (rlN S E).1 ≤ cNs S ∧ cPa (rlN S E).1 = cPa S ∧ ((rlN S E).2.length : Int) + cSg (rlN S E).1 = (E.length : Int) + cSg S := by
  intro S
  induction S with
  | nil => intro E h; exact ⟨h, by show (0 : Int) ≠ 10; decide, Int.le_refl _, rfl, rfl⟩
  | cons x S ih =>
    intro E h
    have hc := cnt_tail (S := x :: S) (by simp)
    simp only [hdS, List.tail_cons] at hc
    by_cases hx : x = 10
    · have e : rlN (x :: S) E = rlN S ((10, 0) :: E) := rlN_pop hx
      rw [e]
      obtain ⟨i1, i2, i3, i4, i5⟩ := ih ((10, 0) :: E) h.1
      refine ⟨i1, i2, ?_, ?_, ?_⟩
      · have := hc.2.2.1 (by omega); omega
      · rw [i4]; exact (hc.2.2.2.2.2 (by omega)).symm
      · rw [i5]
        have := hc.2.1 (by omega)
        simp only [List.length_cons]
        omega
    · have e : rlN (x :: S) E = (x :: S, E) := rlN_stop hx
      rw [e]
      exact ⟨h, hx, Int.le_refl _, rfl, rfl⟩
/-! the run over the tokens -/
def fk (B : Int → Int) (n p : Int) : Int := if tK B n p = 257 then 1 else 2
def exF (B : Int → Int) (n : Int) : Nat → Int → Int → List Int → List (Int × Int) → Int × Int × List (Int × Int)
  | 0, p, _, _, E => (9, p, E)
  | k + 1, p, h, S, E =>
    if h = 0 then
      if tK B n p = 258 ∨ (272 ≤ tK B n p ∧ tK B n p ≤ 277) then
        if 40 ≤ (E.length : Int) + cSg S then (3, p, E)
        else exF B n k (tX B n p) 1 (rlN S ((if tK B n p = 258 then 6 else tK B n p - 272, tV B n p) :: E)).1 (rlN S ((if tK B n p = 258 then 6 else tK B n p - 272, tV B n p) :: E)).2
      else if tK B n p = 40 then
        if 8 ≤ cNs S then (3, p, E) else exF B n k (tX B n p) 0 (11 :: S) E
      else if tK B n p = 45 then
        if 40 ≤ (E.length : Int) + cSg S ∨ 8 ≤ cNs S then (3, p, E) else exF B n k (tX B n p) 0 (10 :: S) E
      else (fk B n p, p, E)
    else
      if tK B n p = 43 ∨ tK B n p = 45 ∨ tK B n p = 42 then
        if 40 ≤ (E.length : Int) + cSg S then (3, p, E)
        else exF B n k (tX B n p) 0 ((if tK B n p = 43 then 7 else if tK B n p = 45 then 8 else 9) :: (rlS (if tK B n p = 43 then 7 else if tK B n p = 45 then 8 else 9) S E).1) (rlS (if tK B n p = 43 then 7 else if tK B n p = 45 then 8 else 9) S E).2
      else if tK B n p = 41 ∧ 0 < cPa S then
        exF B n k (tX B n p) 1 (rlN (rlS 7 S E).1.tail (rlS 7 S E).2).1 (rlN (rlS 7 S E).1.tail (rlS 7 S E).2).2
      else if tK B n p = 59 ∧ cPa S = 0 then (0, p, (rlS 7 S E).2)
      else (fk B n p, p, E)
section EXF
variable {B : Int → Int} {n p : Int} {S : List Int} {E : List (Int × Int)}
theorem exF_num (k : Nat) {c z : Int} (h : (tK B n p = 258 ∧ c = 6) ∨ ((272 ≤ tK B n p ∧ tK B n p ≤ 277) ∧ c = tK B n p - 272)) (hz : z = tV B n p) (hc : (E.length : Int) + cSg S < 40) : exF B n (k + 1) p 0 S E = exF B n k (tX B n p) 1 (rlN S ((c, z) :: E)).1 (rlN S ((c, z) :: E)).2 := by
  have e : (if tK B n p = 258 then (6 : Int) else tK B n p - 272) = c := by
    rcases h with ⟨h1, h2⟩ | ⟨h1, h2⟩
    · rw [if_pos h1, h2]
    · rw [if_neg (by omega), h2]
  conv => lhs; unfold exF
  rw [if_pos rfl, if_pos (by omega), if_neg (by omega), e, hz]
theorem exF_num3 (k : Nat) (h : tK B n p = 258 ∨ (272 ≤ tK B n p ∧ tK B n p ≤ 277)) (hc : 40 ≤ (E.length : Int) + cSg S) : exF B n (k + 1) p 0 S E = (3, p, E) := by
  conv => lhs; unfold exF
  rw [if_pos rfl, if_pos h, if_pos hc]
theorem exF_par (k : Nat) (h : tK B n p = 40) (hc : cNs S < 8) : exF B n (k + 1) p 0 S E = exF B n k (tX B n p) 0 (11 :: S) E := by
  conv => lhs; unfold exF
  rw [if_pos rfl, if_neg (by omega), if_pos h, if_neg (by omega)]
theorem exF_par3 (k : Nat) (h : tK B n p = 40) (hc : 8 ≤ cNs S) : exF B n (k + 1) p 0 S E = (3, p, E) := by
  conv => lhs; unfold exF
  rw [if_pos rfl, if_neg (by omega), if_pos h, if_pos hc]
theorem exF_neg (k : Nat) (h : tK B n p = 45) (hc : (E.length : Int) + cSg S < 40) (hd : cNs S < 8) : exF B n (k + 1) p 0 S E = exF B n k (tX B n p) 0 (10 :: S) E := by
  conv => lhs; unfold exF
  rw [if_pos rfl, if_neg (by omega), if_neg (by omega), if_pos h, if_neg (by omega)]
theorem exF_neg3 (k : Nat) (h : tK B n p = 45) (hc : 40 ≤ (E.length : Int) + cSg S ∨ 8 ≤ cNs S) : exF B n (k + 1) p 0 S E = (3, p, E) := by
  conv => lhs; unfold exF
  rw [if_pos rfl, if_neg (by omega), if_neg (by omega), if_pos h, if_pos hc]
theorem exF_bad0 (k : Nat) (h : tK B n p ≠ 258 ∧ ¬ (272 ≤ tK B n p ∧ tK B n p ≤ 277) ∧ tK B n p ≠ 40 ∧ tK B n p ≠ 45) : exF B n (k + 1) p 0 S E = (fk B n p, p, E) := by
  conv => lhs; unfold exF
  rw [if_pos rfl, if_neg (by omega), if_neg (by omega), if_neg (by omega)]
theorem exF_sg (k : Nat) {c : Int} (h : (tK B n p = 43 ∧ c = 7) ∨ (tK B n p = 45 ∧ c = 8) ∨ (tK B n p = 42 ∧ c = 9)) (hc : (E.length : Int) + cSg S < 40) : exF B n (k + 1) p 1 S E = exF B n k (tX B n p) 0 (c :: (rlS c S E).1) (rlS c S E).2 := by
  have e : (if tK B n p = 43 then (7 : Int) else if tK B n p = 45 then 8 else 9) = c := by
    rcases h with ⟨h1, h2⟩ | ⟨h1, h2⟩ | ⟨h1, h2⟩
    · rw [if_pos h1, h2]
    · rw [if_neg (by omega), if_pos h1, h2]
    · rw [if_neg (by omega), if_neg (by omega), h2]
  conv => lhs; unfold exF
  rw [if_neg (by decide), if_pos (by omega), if_neg (by omega), e]
theorem exF_sg3 (k : Nat) (h : tK B n p = 43 ∨ tK B n p = 45 ∨ tK B n p = 42) (hc : 40 ≤ (E.length : Int) + cSg S) : exF B n (k + 1) p 1 S E = (3, p, E) := by
  conv => lhs; unfold exF
  rw [if_neg (by decide), if_pos h, if_pos hc]
theorem exF_clo (k : Nat) (h : tK B n p = 41) (hc : 0 < cPa S) : exF B n (k + 1) p 1 S E = exF B n k (tX B n p) 1 (rlN (rlS 7 S E).1.tail (rlS 7 S E).2).1 (rlN (rlS 7 S E).1.tail (rlS 7 S E).2).2 := by
  conv => lhs; unfold exF
  rw [if_neg (by decide), if_neg (by omega), if_pos ⟨h, hc⟩]
theorem exF_end (k : Nat) (h : tK B n p = 59) (hc : cPa S = 0) : exF B n (k + 1) p 1 S E = (0, p, (rlS 7 S E).2) := by
  conv => lhs; unfold exF
  rw [if_neg (by decide), if_neg (by omega), if_neg (by omega), if_pos ⟨h, hc⟩]
theorem exF_bad1 (k : Nat) (h : tK B n p ≠ 43 ∧ tK B n p ≠ 45 ∧ tK B n p ≠ 42) (h2 : tK B n p = 41 → cPa S = 0) (h3 : tK B n p = 59 → 0 < cPa S) : exF B n (k + 1) p 1 S E = (fk B n p, p, E) := by
  have hp := cnt_pos S
  conv => lhs; unfold exF
  rw [if_neg (by decide), if_neg (by omega), if_neg (by omega), if_neg (by omega)]
end EXF
/-! the other laws -/
def rnd (B : Int → Int) (n : Int) : Nat → Int → Int → Int × Int
  | 0, _, p => (0, p)
  | k + 1, i, p => if tK B n p ≠ 258 then (fk B n p, p) else if tV B n p < gElo i.toNat ∨ gEhi i.toNat < tV B n p then (4, p) else rnd B n k (i + 1) (tX B n p)
def kys (B : Int → Int) (n : Int) : Nat → Int → Int × Int
  | 0, p => if tK B n p ≠ 266 ∧ tK B n p ≠ 267 then (fk B n p, p) else (3, p)
  | k + 1, p => if tK B n p ≠ 266 ∧ tK B n p ≠ 267 then (fk B n p, p) else if tK B n (tX B n p) < 268 ∨ 271 < tK B n (tX B n p) then (fk B n (tX B n p), tX B n p) else if tK B n (tX B n (tX B n p)) = 44 then kys B n k (tX B n (tX B n (tX B n p))) else (0, tX B n (tX B n p))
def tie (B : Int → Int) (n p : Int) : Int × Int := if tK B n p = 264 ∨ tK B n p = 265 then (0, tX B n p) else (fk B n p, p)
def semi (B : Int → Int) (n : Int) (o : Int × Int) : Int × Int := if o.1 ≠ 0 then o else if tK B n o.2 ≠ 59 then (fk B n o.2, o.2) else (0, tX B n o.2)
def exO (B : Int → Int) (n p : Int) : Int × Int := ((exF B n 702 p 0 [] []).1, (exF B n 702 p 0 [] []).2.1)
def law0 (B : Int → Int) (n p r t1 t2 t3 : Int) : Int × Int :=
  if tK B n p = 260 then (if 4 ≤ r then (3, p) else rnd B n 4 0 (tX B n p))
  else if tK B n p = 261 then (if t1 ≠ 0 then (5, p) else exO B n (tX B n p))
  else if tK B n p = 262 then (if t2 ≠ 0 then (5, p) else kys B n 4 (tX B n p))
  else if tK B n p = 263 then (if t3 ≠ 0 then (5, p) else tie B n (tX B n p))
  else (fk B n p, p)
def law1 (B : Int → Int) (n p r t1 t2 t3 : Int) : Int × Int := semi B n (law0 B n p r t1 t2 t3)
def txt (B : Int → Int) (n : Int) : Nat → Int → Int → Int → Int → Int → Int × Int × Int
  | 0, p, r, _, _, _ => (9, p, r)
  | k + 1, p, r, t1, t2, t3 =>
    if tK B n p = 256 then (0, p, r)
    else if (law1 B n p r t1 t2 t3).1 ≠ 0 then ((law1 B n p r t1 t2 t3).1, (law1 B n p r t1 t2 t3).2, r)
    else txt B n k (law1 B n p r t1 t2 t3).2 (if tK B n p = 260 then r + 1 else r) (if tK B n p = 261 then 1 else t1) (if tK B n p = 262 then 1 else t2) (if tK B n p = 263 then 1 else t3)
/-! the class's state of an expression -/
def xX (has : Int) (S : List Int) (E : List (Int × Int)) (wt : Int → Int) (w : Int) (it nu : Int → Int) (c nested parens items : Int) : Prop :=
  wfS S ∧ (has = 1 → hdS S ≠ 10) ∧ rep S wt w ∧ repC id E it nu c ∧ nested = cNs S ∧ parens = cPa S ∧ items = (E.length : Int) + cSg S ∧ items ≤ 40 ∧ nested ≤ 8
theorem xX_sg {S : List Int} {E : List (Int × Int)} {wt it nu : Int → Int} {w c nested parens items x : Int} (hw : wfS S) (hx : 7 ≤ x ∧ x ≤ 9) (h9 : x ≠ 9 → S = [] ∨ hdS S = 11) (h9' : x = 9 → hdS S ≠ 9) (hd : hdS S ≠ 10) (hr : rep S wt w) (hc : repC id E it nu c) (hn : nested = cNs S) (hp : parens = cPa S) (hi : items = (E.length : Int) + cSg S + 1) (hi4 : items ≤ 40) (hn8 : nested ≤ 8) : xX 0 (x :: S) E (u1 wt w x) (w + 1) it nu c nested parens items := by
  have hc2 := cnt_tail (S := x :: S) (by simp)
  simp only [hdS, List.tail_cons] at hc2
  refine ⟨⟨hw, by omega, fun _ => ?_⟩, fun h => absurd h (by decide), rep_push hr, hc, ?_, ?_, ?_, hi4, hn8⟩
  · by_cases e : x = 9
    · by_cases e2 : S = []
      · exact Or.inl e2
      · have := wfS_hd hw e2
        have := h9' e
        by_cases e3 : hdS S = 11
        · exact Or.inr (Or.inl e3)
        · exact Or.inr (Or.inr ⟨e, by omega⟩)
    · rcases h9 e with h | h
      · exact Or.inl h
      · exact Or.inr (Or.inl h)
  · rw [hc2.2.2.2.1 (by omega)]; exact hn
  · rw [hc2.2.2.2.2.2 (by omega)]; exact hp
  · rw [hc2.2.1 (by omega)]; omega
theorem xX_nest {S : List Int} {E : List (Int × Int)} {wt it nu : Int → Int} {w c nested parens items x : Int} (hw : wfS S) (hx : 10 ≤ x ∧ x ≤ 11) (hr : rep S wt w) (hc : repC id E it nu c) (hn : nested = cNs S + 1) (hp : parens = cPa S + (x - 10)) (hi : items = (E.length : Int) + cSg S + (11 - x)) (hi4 : items ≤ 40) (hn8 : nested ≤ 8) : xX 0 (x :: S) E (u1 wt w x) (w + 1) it nu c nested parens items := by
  have hc2 := cnt_tail (S := x :: S) (by simp)
  simp only [hdS, List.tail_cons] at hc2
  refine ⟨⟨hw, by omega, fun h => by omega⟩, fun h => absurd h (by decide), rep_push hr, hc, ?_, ?_, ?_, hi4, hn8⟩
  · rw [hc2.2.2.1 (by omega)]; exact hn
  · by_cases e : x = 11
    · rw [hc2.2.2.2.2.1 e]; omega
    · rw [hc2.2.2.2.2.2 e]; omega
  · by_cases e : x = 11
    · rw [hc2.1 e]; omega
    · rw [hc2.2.1 e]; omega
/-- behind the negations, and behind a paren -/
theorem xX_whole {S : List Int} {E : List (Int × Int)} {wt it nu : Int → Int} {w c nested parens items : Int} (hw : wfS S) (hr : rep (rlN S E).1 wt w) (hc : repC id (rlN S E).2 it nu c) (hn : nested = cNs (rlN S E).1) (hp : parens = cPa S) (hi : items = (E.length : Int) + cSg S) (hi4 : items ≤ 40) (hn8 : cNs S ≤ 8) : xX 1 (rlN S E).1 (rlN S E).2 wt w it nu c nested parens items := by
  obtain ⟨i1, i2, i3, i4, i5⟩ := rlN_ok S E hw
  exact ⟨i1, fun _ => i2, hr, hc, hn, by omega, by omega, hi4, by omega⟩
theorem clo_hd {S : List Int} {E : List (Int × Int)} (hw : wfS S) (hd : hdS S ≠ 10) (hp : 0 < cPa S) : (rlS 7 S E).1 ≠ [] ∧ hdS (rlS 7 S E).1 = 11 := by
  obtain ⟨i1, i2, i3, i4, i5, i6, i7⟩ := rlS_ok 7 S E hw hd
  have hne : (rlS 7 S E).1 ≠ [] := fun h => by rw [h] at i4; simp only [cPa] at i4; omega
  rcases i6 (by decide) with h | h
  · exact absurd h hne
  · exact ⟨hne, h⟩
theorem id_x (x : Int) : (id x : Int) = x := rfl
end

section
theorem dG_dX1_read_0 : (decode cX1_read 0 = .ok (.aload_n 2, 1)) ∧ (decode cX1_read 1 = .ok (.iconst 0, 1)) ∧ (decode cX1_read 2 = .ok (.putfield 15, 3)) ∧ (decode cX1_read 5 = .ok (.aload_n 0, 1)) ∧ (decode cX1_read 6 = .ok (.iconst 0, 1)) ∧ (decode cX1_read 7 = .ok (.putfield 21, 3)) ∧ (decode cX1_read 10 = .ok (.aload_n 0, 1)) ∧ (decode cX1_read 11 = .ok (.iconst 0, 1)) ∧ (decode cX1_read 12 = .ok (.putfield 24, 3)) ∧ (decode cX1_read 15 = .ok (.aload_n 0, 1)) ∧ (decode cX1_read 16 = .ok (.iconst 0, 1)) ∧ (decode cX1_read 17 = .ok (.putfield 27, 3)) := by decide +kernel
theorem dX1_read_0 : decode cX1_read 0 = .ok (.aload_n 2, 1) := dG_dX1_read_0.1
theorem dX1_read_1 : decode cX1_read 1 = .ok (.iconst 0, 1) := dG_dX1_read_0.2.1
theorem dX1_read_2 : decode cX1_read 2 = .ok (.putfield 15, 3) := dG_dX1_read_0.2.2.1
theorem dX1_read_5 : decode cX1_read 5 = .ok (.aload_n 0, 1) := dG_dX1_read_0.2.2.2.1
theorem dX1_read_6 : decode cX1_read 6 = .ok (.iconst 0, 1) := dG_dX1_read_0.2.2.2.2.1
theorem dX1_read_7 : decode cX1_read 7 = .ok (.putfield 21, 3) := dG_dX1_read_0.2.2.2.2.2.1
theorem dX1_read_10 : decode cX1_read 10 = .ok (.aload_n 0, 1) := dG_dX1_read_0.2.2.2.2.2.2.1
theorem dX1_read_11 : decode cX1_read 11 = .ok (.iconst 0, 1) := dG_dX1_read_0.2.2.2.2.2.2.2.1
theorem dX1_read_12 : decode cX1_read 12 = .ok (.putfield 24, 3) := dG_dX1_read_0.2.2.2.2.2.2.2.2.1
theorem dX1_read_15 : decode cX1_read 15 = .ok (.aload_n 0, 1) := dG_dX1_read_0.2.2.2.2.2.2.2.2.2.1
theorem dX1_read_16 : decode cX1_read 16 = .ok (.iconst 0, 1) := dG_dX1_read_0.2.2.2.2.2.2.2.2.2.2.1
theorem dX1_read_17 : decode cX1_read 17 = .ok (.putfield 27, 3) := dG_dX1_read_0.2.2.2.2.2.2.2.2.2.2.2
theorem dG_dX1_read_20 : (decode cX1_read 20 = .ok (.aload_n 0, 1)) ∧ (decode cX1_read 21 = .ok (.iconst 0, 1)) ∧ (decode cX1_read 22 = .ok (.putfield 30, 3)) ∧ (decode cX1_read 25 = .ok (.aload_n 0, 1)) ∧ (decode cX1_read 26 = .ok (.iconst 0, 1)) ∧ (decode cX1_read 27 = .ok (.putfield 31, 3)) ∧ (decode cX1_read 30 = .ok (.iconst 0, 1)) ∧ (decode cX1_read 31 = .ok (.istore_n 3, 1)) ∧ (decode cX1_read 32 = .ok (.iconst 0, 1)) ∧ (decode cX1_read 33 = .ok (.istore 4, 2)) ∧ (decode cX1_read 35 = .ok (.iload 4, 2)) ∧ (decode cX1_read 37 = .ok (.sipush 700, 3)) := by decide +kernel
theorem dX1_read_20 : decode cX1_read 20 = .ok (.aload_n 0, 1) := dG_dX1_read_20.1
theorem dX1_read_21 : decode cX1_read 21 = .ok (.iconst 0, 1) := dG_dX1_read_20.2.1
theorem dX1_read_22 : decode cX1_read 22 = .ok (.putfield 30, 3) := dG_dX1_read_20.2.2.1
theorem dX1_read_25 : decode cX1_read 25 = .ok (.aload_n 0, 1) := dG_dX1_read_20.2.2.2.1
theorem dX1_read_26 : decode cX1_read 26 = .ok (.iconst 0, 1) := dG_dX1_read_20.2.2.2.2.1
theorem dX1_read_27 : decode cX1_read 27 = .ok (.putfield 31, 3) := dG_dX1_read_20.2.2.2.2.2.1
theorem dX1_read_30 : decode cX1_read 30 = .ok (.iconst 0, 1) := dG_dX1_read_20.2.2.2.2.2.2.1
theorem dX1_read_31 : decode cX1_read 31 = .ok (.istore_n 3, 1) := dG_dX1_read_20.2.2.2.2.2.2.2.1
theorem dX1_read_32 : decode cX1_read 32 = .ok (.iconst 0, 1) := dG_dX1_read_20.2.2.2.2.2.2.2.2.1
theorem dX1_read_33 : decode cX1_read 33 = .ok (.istore 4, 2) := dG_dX1_read_20.2.2.2.2.2.2.2.2.2.1
theorem dX1_read_35 : decode cX1_read 35 = .ok (.iload 4, 2) := dG_dX1_read_20.2.2.2.2.2.2.2.2.2.2.1
theorem dX1_read_37 : decode cX1_read 37 = .ok (.sipush 700, 3) := dG_dX1_read_20.2.2.2.2.2.2.2.2.2.2.2
theorem dG_dX1_read_40 : (decode cX1_read 40 = .ok (.if_icmp .gt 79, 3)) ∧ (decode cX1_read 43 = .ok (.aload_n 0, 1)) ∧ (decode cX1_read 44 = .ok (.getfield 31, 3)) ∧ (decode cX1_read 47 = .ok (.ifCond .ne 72, 3)) ∧ (decode cX1_read 50 = .ok (.iload_n 3, 1)) ∧ (decode cX1_read 51 = .ok (.ifCond .eq 28, 3)) ∧ (decode cX1_read 54 = .ok (.aload_n 1, 1)) ∧ (decode cX1_read 55 = .ok (.invokevirtual 34, 3)) ∧ (decode cX1_read 58 = .ok (.bipush 59, 2)) ∧ (decode cX1_read 60 = .ok (.if_icmp .ne 19, 3)) ∧ (decode cX1_read 63 = .ok (.aload_n 0, 1)) ∧ (decode cX1_read 64 = .ok (.getfield 27, 3)) := by decide +kernel
theorem dX1_read_40 : decode cX1_read 40 = .ok (.if_icmp .gt 79, 3) := dG_dX1_read_40.1
theorem dX1_read_43 : decode cX1_read 43 = .ok (.aload_n 0, 1) := dG_dX1_read_40.2.1
theorem dX1_read_44 : decode cX1_read 44 = .ok (.getfield 31, 3) := dG_dX1_read_40.2.2.1
theorem dX1_read_47 : decode cX1_read 47 = .ok (.ifCond .ne 72, 3) := dG_dX1_read_40.2.2.2.1
theorem dX1_read_50 : decode cX1_read 50 = .ok (.iload_n 3, 1) := dG_dX1_read_40.2.2.2.2.1
theorem dX1_read_51 : decode cX1_read 51 = .ok (.ifCond .eq 28, 3) := dG_dX1_read_40.2.2.2.2.2.1
theorem dX1_read_54 : decode cX1_read 54 = .ok (.aload_n 1, 1) := dG_dX1_read_40.2.2.2.2.2.2.1
theorem dX1_read_55 : decode cX1_read 55 = .ok (.invokevirtual 34, 3) := dG_dX1_read_40.2.2.2.2.2.2.2.1
theorem dX1_read_58 : decode cX1_read 58 = .ok (.bipush 59, 2) := dG_dX1_read_40.2.2.2.2.2.2.2.2.1
theorem dX1_read_60 : decode cX1_read 60 = .ok (.if_icmp .ne 19, 3) := dG_dX1_read_40.2.2.2.2.2.2.2.2.2.1
theorem dX1_read_63 : decode cX1_read 63 = .ok (.aload_n 0, 1) := dG_dX1_read_40.2.2.2.2.2.2.2.2.2.2.1
theorem dX1_read_64 : decode cX1_read 64 = .ok (.getfield 27, 3) := dG_dX1_read_40.2.2.2.2.2.2.2.2.2.2.2
theorem dG_dX1_read_67 : (decode cX1_read 67 = .ok (.ifCond .ne 12, 3)) ∧ (decode cX1_read 70 = .ok (.aload_n 0, 1)) ∧ (decode cX1_read 71 = .ok (.bipush 7, 2)) ∧ (decode cX1_read 73 = .ok (.aload_n 2, 1)) ∧ (decode cX1_read 74 = .ok (.invokevirtual 40, 3)) ∧ (decode cX1_read 77 = .ok (.iconst 0, 1)) ∧ (decode cX1_read 78 = .ok (.ireturn, 1)) ∧ (decode cX1_read 79 = .ok (.iload_n 3, 1)) ∧ (decode cX1_read 80 = .ok (.ifCond .eq 15, 3)) ∧ (decode cX1_read 83 = .ok (.aload_n 0, 1)) ∧ (decode cX1_read 84 = .ok (.aload_n 1, 1)) ∧ (decode cX1_read 85 = .ok (.invokevirtual 34, 3)) := by decide +kernel
theorem dX1_read_67 : decode cX1_read 67 = .ok (.ifCond .ne 12, 3) := dG_dX1_read_67.1
theorem dX1_read_70 : decode cX1_read 70 = .ok (.aload_n 0, 1) := dG_dX1_read_67.2.1
theorem dX1_read_71 : decode cX1_read 71 = .ok (.bipush 7, 2) := dG_dX1_read_67.2.2.1
theorem dX1_read_73 : decode cX1_read 73 = .ok (.aload_n 2, 1) := dG_dX1_read_67.2.2.2.1
theorem dX1_read_74 : decode cX1_read 74 = .ok (.invokevirtual 40, 3) := dG_dX1_read_67.2.2.2.2.1
theorem dX1_read_77 : decode cX1_read 77 = .ok (.iconst 0, 1) := dG_dX1_read_67.2.2.2.2.2.1
theorem dX1_read_78 : decode cX1_read 78 = .ok (.ireturn, 1) := dG_dX1_read_67.2.2.2.2.2.2.1
theorem dX1_read_79 : decode cX1_read 79 = .ok (.iload_n 3, 1) := dG_dX1_read_67.2.2.2.2.2.2.2.1
theorem dX1_read_80 : decode cX1_read 80 = .ok (.ifCond .eq 15, 3) := dG_dX1_read_67.2.2.2.2.2.2.2.2.1
theorem dX1_read_83 : decode cX1_read 83 = .ok (.aload_n 0, 1) := dG_dX1_read_67.2.2.2.2.2.2.2.2.2.1
theorem dX1_read_84 : decode cX1_read 84 = .ok (.aload_n 1, 1) := dG_dX1_read_67.2.2.2.2.2.2.2.2.2.2.1
theorem dX1_read_85 : decode cX1_read 85 = .ok (.invokevirtual 34, 3) := dG_dX1_read_67.2.2.2.2.2.2.2.2.2.2.2
theorem dG_dX1_read_88 : (decode cX1_read 88 = .ok (.aload_n 2, 1)) ∧ (decode cX1_read 89 = .ok (.invokevirtual 44, 3)) ∧ (decode cX1_read 92 = .ok (.goto 9, 3)) ∧ (decode cX1_read 95 = .ok (.aload_n 0, 1)) ∧ (decode cX1_read 96 = .ok (.aload_n 1, 1)) ∧ (decode cX1_read 97 = .ok (.aload_n 2, 1)) ∧ (decode cX1_read 98 = .ok (.invokevirtual 48, 3)) ∧ (decode cX1_read 101 = .ok (.istore_n 3, 1)) ∧ (decode cX1_read 102 = .ok (.aload_n 0, 1)) ∧ (decode cX1_read 103 = .ok (.getfield 31, 3)) ∧ (decode cX1_read 106 = .ok (.ifCond .ne 7, 3)) ∧ (decode cX1_read 109 = .ok (.aload_n 1, 1)) := by decide +kernel
theorem dX1_read_88 : decode cX1_read 88 = .ok (.aload_n 2, 1) := dG_dX1_read_88.1
theorem dX1_read_89 : decode cX1_read 89 = .ok (.invokevirtual 44, 3) := dG_dX1_read_88.2.1
theorem dX1_read_92 : decode cX1_read 92 = .ok (.goto 9, 3) := dG_dX1_read_88.2.2.1
theorem dX1_read_95 : decode cX1_read 95 = .ok (.aload_n 0, 1) := dG_dX1_read_88.2.2.2.1
theorem dX1_read_96 : decode cX1_read 96 = .ok (.aload_n 1, 1) := dG_dX1_read_88.2.2.2.2.1
theorem dX1_read_97 : decode cX1_read 97 = .ok (.aload_n 2, 1) := dG_dX1_read_88.2.2.2.2.2.1
theorem dX1_read_98 : decode cX1_read 98 = .ok (.invokevirtual 48, 3) := dG_dX1_read_88.2.2.2.2.2.2.1
theorem dX1_read_101 : decode cX1_read 101 = .ok (.istore_n 3, 1) := dG_dX1_read_88.2.2.2.2.2.2.2.1
theorem dX1_read_102 : decode cX1_read 102 = .ok (.aload_n 0, 1) := dG_dX1_read_88.2.2.2.2.2.2.2.2.1
theorem dX1_read_103 : decode cX1_read 103 = .ok (.getfield 31, 3) := dG_dX1_read_88.2.2.2.2.2.2.2.2.2.1
theorem dX1_read_106 : decode cX1_read 106 = .ok (.ifCond .ne 7, 3) := dG_dX1_read_88.2.2.2.2.2.2.2.2.2.2.1
theorem dX1_read_109 : decode cX1_read 109 = .ok (.aload_n 1, 1) := dG_dX1_read_88.2.2.2.2.2.2.2.2.2.2.2
theorem dG_dX1_read_110 : (decode cX1_read 110 = .ok (.invokevirtual 52, 3)) ∧ (decode cX1_read 113 = .ok (.iinc 4 1, 3)) ∧ (decode cX1_read 116 = .ok (.goto (-81), 3)) ∧ (decode cX1_read 119 = .ok (.aload_n 0, 1)) ∧ (decode cX1_read 120 = .ok (.getfield 31, 3)) ∧ (decode cX1_read 123 = .ok (.ireturn, 1)) ∧ (decode cX1_readFactor 0 = .ok (.aload_n 1, 1)) ∧ (decode cX1_readFactor 1 = .ok (.invokevirtual 34, 3)) ∧ (decode cX1_readFactor 4 = .ok (.istore_n 3, 1)) ∧ (decode cX1_readFactor 5 = .ok (.iload_n 3, 1)) ∧ (decode cX1_readFactor 6 = .ok (.sipush 272, 3)) ∧ (decode cX1_readFactor 9 = .ok (.isub, 1)) := by decide +kernel
theorem dX1_read_110 : decode cX1_read 110 = .ok (.invokevirtual 52, 3) := dG_dX1_read_110.1
theorem dX1_read_113 : decode cX1_read 113 = .ok (.iinc 4 1, 3) := dG_dX1_read_110.2.1
theorem dX1_read_116 : decode cX1_read 116 = .ok (.goto (-81), 3) := dG_dX1_read_110.2.2.1
theorem dX1_read_119 : decode cX1_read 119 = .ok (.aload_n 0, 1) := dG_dX1_read_110.2.2.2.1
theorem dX1_read_120 : decode cX1_read 120 = .ok (.getfield 31, 3) := dG_dX1_read_110.2.2.2.2.1
theorem dX1_read_123 : decode cX1_read 123 = .ok (.ireturn, 1) := dG_dX1_read_110.2.2.2.2.2.1
theorem dX1_readFactor_0 : decode cX1_readFactor 0 = .ok (.aload_n 1, 1) := dG_dX1_read_110.2.2.2.2.2.2.1
theorem dX1_readFactor_1 : decode cX1_readFactor 1 = .ok (.invokevirtual 34, 3) := dG_dX1_read_110.2.2.2.2.2.2.2.1
theorem dX1_readFactor_4 : decode cX1_readFactor 4 = .ok (.istore_n 3, 1) := dG_dX1_read_110.2.2.2.2.2.2.2.2.1
theorem dX1_readFactor_5 : decode cX1_readFactor 5 = .ok (.iload_n 3, 1) := dG_dX1_read_110.2.2.2.2.2.2.2.2.2.1
theorem dX1_readFactor_6 : decode cX1_readFactor 6 = .ok (.sipush 272, 3) := dG_dX1_read_110.2.2.2.2.2.2.2.2.2.2.1
theorem dX1_readFactor_9 : decode cX1_readFactor 9 = .ok (.isub, 1) := dG_dX1_read_110.2.2.2.2.2.2.2.2.2.2.2
theorem dG_dX1_readFactor_10 : (decode cX1_readFactor 10 = .ok (.istore 4, 2)) ∧ (decode cX1_readFactor 12 = .ok (.iload_n 3, 1)) ∧ (decode cX1_readFactor 13 = .ok (.sipush 258, 3)) ∧ (decode cX1_readFactor 16 = .ok (.if_icmp .eq 15, 3)) ∧ (decode cX1_readFactor 19 = .ok (.iload 4, 2)) ∧ (decode cX1_readFactor 21 = .ok (.ifCond .lt 43, 3)) ∧ (decode cX1_readFactor 24 = .ok (.iload 4, 2)) ∧ (decode cX1_readFactor 26 = .ok (.bipush 6, 2)) ∧ (decode cX1_readFactor 28 = .ok (.if_icmp .ge 36, 3)) ∧ (decode cX1_readFactor 31 = .ok (.aload_n 0, 1)) ∧ (decode cX1_readFactor 32 = .ok (.invokevirtual 55, 3)) ∧ (decode cX1_readFactor 35 = .ok (.aload_n 2, 1)) := by decide +kernel
theorem dX1_readFactor_10 : decode cX1_readFactor 10 = .ok (.istore 4, 2) := dG_dX1_readFactor_10.1
theorem dX1_readFactor_12 : decode cX1_readFactor 12 = .ok (.iload_n 3, 1) := dG_dX1_readFactor_10.2.1
theorem dX1_readFactor_13 : decode cX1_readFactor 13 = .ok (.sipush 258, 3) := dG_dX1_readFactor_10.2.2.1
theorem dX1_readFactor_16 : decode cX1_readFactor 16 = .ok (.if_icmp .eq 15, 3) := dG_dX1_readFactor_10.2.2.2.1
theorem dX1_readFactor_19 : decode cX1_readFactor 19 = .ok (.iload 4, 2) := dG_dX1_readFactor_10.2.2.2.2.1
theorem dX1_readFactor_21 : decode cX1_readFactor 21 = .ok (.ifCond .lt 43, 3) := dG_dX1_readFactor_10.2.2.2.2.2.1
theorem dX1_readFactor_24 : decode cX1_readFactor 24 = .ok (.iload 4, 2) := dG_dX1_readFactor_10.2.2.2.2.2.2.1
theorem dX1_readFactor_26 : decode cX1_readFactor 26 = .ok (.bipush 6, 2) := dG_dX1_readFactor_10.2.2.2.2.2.2.2.1
theorem dX1_readFactor_28 : decode cX1_readFactor 28 = .ok (.if_icmp .ge 36, 3) := dG_dX1_readFactor_10.2.2.2.2.2.2.2.2.1
theorem dX1_readFactor_31 : decode cX1_readFactor 31 = .ok (.aload_n 0, 1) := dG_dX1_readFactor_10.2.2.2.2.2.2.2.2.2.1
theorem dX1_readFactor_32 : decode cX1_readFactor 32 = .ok (.invokevirtual 55, 3) := dG_dX1_readFactor_10.2.2.2.2.2.2.2.2.2.2.1
theorem dX1_readFactor_35 : decode cX1_readFactor 35 = .ok (.aload_n 2, 1) := dG_dX1_readFactor_10.2.2.2.2.2.2.2.2.2.2.2
theorem dG_dX1_readFactor_36 : (decode cX1_readFactor 36 = .ok (.iload_n 3, 1)) ∧ (decode cX1_readFactor 37 = .ok (.sipush 258, 3)) ∧ (decode cX1_readFactor 40 = .ok (.if_icmp .ne 8, 3)) ∧ (decode cX1_readFactor 43 = .ok (.bipush 6, 2)) ∧ (decode cX1_readFactor 45 = .ok (.goto 5, 3)) ∧ (decode cX1_readFactor 48 = .ok (.iload 4, 2)) ∧ (decode cX1_readFactor 50 = .ok (.aload_n 1, 1)) ∧ (decode cX1_readFactor 51 = .ok (.invokevirtual 58, 3)) ∧ (decode cX1_readFactor 54 = .ok (.invokevirtual 61, 3)) ∧ (decode cX1_readFactor 57 = .ok (.aload_n 0, 1)) ∧ (decode cX1_readFactor 58 = .ok (.aload_n 2, 1)) ∧ (decode cX1_readFactor 59 = .ok (.invokevirtual 65, 3)) := by decide +kernel
theorem dX1_readFactor_36 : decode cX1_readFactor 36 = .ok (.iload_n 3, 1) := dG_dX1_readFactor_36.1
theorem dX1_readFactor_37 : decode cX1_readFactor 37 = .ok (.sipush 258, 3) := dG_dX1_readFactor_36.2.1
theorem dX1_readFactor_40 : decode cX1_readFactor 40 = .ok (.if_icmp .ne 8, 3) := dG_dX1_readFactor_36.2.2.1
theorem dX1_readFactor_43 : decode cX1_readFactor 43 = .ok (.bipush 6, 2) := dG_dX1_readFactor_36.2.2.2.1
theorem dX1_readFactor_45 : decode cX1_readFactor 45 = .ok (.goto 5, 3) := dG_dX1_readFactor_36.2.2.2.2.1
theorem dX1_readFactor_48 : decode cX1_readFactor 48 = .ok (.iload 4, 2) := dG_dX1_readFactor_36.2.2.2.2.2.1
theorem dX1_readFactor_50 : decode cX1_readFactor 50 = .ok (.aload_n 1, 1) := dG_dX1_readFactor_36.2.2.2.2.2.2.1
theorem dX1_readFactor_51 : decode cX1_readFactor 51 = .ok (.invokevirtual 58, 3) := dG_dX1_readFactor_36.2.2.2.2.2.2.2.1
theorem dX1_readFactor_54 : decode cX1_readFactor 54 = .ok (.invokevirtual 61, 3) := dG_dX1_readFactor_36.2.2.2.2.2.2.2.2.1
theorem dX1_readFactor_57 : decode cX1_readFactor 57 = .ok (.aload_n 0, 1) := dG_dX1_readFactor_36.2.2.2.2.2.2.2.2.2.1
theorem dX1_readFactor_58 : decode cX1_readFactor 58 = .ok (.aload_n 2, 1) := dG_dX1_readFactor_36.2.2.2.2.2.2.2.2.2.2.1
theorem dX1_readFactor_59 : decode cX1_readFactor 59 = .ok (.invokevirtual 65, 3) := dG_dX1_readFactor_36.2.2.2.2.2.2.2.2.2.2.2
theorem dG_dX1_readFactor_62 : (decode cX1_readFactor 62 = .ok (.iconst 1, 1)) ∧ (decode cX1_readFactor 63 = .ok (.ireturn, 1)) ∧ (decode cX1_readFactor 64 = .ok (.iload_n 3, 1)) ∧ (decode cX1_readFactor 65 = .ok (.bipush 40, 2)) ∧ (decode cX1_readFactor 67 = .ok (.if_icmp .ne 22, 3)) ∧ (decode cX1_readFactor 70 = .ok (.aload_n 0, 1)) ∧ (decode cX1_readFactor 71 = .ok (.bipush 11, 2)) ∧ (decode cX1_readFactor 73 = .ok (.invokevirtual 69, 3)) ∧ (decode cX1_readFactor 76 = .ok (.aload_n 0, 1)) ∧ (decode cX1_readFactor 77 = .ok (.dup, 1)) ∧ (decode cX1_readFactor 78 = .ok (.getfield 27, 3)) ∧ (decode cX1_readFactor 81 = .ok (.iconst 1, 1)) := by decide +kernel
theorem dX1_readFactor_62 : decode cX1_readFactor 62 = .ok (.iconst 1, 1) := dG_dX1_readFactor_62.1
theorem dX1_readFactor_63 : decode cX1_readFactor 63 = .ok (.ireturn, 1) := dG_dX1_readFactor_62.2.1
theorem dX1_readFactor_64 : decode cX1_readFactor 64 = .ok (.iload_n 3, 1) := dG_dX1_readFactor_62.2.2.1
theorem dX1_readFactor_65 : decode cX1_readFactor 65 = .ok (.bipush 40, 2) := dG_dX1_readFactor_62.2.2.2.1
theorem dX1_readFactor_67 : decode cX1_readFactor 67 = .ok (.if_icmp .ne 22, 3) := dG_dX1_readFactor_62.2.2.2.2.1
theorem dX1_readFactor_70 : decode cX1_readFactor 70 = .ok (.aload_n 0, 1) := dG_dX1_readFactor_62.2.2.2.2.2.1
theorem dX1_readFactor_71 : decode cX1_readFactor 71 = .ok (.bipush 11, 2) := dG_dX1_readFactor_62.2.2.2.2.2.2.1
theorem dX1_readFactor_73 : decode cX1_readFactor 73 = .ok (.invokevirtual 69, 3) := dG_dX1_readFactor_62.2.2.2.2.2.2.2.1
theorem dX1_readFactor_76 : decode cX1_readFactor 76 = .ok (.aload_n 0, 1) := dG_dX1_readFactor_62.2.2.2.2.2.2.2.2.1
theorem dX1_readFactor_77 : decode cX1_readFactor 77 = .ok (.dup, 1) := dG_dX1_readFactor_62.2.2.2.2.2.2.2.2.2.1
theorem dX1_readFactor_78 : decode cX1_readFactor 78 = .ok (.getfield 27, 3) := dG_dX1_readFactor_62.2.2.2.2.2.2.2.2.2.2.1
theorem dX1_readFactor_81 : decode cX1_readFactor 81 = .ok (.iconst 1, 1) := dG_dX1_readFactor_62.2.2.2.2.2.2.2.2.2.2.2
theorem dG_dX1_readFactor_82 : (decode cX1_readFactor 82 = .ok (.iadd, 1)) ∧ (decode cX1_readFactor 83 = .ok (.putfield 27, 3)) ∧ (decode cX1_readFactor 86 = .ok (.goto 27, 3)) ∧ (decode cX1_readFactor 89 = .ok (.iload_n 3, 1)) ∧ (decode cX1_readFactor 90 = .ok (.bipush 45, 2)) ∧ (decode cX1_readFactor 92 = .ok (.if_icmp .ne 16, 3)) ∧ (decode cX1_readFactor 95 = .ok (.aload_n 0, 1)) ∧ (decode cX1_readFactor 96 = .ok (.invokevirtual 55, 3)) ∧ (decode cX1_readFactor 99 = .ok (.aload_n 0, 1)) ∧ (decode cX1_readFactor 100 = .ok (.bipush 10, 2)) ∧ (decode cX1_readFactor 102 = .ok (.invokevirtual 69, 3)) ∧ (decode cX1_readFactor 105 = .ok (.goto 8, 3)) := by decide +kernel
theorem dX1_readFactor_82 : decode cX1_readFactor 82 = .ok (.iadd, 1) := dG_dX1_readFactor_82.1
theorem dX1_readFactor_83 : decode cX1_readFactor 83 = .ok (.putfield 27, 3) := dG_dX1_readFactor_82.2.1
theorem dX1_readFactor_86 : decode cX1_readFactor 86 = .ok (.goto 27, 3) := dG_dX1_readFactor_82.2.2.1
theorem dX1_readFactor_89 : decode cX1_readFactor 89 = .ok (.iload_n 3, 1) := dG_dX1_readFactor_82.2.2.2.1
theorem dX1_readFactor_90 : decode cX1_readFactor 90 = .ok (.bipush 45, 2) := dG_dX1_readFactor_82.2.2.2.2.1
theorem dX1_readFactor_92 : decode cX1_readFactor 92 = .ok (.if_icmp .ne 16, 3) := dG_dX1_readFactor_82.2.2.2.2.2.1
theorem dX1_readFactor_95 : decode cX1_readFactor 95 = .ok (.aload_n 0, 1) := dG_dX1_readFactor_82.2.2.2.2.2.2.1
theorem dX1_readFactor_96 : decode cX1_readFactor 96 = .ok (.invokevirtual 55, 3) := dG_dX1_readFactor_82.2.2.2.2.2.2.2.1
theorem dX1_readFactor_99 : decode cX1_readFactor 99 = .ok (.aload_n 0, 1) := dG_dX1_readFactor_82.2.2.2.2.2.2.2.2.1
theorem dX1_readFactor_100 : decode cX1_readFactor 100 = .ok (.bipush 10, 2) := dG_dX1_readFactor_82.2.2.2.2.2.2.2.2.2.1
theorem dX1_readFactor_102 : decode cX1_readFactor 102 = .ok (.invokevirtual 69, 3) := dG_dX1_readFactor_82.2.2.2.2.2.2.2.2.2.2.1
theorem dX1_readFactor_105 : decode cX1_readFactor 105 = .ok (.goto 8, 3) := dG_dX1_readFactor_82.2.2.2.2.2.2.2.2.2.2.2
theorem dG_dX1_readFactor_108 : (decode cX1_readFactor 108 = .ok (.aload_n 0, 1)) ∧ (decode cX1_readFactor 109 = .ok (.iload_n 3, 1)) ∧ (decode cX1_readFactor 110 = .ok (.invokevirtual 73, 3)) ∧ (decode cX1_readFactor 113 = .ok (.iconst 0, 1)) ∧ (decode cX1_readFactor 114 = .ok (.ireturn, 1)) ∧ (decode cX1_readBehindFactor 0 = .ok (.iload_n 1, 1)) ∧ (decode cX1_readBehindFactor 1 = .ok (.tableswitch 69 41 45 #[62, 53, 35, 69, 44], 35)) ∧ (decode cX1_readBehindFactor 36 = .ok (.aload_n 0, 1)) ∧ (decode cX1_readBehindFactor 37 = .ok (.bipush 7, 2)) ∧ (decode cX1_readBehindFactor 39 = .ok (.aload_n 2, 1)) ∧ (decode cX1_readBehindFactor 40 = .ok (.invokevirtual 76, 3)) ∧ (decode cX1_readBehindFactor 43 = .ok (.iconst 0, 1)) := by decide +kernel
theorem dX1_readFactor_108 : decode cX1_readFactor 108 = .ok (.aload_n 0, 1) := dG_dX1_readFactor_108.1
theorem dX1_readFactor_109 : decode cX1_readFactor 109 = .ok (.iload_n 3, 1) := dG_dX1_readFactor_108.2.1
theorem dX1_readFactor_110 : decode cX1_readFactor 110 = .ok (.invokevirtual 73, 3) := dG_dX1_readFactor_108.2.2.1
theorem dX1_readFactor_113 : decode cX1_readFactor 113 = .ok (.iconst 0, 1) := dG_dX1_readFactor_108.2.2.2.1
theorem dX1_readFactor_114 : decode cX1_readFactor 114 = .ok (.ireturn, 1) := dG_dX1_readFactor_108.2.2.2.2.1
theorem dX1_readBehindFactor_0 : decode cX1_readBehindFactor 0 = .ok (.iload_n 1, 1) := dG_dX1_readFactor_108.2.2.2.2.2.1
theorem dX1_readBehindFactor_1 : decode cX1_readBehindFactor 1 = .ok (.tableswitch 69 41 45 #[62, 53, 35, 69, 44], 35) := dG_dX1_readFactor_108.2.2.2.2.2.2.1
theorem dX1_readBehindFactor_36 : decode cX1_readBehindFactor 36 = .ok (.aload_n 0, 1) := dG_dX1_readFactor_108.2.2.2.2.2.2.2.1
theorem dX1_readBehindFactor_37 : decode cX1_readBehindFactor 37 = .ok (.bipush 7, 2) := dG_dX1_readFactor_108.2.2.2.2.2.2.2.2.1
theorem dX1_readBehindFactor_39 : decode cX1_readBehindFactor 39 = .ok (.aload_n 2, 1) := dG_dX1_readFactor_108.2.2.2.2.2.2.2.2.2.1
theorem dX1_readBehindFactor_40 : decode cX1_readBehindFactor 40 = .ok (.invokevirtual 76, 3) := dG_dX1_readFactor_108.2.2.2.2.2.2.2.2.2.2.1
theorem dX1_readBehindFactor_43 : decode cX1_readBehindFactor 43 = .ok (.iconst 0, 1) := dG_dX1_readFactor_108.2.2.2.2.2.2.2.2.2.2.2
theorem dG_dX1_readBehindFactor_44 : (decode cX1_readBehindFactor 44 = .ok (.ireturn, 1)) ∧ (decode cX1_readBehindFactor 45 = .ok (.aload_n 0, 1)) ∧ (decode cX1_readBehindFactor 46 = .ok (.bipush 8, 2)) ∧ (decode cX1_readBehindFactor 48 = .ok (.aload_n 2, 1)) ∧ (decode cX1_readBehindFactor 49 = .ok (.invokevirtual 76, 3)) ∧ (decode cX1_readBehindFactor 52 = .ok (.iconst 0, 1)) ∧ (decode cX1_readBehindFactor 53 = .ok (.ireturn, 1)) ∧ (decode cX1_readBehindFactor 54 = .ok (.aload_n 0, 1)) ∧ (decode cX1_readBehindFactor 55 = .ok (.bipush 9, 2)) ∧ (decode cX1_readBehindFactor 57 = .ok (.aload_n 2, 1)) ∧ (decode cX1_readBehindFactor 58 = .ok (.invokevirtual 76, 3)) ∧ (decode cX1_readBehindFactor 61 = .ok (.iconst 0, 1)) := by decide +kernel
theorem dX1_readBehindFactor_44 : decode cX1_readBehindFactor 44 = .ok (.ireturn, 1) := dG_dX1_readBehindFactor_44.1
theorem dX1_readBehindFactor_45 : decode cX1_readBehindFactor 45 = .ok (.aload_n 0, 1) := dG_dX1_readBehindFactor_44.2.1
theorem dX1_readBehindFactor_46 : decode cX1_readBehindFactor 46 = .ok (.bipush 8, 2) := dG_dX1_readBehindFactor_44.2.2.1
theorem dX1_readBehindFactor_48 : decode cX1_readBehindFactor 48 = .ok (.aload_n 2, 1) := dG_dX1_readBehindFactor_44.2.2.2.1
theorem dX1_readBehindFactor_49 : decode cX1_readBehindFactor 49 = .ok (.invokevirtual 76, 3) := dG_dX1_readBehindFactor_44.2.2.2.2.1
theorem dX1_readBehindFactor_52 : decode cX1_readBehindFactor 52 = .ok (.iconst 0, 1) := dG_dX1_readBehindFactor_44.2.2.2.2.2.1
theorem dX1_readBehindFactor_53 : decode cX1_readBehindFactor 53 = .ok (.ireturn, 1) := dG_dX1_readBehindFactor_44.2.2.2.2.2.2.1
theorem dX1_readBehindFactor_54 : decode cX1_readBehindFactor 54 = .ok (.aload_n 0, 1) := dG_dX1_readBehindFactor_44.2.2.2.2.2.2.2.1
theorem dX1_readBehindFactor_55 : decode cX1_readBehindFactor 55 = .ok (.bipush 9, 2) := dG_dX1_readBehindFactor_44.2.2.2.2.2.2.2.2.1
theorem dX1_readBehindFactor_57 : decode cX1_readBehindFactor 57 = .ok (.aload_n 2, 1) := dG_dX1_readBehindFactor_44.2.2.2.2.2.2.2.2.2.1
theorem dX1_readBehindFactor_58 : decode cX1_readBehindFactor 58 = .ok (.invokevirtual 76, 3) := dG_dX1_readBehindFactor_44.2.2.2.2.2.2.2.2.2.2.1
theorem dX1_readBehindFactor_61 : decode cX1_readBehindFactor 61 = .ok (.iconst 0, 1) := dG_dX1_readBehindFactor_44.2.2.2.2.2.2.2.2.2.2.2
theorem dG_dX1_readBehindFactor_62 : (decode cX1_readBehindFactor 62 = .ok (.ireturn, 1)) ∧ (decode cX1_readBehindFactor 63 = .ok (.aload_n 0, 1)) ∧ (decode cX1_readBehindFactor 64 = .ok (.aload_n 2, 1)) ∧ (decode cX1_readBehindFactor 65 = .ok (.invokevirtual 79, 3)) ∧ (decode cX1_readBehindFactor 68 = .ok (.iconst 1, 1)) ∧ (decode cX1_readBehindFactor 69 = .ok (.ireturn, 1)) ∧ (decode cX1_readBehindFactor 70 = .ok (.aload_n 0, 1)) ∧ (decode cX1_readBehindFactor 71 = .ok (.iload_n 1, 1)) ∧ (decode cX1_readBehindFactor 72 = .ok (.invokevirtual 73, 3)) ∧ (decode cX1_readBehindFactor 75 = .ok (.iconst 1, 1)) ∧ (decode cX1_readBehindFactor 76 = .ok (.ireturn, 1)) ∧ (decode cX1_refuseToken 0 = .ok (.aload_n 0, 1)) := by decide +kernel
theorem dX1_readBehindFactor_62 : decode cX1_readBehindFactor 62 = .ok (.ireturn, 1) := dG_dX1_readBehindFactor_62.1
theorem dX1_readBehindFactor_63 : decode cX1_readBehindFactor 63 = .ok (.aload_n 0, 1) := dG_dX1_readBehindFactor_62.2.1
theorem dX1_readBehindFactor_64 : decode cX1_readBehindFactor 64 = .ok (.aload_n 2, 1) := dG_dX1_readBehindFactor_62.2.2.1
theorem dX1_readBehindFactor_65 : decode cX1_readBehindFactor 65 = .ok (.invokevirtual 79, 3) := dG_dX1_readBehindFactor_62.2.2.2.1
theorem dX1_readBehindFactor_68 : decode cX1_readBehindFactor 68 = .ok (.iconst 1, 1) := dG_dX1_readBehindFactor_62.2.2.2.2.1
theorem dX1_readBehindFactor_69 : decode cX1_readBehindFactor 69 = .ok (.ireturn, 1) := dG_dX1_readBehindFactor_62.2.2.2.2.2.1
theorem dX1_readBehindFactor_70 : decode cX1_readBehindFactor 70 = .ok (.aload_n 0, 1) := dG_dX1_readBehindFactor_62.2.2.2.2.2.2.1
theorem dX1_readBehindFactor_71 : decode cX1_readBehindFactor 71 = .ok (.iload_n 1, 1) := dG_dX1_readBehindFactor_62.2.2.2.2.2.2.2.1
theorem dX1_readBehindFactor_72 : decode cX1_readBehindFactor 72 = .ok (.invokevirtual 73, 3) := dG_dX1_readBehindFactor_62.2.2.2.2.2.2.2.2.1
theorem dX1_readBehindFactor_75 : decode cX1_readBehindFactor 75 = .ok (.iconst 1, 1) := dG_dX1_readBehindFactor_62.2.2.2.2.2.2.2.2.2.1
theorem dX1_readBehindFactor_76 : decode cX1_readBehindFactor 76 = .ok (.ireturn, 1) := dG_dX1_readBehindFactor_62.2.2.2.2.2.2.2.2.2.2.1
theorem dX1_refuseToken_0 : decode cX1_refuseToken 0 = .ok (.aload_n 0, 1) := dG_dX1_readBehindFactor_62.2.2.2.2.2.2.2.2.2.2.2
theorem dG_dX1_refuseToken_1 : (decode cX1_refuseToken 1 = .ok (.iload_n 1, 1)) ∧ (decode cX1_refuseToken 2 = .ok (.sipush 257, 3)) ∧ (decode cX1_refuseToken 5 = .ok (.if_icmp .ne 7, 3)) ∧ (decode cX1_refuseToken 8 = .ok (.iconst 1, 1)) ∧ (decode cX1_refuseToken 9 = .ok (.goto 4, 3)) ∧ (decode cX1_refuseToken 12 = .ok (.iconst 2, 1)) ∧ (decode cX1_refuseToken 13 = .ok (.putfield 31, 3)) ∧ (decode cX1_refuseToken 16 = .ok (.return_, 1)) ∧ (decode cX1_countItem 0 = .ok (.aload_n 0, 1)) ∧ (decode cX1_countItem 1 = .ok (.dup, 1)) ∧ (decode cX1_countItem 2 = .ok (.getfield 30, 3)) ∧ (decode cX1_countItem 5 = .ok (.iconst 1, 1)) := by decide +kernel
theorem dX1_refuseToken_1 : decode cX1_refuseToken 1 = .ok (.iload_n 1, 1) := dG_dX1_refuseToken_1.1
theorem dX1_refuseToken_2 : decode cX1_refuseToken 2 = .ok (.sipush 257, 3) := dG_dX1_refuseToken_1.2.1
theorem dX1_refuseToken_5 : decode cX1_refuseToken 5 = .ok (.if_icmp .ne 7, 3) := dG_dX1_refuseToken_1.2.2.1
theorem dX1_refuseToken_8 : decode cX1_refuseToken 8 = .ok (.iconst 1, 1) := dG_dX1_refuseToken_1.2.2.2.1
theorem dX1_refuseToken_9 : decode cX1_refuseToken 9 = .ok (.goto 4, 3) := dG_dX1_refuseToken_1.2.2.2.2.1
theorem dX1_refuseToken_12 : decode cX1_refuseToken 12 = .ok (.iconst 2, 1) := dG_dX1_refuseToken_1.2.2.2.2.2.1
theorem dX1_refuseToken_13 : decode cX1_refuseToken 13 = .ok (.putfield 31, 3) := dG_dX1_refuseToken_1.2.2.2.2.2.2.1
theorem dX1_refuseToken_16 : decode cX1_refuseToken 16 = .ok (.return_, 1) := dG_dX1_refuseToken_1.2.2.2.2.2.2.2.1
theorem dX1_countItem_0 : decode cX1_countItem 0 = .ok (.aload_n 0, 1) := dG_dX1_refuseToken_1.2.2.2.2.2.2.2.2.1
theorem dX1_countItem_1 : decode cX1_countItem 1 = .ok (.dup, 1) := dG_dX1_refuseToken_1.2.2.2.2.2.2.2.2.2.1
theorem dX1_countItem_2 : decode cX1_countItem 2 = .ok (.getfield 30, 3) := dG_dX1_refuseToken_1.2.2.2.2.2.2.2.2.2.2.1
theorem dX1_countItem_5 : decode cX1_countItem 5 = .ok (.iconst 1, 1) := dG_dX1_refuseToken_1.2.2.2.2.2.2.2.2.2.2.2
theorem dG_dX1_countItem_6 : (decode cX1_countItem 6 = .ok (.iadd, 1)) ∧ (decode cX1_countItem 7 = .ok (.putfield 30, 3)) ∧ (decode cX1_countItem 10 = .ok (.aload_n 0, 1)) ∧ (decode cX1_countItem 11 = .ok (.getfield 30, 3)) ∧ (decode cX1_countItem 14 = .ok (.bipush 40, 2)) ∧ (decode cX1_countItem 16 = .ok (.if_icmp .le 8, 3)) ∧ (decode cX1_countItem 19 = .ok (.aload_n 0, 1)) ∧ (decode cX1_countItem 20 = .ok (.iconst 3, 1)) ∧ (decode cX1_countItem 21 = .ok (.putfield 31, 3)) ∧ (decode cX1_countItem 24 = .ok (.return_, 1)) ∧ (decode cX1_nest 0 = .ok (.aload_n 0, 1)) ∧ (decode cX1_nest 1 = .ok (.dup, 1)) := by decide +kernel
theorem dX1_countItem_6 : decode cX1_countItem 6 = .ok (.iadd, 1) := dG_dX1_countItem_6.1
theorem dX1_countItem_7 : decode cX1_countItem 7 = .ok (.putfield 30, 3) := dG_dX1_countItem_6.2.1
theorem dX1_countItem_10 : decode cX1_countItem 10 = .ok (.aload_n 0, 1) := dG_dX1_countItem_6.2.2.1
theorem dX1_countItem_11 : decode cX1_countItem 11 = .ok (.getfield 30, 3) := dG_dX1_countItem_6.2.2.2.1
theorem dX1_countItem_14 : decode cX1_countItem 14 = .ok (.bipush 40, 2) := dG_dX1_countItem_6.2.2.2.2.1
theorem dX1_countItem_16 : decode cX1_countItem 16 = .ok (.if_icmp .le 8, 3) := dG_dX1_countItem_6.2.2.2.2.2.1
theorem dX1_countItem_19 : decode cX1_countItem 19 = .ok (.aload_n 0, 1) := dG_dX1_countItem_6.2.2.2.2.2.2.1
theorem dX1_countItem_20 : decode cX1_countItem 20 = .ok (.iconst 3, 1) := dG_dX1_countItem_6.2.2.2.2.2.2.2.1
theorem dX1_countItem_21 : decode cX1_countItem 21 = .ok (.putfield 31, 3) := dG_dX1_countItem_6.2.2.2.2.2.2.2.2.1
theorem dX1_countItem_24 : decode cX1_countItem 24 = .ok (.return_, 1) := dG_dX1_countItem_6.2.2.2.2.2.2.2.2.2.1
theorem dX1_nest_0 : decode cX1_nest 0 = .ok (.aload_n 0, 1) := dG_dX1_countItem_6.2.2.2.2.2.2.2.2.2.2.1
theorem dX1_nest_1 : decode cX1_nest 1 = .ok (.dup, 1) := dG_dX1_countItem_6.2.2.2.2.2.2.2.2.2.2.2
theorem dG_dX1_nest_2 : (decode cX1_nest 2 = .ok (.getfield 24, 3)) ∧ (decode cX1_nest 5 = .ok (.iconst 1, 1)) ∧ (decode cX1_nest 6 = .ok (.iadd, 1)) ∧ (decode cX1_nest 7 = .ok (.putfield 24, 3)) ∧ (decode cX1_nest 10 = .ok (.aload_n 0, 1)) ∧ (decode cX1_nest 11 = .ok (.getfield 24, 3)) ∧ (decode cX1_nest 14 = .ok (.bipush 8, 2)) ∧ (decode cX1_nest 16 = .ok (.if_icmp .le 8, 3)) ∧ (decode cX1_nest 19 = .ok (.aload_n 0, 1)) ∧ (decode cX1_nest 20 = .ok (.iconst 3, 1)) ∧ (decode cX1_nest 21 = .ok (.putfield 31, 3)) ∧ (decode cX1_nest 24 = .ok (.aload_n 0, 1)) := by decide +kernel
theorem dX1_nest_2 : decode cX1_nest 2 = .ok (.getfield 24, 3) := dG_dX1_nest_2.1
theorem dX1_nest_5 : decode cX1_nest 5 = .ok (.iconst 1, 1) := dG_dX1_nest_2.2.1
theorem dX1_nest_6 : decode cX1_nest 6 = .ok (.iadd, 1) := dG_dX1_nest_2.2.2.1
theorem dX1_nest_7 : decode cX1_nest 7 = .ok (.putfield 24, 3) := dG_dX1_nest_2.2.2.2.1
theorem dX1_nest_10 : decode cX1_nest 10 = .ok (.aload_n 0, 1) := dG_dX1_nest_2.2.2.2.2.1
theorem dX1_nest_11 : decode cX1_nest 11 = .ok (.getfield 24, 3) := dG_dX1_nest_2.2.2.2.2.2.1
theorem dX1_nest_14 : decode cX1_nest 14 = .ok (.bipush 8, 2) := dG_dX1_nest_2.2.2.2.2.2.2.1
theorem dX1_nest_16 : decode cX1_nest 16 = .ok (.if_icmp .le 8, 3) := dG_dX1_nest_2.2.2.2.2.2.2.2.1
theorem dX1_nest_19 : decode cX1_nest 19 = .ok (.aload_n 0, 1) := dG_dX1_nest_2.2.2.2.2.2.2.2.2.1
theorem dX1_nest_20 : decode cX1_nest 20 = .ok (.iconst 3, 1) := dG_dX1_nest_2.2.2.2.2.2.2.2.2.2.1
theorem dX1_nest_21 : decode cX1_nest 21 = .ok (.putfield 31, 3) := dG_dX1_nest_2.2.2.2.2.2.2.2.2.2.2.1
theorem dX1_nest_24 : decode cX1_nest 24 = .ok (.aload_n 0, 1) := dG_dX1_nest_2.2.2.2.2.2.2.2.2.2.2.2
theorem dG_dX1_nest_25 : (decode cX1_nest 25 = .ok (.iload_n 1, 1)) ∧ (decode cX1_nest 26 = .ok (.invokevirtual 82, 3)) ∧ (decode cX1_nest 29 = .ok (.return_, 1)) ∧ (decode cX1_await 0 = .ok (.aload_n 0, 1)) ∧ (decode cX1_await 1 = .ok (.getfield 21, 3)) ∧ (decode cX1_await 4 = .ok (.aload_n 0, 1)) ∧ (decode cX1_await 5 = .ok (.getfield 9, 3)) ∧ (decode cX1_await 8 = .ok (.arraylength, 1)) ∧ (decode cX1_await 9 = .ok (.if_icmp .ge 23, 3)) ∧ (decode cX1_await 12 = .ok (.aload_n 0, 1)) ∧ (decode cX1_await 13 = .ok (.getfield 9, 3)) ∧ (decode cX1_await 16 = .ok (.aload_n 0, 1)) := by decide +kernel
theorem dX1_nest_25 : decode cX1_nest 25 = .ok (.iload_n 1, 1) := dG_dX1_nest_25.1
theorem dX1_nest_26 : decode cX1_nest 26 = .ok (.invokevirtual 82, 3) := dG_dX1_nest_25.2.1
theorem dX1_nest_29 : decode cX1_nest 29 = .ok (.return_, 1) := dG_dX1_nest_25.2.2.1
theorem dX1_await_0 : decode cX1_await 0 = .ok (.aload_n 0, 1) := dG_dX1_nest_25.2.2.2.1
theorem dX1_await_1 : decode cX1_await 1 = .ok (.getfield 21, 3) := dG_dX1_nest_25.2.2.2.2.1
theorem dX1_await_4 : decode cX1_await 4 = .ok (.aload_n 0, 1) := dG_dX1_nest_25.2.2.2.2.2.1
theorem dX1_await_5 : decode cX1_await 5 = .ok (.getfield 9, 3) := dG_dX1_nest_25.2.2.2.2.2.2.1
theorem dX1_await_8 : decode cX1_await 8 = .ok (.arraylength, 1) := dG_dX1_nest_25.2.2.2.2.2.2.2.1
theorem dX1_await_9 : decode cX1_await 9 = .ok (.if_icmp .ge 23, 3) := dG_dX1_nest_25.2.2.2.2.2.2.2.2.1
theorem dX1_await_12 : decode cX1_await 12 = .ok (.aload_n 0, 1) := dG_dX1_nest_25.2.2.2.2.2.2.2.2.2.1
theorem dX1_await_13 : decode cX1_await 13 = .ok (.getfield 9, 3) := dG_dX1_nest_25.2.2.2.2.2.2.2.2.2.2.1
theorem dX1_await_16 : decode cX1_await 16 = .ok (.aload_n 0, 1) := dG_dX1_nest_25.2.2.2.2.2.2.2.2.2.2.2
theorem dG_dX1_await_17 : (decode cX1_await 17 = .ok (.getfield 21, 3)) ∧ (decode cX1_await 20 = .ok (.iload_n 1, 1)) ∧ (decode cX1_await 21 = .ok (.iastore, 1)) ∧ (decode cX1_await 22 = .ok (.aload_n 0, 1)) ∧ (decode cX1_await 23 = .ok (.dup, 1)) ∧ (decode cX1_await 24 = .ok (.getfield 21, 3)) ∧ (decode cX1_await 27 = .ok (.iconst 1, 1)) ∧ (decode cX1_await 28 = .ok (.iadd, 1)) ∧ (decode cX1_await 29 = .ok (.putfield 21, 3)) ∧ (decode cX1_await 32 = .ok (.return_, 1)) ∧ (decode cX1_putSign 0 = .ok (.aload_n 0, 1)) ∧ (decode cX1_putSign 1 = .ok (.invokevirtual 55, 3)) := by decide +kernel
theorem dX1_await_17 : decode cX1_await 17 = .ok (.getfield 21, 3) := dG_dX1_await_17.1
theorem dX1_await_20 : decode cX1_await 20 = .ok (.iload_n 1, 1) := dG_dX1_await_17.2.1
theorem dX1_await_21 : decode cX1_await 21 = .ok (.iastore, 1) := dG_dX1_await_17.2.2.1
theorem dX1_await_22 : decode cX1_await 22 = .ok (.aload_n 0, 1) := dG_dX1_await_17.2.2.2.1
theorem dX1_await_23 : decode cX1_await 23 = .ok (.dup, 1) := dG_dX1_await_17.2.2.2.2.1
theorem dX1_await_24 : decode cX1_await 24 = .ok (.getfield 21, 3) := dG_dX1_await_17.2.2.2.2.2.1
theorem dX1_await_27 : decode cX1_await 27 = .ok (.iconst 1, 1) := dG_dX1_await_17.2.2.2.2.2.2.1
theorem dX1_await_28 : decode cX1_await 28 = .ok (.iadd, 1) := dG_dX1_await_17.2.2.2.2.2.2.2.1
theorem dX1_await_29 : decode cX1_await 29 = .ok (.putfield 21, 3) := dG_dX1_await_17.2.2.2.2.2.2.2.2.1
theorem dX1_await_32 : decode cX1_await 32 = .ok (.return_, 1) := dG_dX1_await_17.2.2.2.2.2.2.2.2.2.1
theorem dX1_putSign_0 : decode cX1_putSign 0 = .ok (.aload_n 0, 1) := dG_dX1_await_17.2.2.2.2.2.2.2.2.2.2.1
theorem dX1_putSign_1 : decode cX1_putSign 1 = .ok (.invokevirtual 55, 3) := dG_dX1_await_17.2.2.2.2.2.2.2.2.2.2.2
theorem dG_dX1_putSign_4 : (decode cX1_putSign 4 = .ok (.aload_n 0, 1)) ∧ (decode cX1_putSign 5 = .ok (.iload_n 1, 1)) ∧ (decode cX1_putSign 6 = .ok (.aload_n 2, 1)) ∧ (decode cX1_putSign 7 = .ok (.invokevirtual 40, 3)) ∧ (decode cX1_putSign 10 = .ok (.aload_n 0, 1)) ∧ (decode cX1_putSign 11 = .ok (.iload_n 1, 1)) ∧ (decode cX1_putSign 12 = .ok (.invokevirtual 82, 3)) ∧ (decode cX1_putSign 15 = .ok (.return_, 1)) ∧ (decode cX1_closeParen 0 = .ok (.aload_n 0, 1)) ∧ (decode cX1_closeParen 1 = .ok (.getfield 27, 3)) ∧ (decode cX1_closeParen 4 = .ok (.ifCond .ne 10, 3)) ∧ (decode cX1_closeParen 7 = .ok (.aload_n 0, 1)) := by decide +kernel
theorem dX1_putSign_4 : decode cX1_putSign 4 = .ok (.aload_n 0, 1) := dG_dX1_putSign_4.1
theorem dX1_putSign_5 : decode cX1_putSign 5 = .ok (.iload_n 1, 1) := dG_dX1_putSign_4.2.1
theorem dX1_putSign_6 : decode cX1_putSign 6 = .ok (.aload_n 2, 1) := dG_dX1_putSign_4.2.2.1
theorem dX1_putSign_7 : decode cX1_putSign 7 = .ok (.invokevirtual 40, 3) := dG_dX1_putSign_4.2.2.2.1
theorem dX1_putSign_10 : decode cX1_putSign 10 = .ok (.aload_n 0, 1) := dG_dX1_putSign_4.2.2.2.2.1
theorem dX1_putSign_11 : decode cX1_putSign 11 = .ok (.iload_n 1, 1) := dG_dX1_putSign_4.2.2.2.2.2.1
theorem dX1_putSign_12 : decode cX1_putSign 12 = .ok (.invokevirtual 82, 3) := dG_dX1_putSign_4.2.2.2.2.2.2.1
theorem dX1_putSign_15 : decode cX1_putSign 15 = .ok (.return_, 1) := dG_dX1_putSign_4.2.2.2.2.2.2.2.1
theorem dX1_closeParen_0 : decode cX1_closeParen 0 = .ok (.aload_n 0, 1) := dG_dX1_putSign_4.2.2.2.2.2.2.2.2.1
theorem dX1_closeParen_1 : decode cX1_closeParen 1 = .ok (.getfield 27, 3) := dG_dX1_putSign_4.2.2.2.2.2.2.2.2.2.1
theorem dX1_closeParen_4 : decode cX1_closeParen 4 = .ok (.ifCond .ne 10, 3) := dG_dX1_putSign_4.2.2.2.2.2.2.2.2.2.2.1
theorem dX1_closeParen_7 : decode cX1_closeParen 7 = .ok (.aload_n 0, 1) := dG_dX1_putSign_4.2.2.2.2.2.2.2.2.2.2.2
theorem dG_dX1_closeParen_8 : (decode cX1_closeParen 8 = .ok (.bipush 41, 2)) ∧ (decode cX1_closeParen 10 = .ok (.invokevirtual 73, 3)) ∧ (decode cX1_closeParen 13 = .ok (.return_, 1)) ∧ (decode cX1_closeParen 14 = .ok (.aload_n 0, 1)) ∧ (decode cX1_closeParen 15 = .ok (.bipush 7, 2)) ∧ (decode cX1_closeParen 17 = .ok (.aload_n 1, 1)) ∧ (decode cX1_closeParen 18 = .ok (.invokevirtual 40, 3)) ∧ (decode cX1_closeParen 21 = .ok (.aload_n 0, 1)) ∧ (decode cX1_closeParen 22 = .ok (.iconst 0, 1)) ∧ (decode cX1_closeParen 23 = .ok (.aload_n 0, 1)) ∧ (decode cX1_closeParen 24 = .ok (.getfield 21, 3)) ∧ (decode cX1_closeParen 27 = .ok (.iconst 1, 1)) := by decide +kernel
theorem dX1_closeParen_8 : decode cX1_closeParen 8 = .ok (.bipush 41, 2) := dG_dX1_closeParen_8.1
theorem dX1_closeParen_10 : decode cX1_closeParen 10 = .ok (.invokevirtual 73, 3) := dG_dX1_closeParen_8.2.1
theorem dX1_closeParen_13 : decode cX1_closeParen 13 = .ok (.return_, 1) := dG_dX1_closeParen_8.2.2.1
theorem dX1_closeParen_14 : decode cX1_closeParen 14 = .ok (.aload_n 0, 1) := dG_dX1_closeParen_8.2.2.2.1
theorem dX1_closeParen_15 : decode cX1_closeParen 15 = .ok (.bipush 7, 2) := dG_dX1_closeParen_8.2.2.2.2.1
theorem dX1_closeParen_17 : decode cX1_closeParen 17 = .ok (.aload_n 1, 1) := dG_dX1_closeParen_8.2.2.2.2.2.1
theorem dX1_closeParen_18 : decode cX1_closeParen 18 = .ok (.invokevirtual 40, 3) := dG_dX1_closeParen_8.2.2.2.2.2.2.1
theorem dX1_closeParen_21 : decode cX1_closeParen 21 = .ok (.aload_n 0, 1) := dG_dX1_closeParen_8.2.2.2.2.2.2.2.1
theorem dX1_closeParen_22 : decode cX1_closeParen 22 = .ok (.iconst 0, 1) := dG_dX1_closeParen_8.2.2.2.2.2.2.2.2.1
theorem dX1_closeParen_23 : decode cX1_closeParen 23 = .ok (.aload_n 0, 1) := dG_dX1_closeParen_8.2.2.2.2.2.2.2.2.2.1
theorem dX1_closeParen_24 : decode cX1_closeParen 24 = .ok (.getfield 21, 3) := dG_dX1_closeParen_8.2.2.2.2.2.2.2.2.2.2.1
theorem dX1_closeParen_27 : decode cX1_closeParen 27 = .ok (.iconst 1, 1) := dG_dX1_closeParen_8.2.2.2.2.2.2.2.2.2.2.2
theorem dG_dX1_closeParen_28 : (decode cX1_closeParen 28 = .ok (.isub, 1)) ∧ (decode cX1_closeParen 29 = .ok (.invokestatic 85, 3)) ∧ (decode cX1_closeParen 32 = .ok (.putfield 21, 3)) ∧ (decode cX1_closeParen 35 = .ok (.aload_n 0, 1)) ∧ (decode cX1_closeParen 36 = .ok (.dup, 1)) ∧ (decode cX1_closeParen 37 = .ok (.getfield 27, 3)) ∧ (decode cX1_closeParen 40 = .ok (.iconst 1, 1)) ∧ (decode cX1_closeParen 41 = .ok (.isub, 1)) ∧ (decode cX1_closeParen 42 = .ok (.putfield 27, 3)) ∧ (decode cX1_closeParen 45 = .ok (.aload_n 0, 1)) ∧ (decode cX1_closeParen 46 = .ok (.dup, 1)) ∧ (decode cX1_closeParen 47 = .ok (.getfield 24, 3)) := by decide +kernel
theorem dX1_closeParen_28 : decode cX1_closeParen 28 = .ok (.isub, 1) := dG_dX1_closeParen_28.1
theorem dX1_closeParen_29 : decode cX1_closeParen 29 = .ok (.invokestatic 85, 3) := dG_dX1_closeParen_28.2.1
theorem dX1_closeParen_32 : decode cX1_closeParen 32 = .ok (.putfield 21, 3) := dG_dX1_closeParen_28.2.2.1
theorem dX1_closeParen_35 : decode cX1_closeParen 35 = .ok (.aload_n 0, 1) := dG_dX1_closeParen_28.2.2.2.1
theorem dX1_closeParen_36 : decode cX1_closeParen 36 = .ok (.dup, 1) := dG_dX1_closeParen_28.2.2.2.2.1
theorem dX1_closeParen_37 : decode cX1_closeParen 37 = .ok (.getfield 27, 3) := dG_dX1_closeParen_28.2.2.2.2.2.1
theorem dX1_closeParen_40 : decode cX1_closeParen 40 = .ok (.iconst 1, 1) := dG_dX1_closeParen_28.2.2.2.2.2.2.1
theorem dX1_closeParen_41 : decode cX1_closeParen 41 = .ok (.isub, 1) := dG_dX1_closeParen_28.2.2.2.2.2.2.2.1
theorem dX1_closeParen_42 : decode cX1_closeParen 42 = .ok (.putfield 27, 3) := dG_dX1_closeParen_28.2.2.2.2.2.2.2.2.1
theorem dX1_closeParen_45 : decode cX1_closeParen 45 = .ok (.aload_n 0, 1) := dG_dX1_closeParen_28.2.2.2.2.2.2.2.2.2.1
theorem dX1_closeParen_46 : decode cX1_closeParen 46 = .ok (.dup, 1) := dG_dX1_closeParen_28.2.2.2.2.2.2.2.2.2.2.1
theorem dX1_closeParen_47 : decode cX1_closeParen 47 = .ok (.getfield 24, 3) := dG_dX1_closeParen_28.2.2.2.2.2.2.2.2.2.2.2
theorem dG_dX1_closeParen_50 : (decode cX1_closeParen 50 = .ok (.iconst 1, 1)) ∧ (decode cX1_closeParen 51 = .ok (.isub, 1)) ∧ (decode cX1_closeParen 52 = .ok (.putfield 24, 3)) ∧ (decode cX1_closeParen 55 = .ok (.aload_n 0, 1)) ∧ (decode cX1_closeParen 56 = .ok (.aload_n 1, 1)) ∧ (decode cX1_closeParen 57 = .ok (.invokevirtual 65, 3)) ∧ (decode cX1_closeParen 60 = .ok (.return_, 1)) ∧ (decode cX1_releaseNegations 0 = .ok (.aload_n 0, 1)) ∧ (decode cX1_releaseNegations 1 = .ok (.getfield 21, 3)) ∧ (decode cX1_releaseNegations 4 = .ok (.ifCond .le 49, 3)) ∧ (decode cX1_releaseNegations 7 = .ok (.aload_n 0, 1)) ∧ (decode cX1_releaseNegations 8 = .ok (.getfield 9, 3)) := by decide +kernel
theorem dX1_closeParen_50 : decode cX1_closeParen 50 = .ok (.iconst 1, 1) := dG_dX1_closeParen_50.1
theorem dX1_closeParen_51 : decode cX1_closeParen 51 = .ok (.isub, 1) := dG_dX1_closeParen_50.2.1
theorem dX1_closeParen_52 : decode cX1_closeParen 52 = .ok (.putfield 24, 3) := dG_dX1_closeParen_50.2.2.1
theorem dX1_closeParen_55 : decode cX1_closeParen 55 = .ok (.aload_n 0, 1) := dG_dX1_closeParen_50.2.2.2.1
theorem dX1_closeParen_56 : decode cX1_closeParen 56 = .ok (.aload_n 1, 1) := dG_dX1_closeParen_50.2.2.2.2.1
theorem dX1_closeParen_57 : decode cX1_closeParen 57 = .ok (.invokevirtual 65, 3) := dG_dX1_closeParen_50.2.2.2.2.2.1
theorem dX1_closeParen_60 : decode cX1_closeParen 60 = .ok (.return_, 1) := dG_dX1_closeParen_50.2.2.2.2.2.2.1
theorem dX1_releaseNegations_0 : decode cX1_releaseNegations 0 = .ok (.aload_n 0, 1) := dG_dX1_closeParen_50.2.2.2.2.2.2.2.1
theorem dX1_releaseNegations_1 : decode cX1_releaseNegations 1 = .ok (.getfield 21, 3) := dG_dX1_closeParen_50.2.2.2.2.2.2.2.2.1
theorem dX1_releaseNegations_4 : decode cX1_releaseNegations 4 = .ok (.ifCond .le 49, 3) := dG_dX1_closeParen_50.2.2.2.2.2.2.2.2.2.1
theorem dX1_releaseNegations_7 : decode cX1_releaseNegations 7 = .ok (.aload_n 0, 1) := dG_dX1_closeParen_50.2.2.2.2.2.2.2.2.2.2.1
theorem dX1_releaseNegations_8 : decode cX1_releaseNegations 8 = .ok (.getfield 9, 3) := dG_dX1_closeParen_50.2.2.2.2.2.2.2.2.2.2.2
theorem dG_dX1_releaseNegations_11 : (decode cX1_releaseNegations 11 = .ok (.aload_n 0, 1)) ∧ (decode cX1_releaseNegations 12 = .ok (.getfield 21, 3)) ∧ (decode cX1_releaseNegations 15 = .ok (.iconst 1, 1)) ∧ (decode cX1_releaseNegations 16 = .ok (.isub, 1)) ∧ (decode cX1_releaseNegations 17 = .ok (.iaload, 1)) ∧ (decode cX1_releaseNegations 18 = .ok (.bipush 10, 2)) ∧ (decode cX1_releaseNegations 20 = .ok (.if_icmp .ne 33, 3)) ∧ (decode cX1_releaseNegations 23 = .ok (.aload_n 0, 1)) ∧ (decode cX1_releaseNegations 24 = .ok (.dup, 1)) ∧ (decode cX1_releaseNegations 25 = .ok (.getfield 21, 3)) ∧ (decode cX1_releaseNegations 28 = .ok (.iconst 1, 1)) ∧ (decode cX1_releaseNegations 29 = .ok (.isub, 1)) := by decide +kernel
theorem dX1_releaseNegations_11 : decode cX1_releaseNegations 11 = .ok (.aload_n 0, 1) := dG_dX1_releaseNegations_11.1
theorem dX1_releaseNegations_12 : decode cX1_releaseNegations 12 = .ok (.getfield 21, 3) := dG_dX1_releaseNegations_11.2.1
theorem dX1_releaseNegations_15 : decode cX1_releaseNegations 15 = .ok (.iconst 1, 1) := dG_dX1_releaseNegations_11.2.2.1
theorem dX1_releaseNegations_16 : decode cX1_releaseNegations 16 = .ok (.isub, 1) := dG_dX1_releaseNegations_11.2.2.2.1
theorem dX1_releaseNegations_17 : decode cX1_releaseNegations 17 = .ok (.iaload, 1) := dG_dX1_releaseNegations_11.2.2.2.2.1
theorem dX1_releaseNegations_18 : decode cX1_releaseNegations 18 = .ok (.bipush 10, 2) := dG_dX1_releaseNegations_11.2.2.2.2.2.1
theorem dX1_releaseNegations_20 : decode cX1_releaseNegations 20 = .ok (.if_icmp .ne 33, 3) := dG_dX1_releaseNegations_11.2.2.2.2.2.2.1
theorem dX1_releaseNegations_23 : decode cX1_releaseNegations 23 = .ok (.aload_n 0, 1) := dG_dX1_releaseNegations_11.2.2.2.2.2.2.2.1
theorem dX1_releaseNegations_24 : decode cX1_releaseNegations 24 = .ok (.dup, 1) := dG_dX1_releaseNegations_11.2.2.2.2.2.2.2.2.1
theorem dX1_releaseNegations_25 : decode cX1_releaseNegations 25 = .ok (.getfield 21, 3) := dG_dX1_releaseNegations_11.2.2.2.2.2.2.2.2.2.1
theorem dX1_releaseNegations_28 : decode cX1_releaseNegations 28 = .ok (.iconst 1, 1) := dG_dX1_releaseNegations_11.2.2.2.2.2.2.2.2.2.2.1
theorem dX1_releaseNegations_29 : decode cX1_releaseNegations 29 = .ok (.isub, 1) := dG_dX1_releaseNegations_11.2.2.2.2.2.2.2.2.2.2.2
theorem dG_dX1_releaseNegations_30 : (decode cX1_releaseNegations 30 = .ok (.putfield 21, 3)) ∧ (decode cX1_releaseNegations 33 = .ok (.aload_n 0, 1)) ∧ (decode cX1_releaseNegations 34 = .ok (.dup, 1)) ∧ (decode cX1_releaseNegations 35 = .ok (.getfield 24, 3)) ∧ (decode cX1_releaseNegations 38 = .ok (.iconst 1, 1)) ∧ (decode cX1_releaseNegations 39 = .ok (.isub, 1)) ∧ (decode cX1_releaseNegations 40 = .ok (.putfield 24, 3)) ∧ (decode cX1_releaseNegations 43 = .ok (.aload_n 1, 1)) ∧ (decode cX1_releaseNegations 44 = .ok (.bipush 10, 2)) ∧ (decode cX1_releaseNegations 46 = .ok (.iconst 0, 1)) ∧ (decode cX1_releaseNegations 47 = .ok (.invokevirtual 61, 3)) ∧ (decode cX1_releaseNegations 50 = .ok (.goto (-50), 3)) := by decide +kernel
theorem dX1_releaseNegations_30 : decode cX1_releaseNegations 30 = .ok (.putfield 21, 3) := dG_dX1_releaseNegations_30.1
theorem dX1_releaseNegations_33 : decode cX1_releaseNegations 33 = .ok (.aload_n 0, 1) := dG_dX1_releaseNegations_30.2.1
theorem dX1_releaseNegations_34 : decode cX1_releaseNegations 34 = .ok (.dup, 1) := dG_dX1_releaseNegations_30.2.2.1
theorem dX1_releaseNegations_35 : decode cX1_releaseNegations 35 = .ok (.getfield 24, 3) := dG_dX1_releaseNegations_30.2.2.2.1
theorem dX1_releaseNegations_38 : decode cX1_releaseNegations 38 = .ok (.iconst 1, 1) := dG_dX1_releaseNegations_30.2.2.2.2.1
theorem dX1_releaseNegations_39 : decode cX1_releaseNegations 39 = .ok (.isub, 1) := dG_dX1_releaseNegations_30.2.2.2.2.2.1
theorem dX1_releaseNegations_40 : decode cX1_releaseNegations 40 = .ok (.putfield 24, 3) := dG_dX1_releaseNegations_30.2.2.2.2.2.2.1
theorem dX1_releaseNegations_43 : decode cX1_releaseNegations 43 = .ok (.aload_n 1, 1) := dG_dX1_releaseNegations_30.2.2.2.2.2.2.2.1
theorem dX1_releaseNegations_44 : decode cX1_releaseNegations 44 = .ok (.bipush 10, 2) := dG_dX1_releaseNegations_30.2.2.2.2.2.2.2.2.1
theorem dX1_releaseNegations_46 : decode cX1_releaseNegations 46 = .ok (.iconst 0, 1) := dG_dX1_releaseNegations_30.2.2.2.2.2.2.2.2.2.1
theorem dX1_releaseNegations_47 : decode cX1_releaseNegations 47 = .ok (.invokevirtual 61, 3) := dG_dX1_releaseNegations_30.2.2.2.2.2.2.2.2.2.2.1
theorem dX1_releaseNegations_50 : decode cX1_releaseNegations 50 = .ok (.goto (-50), 3) := dG_dX1_releaseNegations_30.2.2.2.2.2.2.2.2.2.2.2
theorem dG_dX1_releaseNegations_53 : (decode cX1_releaseNegations 53 = .ok (.return_, 1)) ∧ (decode cX1_release 0 = .ok (.aload_n 0, 1)) ∧ (decode cX1_release 1 = .ok (.getfield 21, 3)) ∧ (decode cX1_release 4 = .ok (.ifCond .le 68, 3)) ∧ (decode cX1_release 7 = .ok (.aload_n 0, 1)) ∧ (decode cX1_release 8 = .ok (.getfield 9, 3)) ∧ (decode cX1_release 11 = .ok (.aload_n 0, 1)) ∧ (decode cX1_release 12 = .ok (.getfield 21, 3)) ∧ (decode cX1_release 15 = .ok (.iconst 1, 1)) ∧ (decode cX1_release 16 = .ok (.isub, 1)) ∧ (decode cX1_release 17 = .ok (.iaload, 1)) ∧ (decode cX1_release 18 = .ok (.bipush 11, 2)) := by decide +kernel
theorem dX1_releaseNegations_53 : decode cX1_releaseNegations 53 = .ok (.return_, 1) := dG_dX1_releaseNegations_53.1
theorem dX1_release_0 : decode cX1_release 0 = .ok (.aload_n 0, 1) := dG_dX1_releaseNegations_53.2.1
theorem dX1_release_1 : decode cX1_release 1 = .ok (.getfield 21, 3) := dG_dX1_releaseNegations_53.2.2.1
theorem dX1_release_4 : decode cX1_release 4 = .ok (.ifCond .le 68, 3) := dG_dX1_releaseNegations_53.2.2.2.1
theorem dX1_release_7 : decode cX1_release 7 = .ok (.aload_n 0, 1) := dG_dX1_releaseNegations_53.2.2.2.2.1
theorem dX1_release_8 : decode cX1_release 8 = .ok (.getfield 9, 3) := dG_dX1_releaseNegations_53.2.2.2.2.2.1
theorem dX1_release_11 : decode cX1_release 11 = .ok (.aload_n 0, 1) := dG_dX1_releaseNegations_53.2.2.2.2.2.2.1
theorem dX1_release_12 : decode cX1_release 12 = .ok (.getfield 21, 3) := dG_dX1_releaseNegations_53.2.2.2.2.2.2.2.1
theorem dX1_release_15 : decode cX1_release 15 = .ok (.iconst 1, 1) := dG_dX1_releaseNegations_53.2.2.2.2.2.2.2.2.1
theorem dX1_release_16 : decode cX1_release 16 = .ok (.isub, 1) := dG_dX1_releaseNegations_53.2.2.2.2.2.2.2.2.2.1
theorem dX1_release_17 : decode cX1_release 17 = .ok (.iaload, 1) := dG_dX1_releaseNegations_53.2.2.2.2.2.2.2.2.2.2.1
theorem dX1_release_18 : decode cX1_release 18 = .ok (.bipush 11, 2) := dG_dX1_releaseNegations_53.2.2.2.2.2.2.2.2.2.2.2
theorem dG_dX1_release_20 : (decode cX1_release 20 = .ok (.if_icmp .eq 52, 3)) ∧ (decode cX1_release 23 = .ok (.iload_n 1, 1)) ∧ (decode cX1_release 24 = .ok (.bipush 9, 2)) ∧ (decode cX1_release 26 = .ok (.if_icmp .ne 19, 3)) ∧ (decode cX1_release 29 = .ok (.aload_n 0, 1)) ∧ (decode cX1_release 30 = .ok (.getfield 9, 3)) ∧ (decode cX1_release 33 = .ok (.aload_n 0, 1)) ∧ (decode cX1_release 34 = .ok (.getfield 21, 3)) ∧ (decode cX1_release 37 = .ok (.iconst 1, 1)) ∧ (decode cX1_release 38 = .ok (.isub, 1)) ∧ (decode cX1_release 39 = .ok (.iaload, 1)) ∧ (decode cX1_release 40 = .ok (.bipush 9, 2)) := by decide +kernel
theorem dX1_release_20 : decode cX1_release 20 = .ok (.if_icmp .eq 52, 3) := dG_dX1_release_20.1
theorem dX1_release_23 : decode cX1_release 23 = .ok (.iload_n 1, 1) := dG_dX1_release_20.2.1
theorem dX1_release_24 : decode cX1_release 24 = .ok (.bipush 9, 2) := dG_dX1_release_20.2.2.1
theorem dX1_release_26 : decode cX1_release 26 = .ok (.if_icmp .ne 19, 3) := dG_dX1_release_20.2.2.2.1
theorem dX1_release_29 : decode cX1_release 29 = .ok (.aload_n 0, 1) := dG_dX1_release_20.2.2.2.2.1
theorem dX1_release_30 : decode cX1_release 30 = .ok (.getfield 9, 3) := dG_dX1_release_20.2.2.2.2.2.1
theorem dX1_release_33 : decode cX1_release 33 = .ok (.aload_n 0, 1) := dG_dX1_release_20.2.2.2.2.2.2.1
theorem dX1_release_34 : decode cX1_release 34 = .ok (.getfield 21, 3) := dG_dX1_release_20.2.2.2.2.2.2.2.1
theorem dX1_release_37 : decode cX1_release 37 = .ok (.iconst 1, 1) := dG_dX1_release_20.2.2.2.2.2.2.2.2.1
theorem dX1_release_38 : decode cX1_release 38 = .ok (.isub, 1) := dG_dX1_release_20.2.2.2.2.2.2.2.2.2.1
theorem dX1_release_39 : decode cX1_release 39 = .ok (.iaload, 1) := dG_dX1_release_20.2.2.2.2.2.2.2.2.2.2.1
theorem dX1_release_40 : decode cX1_release 40 = .ok (.bipush 9, 2) := dG_dX1_release_20.2.2.2.2.2.2.2.2.2.2.2
theorem dG_dX1_release_42 : (decode cX1_release 42 = .ok (.if_icmp .ne 30, 3)) ∧ (decode cX1_release 45 = .ok (.aload_n 0, 1)) ∧ (decode cX1_release 46 = .ok (.dup, 1)) ∧ (decode cX1_release 47 = .ok (.getfield 21, 3)) ∧ (decode cX1_release 50 = .ok (.iconst 1, 1)) ∧ (decode cX1_release 51 = .ok (.isub, 1)) ∧ (decode cX1_release 52 = .ok (.putfield 21, 3)) ∧ (decode cX1_release 55 = .ok (.aload_n 2, 1)) ∧ (decode cX1_release 56 = .ok (.aload_n 0, 1)) ∧ (decode cX1_release 57 = .ok (.getfield 9, 3)) ∧ (decode cX1_release 60 = .ok (.aload_n 0, 1)) ∧ (decode cX1_release 61 = .ok (.getfield 21, 3)) := by decide +kernel
theorem dX1_release_42 : decode cX1_release 42 = .ok (.if_icmp .ne 30, 3) := dG_dX1_release_42.1
theorem dX1_release_45 : decode cX1_release 45 = .ok (.aload_n 0, 1) := dG_dX1_release_42.2.1
theorem dX1_release_46 : decode cX1_release 46 = .ok (.dup, 1) := dG_dX1_release_42.2.2.1
theorem dX1_release_47 : decode cX1_release 47 = .ok (.getfield 21, 3) := dG_dX1_release_42.2.2.2.1
theorem dX1_release_50 : decode cX1_release 50 = .ok (.iconst 1, 1) := dG_dX1_release_42.2.2.2.2.1
theorem dX1_release_51 : decode cX1_release 51 = .ok (.isub, 1) := dG_dX1_release_42.2.2.2.2.2.1
theorem dX1_release_52 : decode cX1_release 52 = .ok (.putfield 21, 3) := dG_dX1_release_42.2.2.2.2.2.2.1
theorem dX1_release_55 : decode cX1_release 55 = .ok (.aload_n 2, 1) := dG_dX1_release_42.2.2.2.2.2.2.2.1
theorem dX1_release_56 : decode cX1_release 56 = .ok (.aload_n 0, 1) := dG_dX1_release_42.2.2.2.2.2.2.2.2.1
theorem dX1_release_57 : decode cX1_release 57 = .ok (.getfield 9, 3) := dG_dX1_release_42.2.2.2.2.2.2.2.2.2.1
theorem dX1_release_60 : decode cX1_release 60 = .ok (.aload_n 0, 1) := dG_dX1_release_42.2.2.2.2.2.2.2.2.2.2.1
theorem dX1_release_61 : decode cX1_release 61 = .ok (.getfield 21, 3) := dG_dX1_release_42.2.2.2.2.2.2.2.2.2.2.2
theorem dG_dX1_release_64 : (decode cX1_release 64 = .ok (.iaload, 1)) ∧ (decode cX1_release 65 = .ok (.iconst 0, 1)) ∧ (decode cX1_release 66 = .ok (.invokevirtual 61, 3)) ∧ (decode cX1_release 69 = .ok (.goto (-69), 3)) ∧ (decode cX1_release 72 = .ok (.return_, 1)) ∧ (decode cX4_addItem 0 = .ok (.aload_n 0, 1)) ∧ (decode cX4_addItem 1 = .ok (.getfield 35, 3)) ∧ (decode cX4_addItem 4 = .ok (.bipush 40, 2)) ∧ (decode cX4_addItem 6 = .ok (.if_icmp .ge 33, 3)) ∧ (decode cX4_addItem 9 = .ok (.aload_n 0, 1)) ∧ (decode cX4_addItem 10 = .ok (.getfield 15, 3)) ∧ (decode cX4_addItem 13 = .ok (.aload_n 0, 1)) := by decide +kernel
theorem dX1_release_64 : decode cX1_release 64 = .ok (.iaload, 1) := dG_dX1_release_64.1
theorem dX1_release_65 : decode cX1_release 65 = .ok (.iconst 0, 1) := dG_dX1_release_64.2.1
theorem dX1_release_66 : decode cX1_release 66 = .ok (.invokevirtual 61, 3) := dG_dX1_release_64.2.2.1
theorem dX1_release_69 : decode cX1_release 69 = .ok (.goto (-69), 3) := dG_dX1_release_64.2.2.2.1
theorem dX1_release_72 : decode cX1_release 72 = .ok (.return_, 1) := dG_dX1_release_64.2.2.2.2.1
theorem dX4_addItem_0 : decode cX4_addItem 0 = .ok (.aload_n 0, 1) := dG_dX1_release_64.2.2.2.2.2.1
theorem dX4_addItem_1 : decode cX4_addItem 1 = .ok (.getfield 35, 3) := dG_dX1_release_64.2.2.2.2.2.2.1
theorem dX4_addItem_4 : decode cX4_addItem 4 = .ok (.bipush 40, 2) := dG_dX1_release_64.2.2.2.2.2.2.2.1
theorem dX4_addItem_6 : decode cX4_addItem 6 = .ok (.if_icmp .ge 33, 3) := dG_dX1_release_64.2.2.2.2.2.2.2.2.1
theorem dX4_addItem_9 : decode cX4_addItem 9 = .ok (.aload_n 0, 1) := dG_dX1_release_64.2.2.2.2.2.2.2.2.2.1
theorem dX4_addItem_10 : decode cX4_addItem 10 = .ok (.getfield 15, 3) := dG_dX1_release_64.2.2.2.2.2.2.2.2.2.2.1
theorem dX4_addItem_13 : decode cX4_addItem 13 = .ok (.aload_n 0, 1) := dG_dX1_release_64.2.2.2.2.2.2.2.2.2.2.2
theorem dG_dX4_addItem_14 : (decode cX4_addItem 14 = .ok (.getfield 35, 3)) ∧ (decode cX4_addItem 17 = .ok (.iload_n 1, 1)) ∧ (decode cX4_addItem 18 = .ok (.iastore, 1)) ∧ (decode cX4_addItem 19 = .ok (.aload_n 0, 1)) ∧ (decode cX4_addItem 20 = .ok (.getfield 18, 3)) ∧ (decode cX4_addItem 23 = .ok (.aload_n 0, 1)) ∧ (decode cX4_addItem 24 = .ok (.getfield 35, 3)) ∧ (decode cX4_addItem 27 = .ok (.iload_n 2, 1)) ∧ (decode cX4_addItem 28 = .ok (.iastore, 1)) ∧ (decode cX4_addItem 29 = .ok (.aload_n 0, 1)) ∧ (decode cX4_addItem 30 = .ok (.dup, 1)) ∧ (decode cX4_addItem 31 = .ok (.getfield 35, 3)) := by decide +kernel
theorem dX4_addItem_14 : decode cX4_addItem 14 = .ok (.getfield 35, 3) := dG_dX4_addItem_14.1
theorem dX4_addItem_17 : decode cX4_addItem 17 = .ok (.iload_n 1, 1) := dG_dX4_addItem_14.2.1
theorem dX4_addItem_18 : decode cX4_addItem 18 = .ok (.iastore, 1) := dG_dX4_addItem_14.2.2.1
theorem dX4_addItem_19 : decode cX4_addItem 19 = .ok (.aload_n 0, 1) := dG_dX4_addItem_14.2.2.2.1
theorem dX4_addItem_20 : decode cX4_addItem 20 = .ok (.getfield 18, 3) := dG_dX4_addItem_14.2.2.2.2.1
theorem dX4_addItem_23 : decode cX4_addItem 23 = .ok (.aload_n 0, 1) := dG_dX4_addItem_14.2.2.2.2.2.1
theorem dX4_addItem_24 : decode cX4_addItem 24 = .ok (.getfield 35, 3) := dG_dX4_addItem_14.2.2.2.2.2.2.1
theorem dX4_addItem_27 : decode cX4_addItem 27 = .ok (.iload_n 2, 1) := dG_dX4_addItem_14.2.2.2.2.2.2.2.1
theorem dX4_addItem_28 : decode cX4_addItem 28 = .ok (.iastore, 1) := dG_dX4_addItem_14.2.2.2.2.2.2.2.2.1
theorem dX4_addItem_29 : decode cX4_addItem 29 = .ok (.aload_n 0, 1) := dG_dX4_addItem_14.2.2.2.2.2.2.2.2.2.1
theorem dX4_addItem_30 : decode cX4_addItem 30 = .ok (.dup, 1) := dG_dX4_addItem_14.2.2.2.2.2.2.2.2.2.2.1
theorem dX4_addItem_31 : decode cX4_addItem 31 = .ok (.getfield 35, 3) := dG_dX4_addItem_14.2.2.2.2.2.2.2.2.2.2.2
theorem dG_dX4_addItem_34 : (decode cX4_addItem 34 = .ok (.iconst 1, 1)) ∧ (decode cX4_addItem 35 = .ok (.iadd, 1)) ∧ (decode cX4_addItem 36 = .ok (.putfield 35, 3)) ∧ (decode cX4_addItem 39 = .ok (.return_, 1)) ∧ (decode cX6_kind 0 = .ok (.aload_n 0, 1)) ∧ (decode cX6_kind 1 = .ok (.getfield 9, 3)) ∧ (decode cX6_kind 4 = .ok (.aload_n 0, 1)) ∧ (decode cX6_kind 5 = .ok (.getfield 21, 3)) ∧ (decode cX6_kind 8 = .ok (.iaload, 1)) ∧ (decode cX6_kind 9 = .ok (.ireturn, 1)) ∧ (decode cX6_place 0 = .ok (.aload_n 0, 1)) ∧ (decode cX6_place 1 = .ok (.getfield 15, 3)) := by decide +kernel
theorem dX4_addItem_34 : decode cX4_addItem 34 = .ok (.iconst 1, 1) := dG_dX4_addItem_34.1
theorem dX4_addItem_35 : decode cX4_addItem 35 = .ok (.iadd, 1) := dG_dX4_addItem_34.2.1
theorem dX4_addItem_36 : decode cX4_addItem 36 = .ok (.putfield 35, 3) := dG_dX4_addItem_34.2.2.1
theorem dX4_addItem_39 : decode cX4_addItem 39 = .ok (.return_, 1) := dG_dX4_addItem_34.2.2.2.1
theorem dX6_kind_0 : decode cX6_kind 0 = .ok (.aload_n 0, 1) := dG_dX4_addItem_34.2.2.2.2.1
theorem dX6_kind_1 : decode cX6_kind 1 = .ok (.getfield 9, 3) := dG_dX4_addItem_34.2.2.2.2.2.1
theorem dX6_kind_4 : decode cX6_kind 4 = .ok (.aload_n 0, 1) := dG_dX4_addItem_34.2.2.2.2.2.2.1
theorem dX6_kind_5 : decode cX6_kind 5 = .ok (.getfield 21, 3) := dG_dX4_addItem_34.2.2.2.2.2.2.2.1
theorem dX6_kind_8 : decode cX6_kind 8 = .ok (.iaload, 1) := dG_dX4_addItem_34.2.2.2.2.2.2.2.2.1
theorem dX6_kind_9 : decode cX6_kind 9 = .ok (.ireturn, 1) := dG_dX4_addItem_34.2.2.2.2.2.2.2.2.2.1
theorem dX6_place_0 : decode cX6_place 0 = .ok (.aload_n 0, 1) := dG_dX4_addItem_34.2.2.2.2.2.2.2.2.2.2.1
theorem dX6_place_1 : decode cX6_place 1 = .ok (.getfield 15, 3) := dG_dX4_addItem_34.2.2.2.2.2.2.2.2.2.2.2
theorem dG_dX6_place_4 : (decode cX6_place 4 = .ok (.aload_n 0, 1)) ∧ (decode cX6_place 5 = .ok (.getfield 21, 3)) ∧ (decode cX6_place 8 = .ok (.iaload, 1)) ∧ (decode cX6_place 9 = .ok (.ireturn, 1)) ∧ (decode cX6_value 0 = .ok (.aload_n 0, 1)) ∧ (decode cX6_value 1 = .ok (.getfield 18, 3)) ∧ (decode cX6_value 4 = .ok (.aload_n 0, 1)) ∧ (decode cX6_value 5 = .ok (.getfield 21, 3)) ∧ (decode cX6_value 8 = .ok (.iaload, 1)) ∧ (decode cX6_value 9 = .ok (.ireturn, 1)) ∧ (decode cX6_step 0 = .ok (.aload_n 0, 1)) ∧ (decode cX6_step 1 = .ok (.getfield 21, 3)) := by decide +kernel
theorem dX6_place_4 : decode cX6_place 4 = .ok (.aload_n 0, 1) := dG_dX6_place_4.1
theorem dX6_place_5 : decode cX6_place 5 = .ok (.getfield 21, 3) := dG_dX6_place_4.2.1
theorem dX6_place_8 : decode cX6_place 8 = .ok (.iaload, 1) := dG_dX6_place_4.2.2.1
theorem dX6_place_9 : decode cX6_place 9 = .ok (.ireturn, 1) := dG_dX6_place_4.2.2.2.1
theorem dX6_value_0 : decode cX6_value 0 = .ok (.aload_n 0, 1) := dG_dX6_place_4.2.2.2.2.1
theorem dX6_value_1 : decode cX6_value 1 = .ok (.getfield 18, 3) := dG_dX6_place_4.2.2.2.2.2.1
theorem dX6_value_4 : decode cX6_value 4 = .ok (.aload_n 0, 1) := dG_dX6_place_4.2.2.2.2.2.2.1
theorem dX6_value_5 : decode cX6_value 5 = .ok (.getfield 21, 3) := dG_dX6_place_4.2.2.2.2.2.2.2.1
theorem dX6_value_8 : decode cX6_value 8 = .ok (.iaload, 1) := dG_dX6_place_4.2.2.2.2.2.2.2.2.1
theorem dX6_value_9 : decode cX6_value 9 = .ok (.ireturn, 1) := dG_dX6_place_4.2.2.2.2.2.2.2.2.2.1
theorem dX6_step_0 : decode cX6_step 0 = .ok (.aload_n 0, 1) := dG_dX6_place_4.2.2.2.2.2.2.2.2.2.2.1
theorem dX6_step_1 : decode cX6_step 1 = .ok (.getfield 21, 3) := dG_dX6_place_4.2.2.2.2.2.2.2.2.2.2.2
theorem dG_dX6_step_4 : (decode cX6_step 4 = .ok (.iconst 1, 1)) ∧ (decode cX6_step 5 = .ok (.iadd, 1)) ∧ (decode cX6_step 6 = .ok (.aload_n 0, 1)) ∧ (decode cX6_step 7 = .ok (.getfield 25, 3)) ∧ (decode cX6_step 10 = .ok (.if_icmp .ge 13, 3)) ∧ (decode cX6_step 13 = .ok (.aload_n 0, 1)) ∧ (decode cX6_step 14 = .ok (.dup, 1)) ∧ (decode cX6_step 15 = .ok (.getfield 21, 3)) ∧ (decode cX6_step 18 = .ok (.iconst 1, 1)) ∧ (decode cX6_step 19 = .ok (.iadd, 1)) ∧ (decode cX6_step 20 = .ok (.putfield 21, 3)) ∧ (decode cX6_step 23 = .ok (.return_, 1)) := by decide +kernel
theorem dX6_step_4 : decode cX6_step 4 = .ok (.iconst 1, 1) := dG_dX6_step_4.1
theorem dX6_step_5 : decode cX6_step 5 = .ok (.iadd, 1) := dG_dX6_step_4.2.1
theorem dX6_step_6 : decode cX6_step 6 = .ok (.aload_n 0, 1) := dG_dX6_step_4.2.2.1
theorem dX6_step_7 : decode cX6_step 7 = .ok (.getfield 25, 3) := dG_dX6_step_4.2.2.2.1
theorem dX6_step_10 : decode cX6_step 10 = .ok (.if_icmp .ge 13, 3) := dG_dX6_step_4.2.2.2.2.1
theorem dX6_step_13 : decode cX6_step 13 = .ok (.aload_n 0, 1) := dG_dX6_step_4.2.2.2.2.2.1
theorem dX6_step_14 : decode cX6_step 14 = .ok (.dup, 1) := dG_dX6_step_4.2.2.2.2.2.2.1
theorem dX6_step_15 : decode cX6_step 15 = .ok (.getfield 21, 3) := dG_dX6_step_4.2.2.2.2.2.2.2.1
theorem dX6_step_18 : decode cX6_step 18 = .ok (.iconst 1, 1) := dG_dX6_step_4.2.2.2.2.2.2.2.2.1
theorem dX6_step_19 : decode cX6_step 19 = .ok (.iadd, 1) := dG_dX6_step_4.2.2.2.2.2.2.2.2.2.1
theorem dX6_step_20 : decode cX6_step 20 = .ok (.putfield 21, 3) := dG_dX6_step_4.2.2.2.2.2.2.2.2.2.2.1
theorem dX6_step_23 : decode cX6_step 23 = .ok (.return_, 1) := dG_dX6_step_4.2.2.2.2.2.2.2.2.2.2.2
end

section
set_option maxHeartbeats 4000000 in
set_option maxRecDepth 100000 in
theorem e_To_kind (l : Launch) (D : va_G) (k : Nat → ClassId) (A : Nat → Prop) (ad : Nat → Nat) (hD : rwD A k ad) (v : gV) (f g : gF) (nn : Int) (pp : Int) (hc : tAt (f 0) nn (f 6) (f 7) (f 8) (v 5) (v 6) pp) : GM l D k A (rwT k ad) yX6_kind cX6_kind 1 (some .int) 0 0 [.ref (ad 10)] v f g (fun r v1 f1 g1 => ∃ (z : Int), r = some (.int (iI z)) ∧ v = v1 ∧ f = f1 ∧ g = g1 ∧ (z = (tK (f 0) nn pp)) ∧ (40 ≤ z ∧ z ≤ 277)) := by
  refine GM.of (by decide) (Nat.le_of_ble_eq_true rfl) ?_
  intro p e s m args below meth c Q ls hQ C hml hr hlocks hP hl
  have hx := C.1
  have hb := C.2.1
  have hok := hP.2
  have hS : va_S A s.heap s.heap [] := va_S.rf
  have hl : lv_has ls 1 [(0, .ref (ad 10))] := hl
  have hq := hc.p
  have hrk := tK_rng (f 0) nn pp
  refine lv_aload_n hx hb dX6_kind_0 rfl (lv_at hl 0 rfl) ?_
  refine rwG_reader_tokens_kinds C hP mF_X6_9 dX6_kind_1 ?_
  refine lv_aload_n hx hb dX6_kind_4 rfl (lv_at hl 0 rfl) ?_
  refine rwG_reader_tokens_at C hP mF_X6_21 dX6_kind_5 ?_
  have r_1 : 0 ≤ (v 6) ∧ (v 6) ≤ 700 := hok.1 6
  refine rwL_reader_tokens_kinds C hP (by omega) (by omega) dX6_kind_8 ?_
  have r_2 : 0 ≤ (f 6 (v 6)) ∧ (f 6 (v 6)) ≤ 300 := hP.2.2 6 (v 6)
  exact g_iret hQ C hr hlocks hP hS dX6_kind_9 ⟨(f 6 (v 6)), rfl, rfl, rfl, rfl, (by first | omega | (split <;> omega)), (by first | omega | (split <;> omega))⟩

set_option maxHeartbeats 4000000 in
set_option maxRecDepth 100000 in
theorem e_To_place (l : Launch) (D : va_G) (k : Nat → ClassId) (A : Nat → Prop) (ad : Nat → Nat) (hD : rwD A k ad) (v : gV) (f g : gF) (nn : Int) (pp : Int) (hc : tAt (f 0) nn (f 6) (f 7) (f 8) (v 5) (v 6) pp) : GM l D k A (rwT k ad) yX6_place cX6_place 1 (some .int) 0 0 [.ref (ad 10)] v f g (fun r v1 f1 g1 => ∃ (z : Int), r = some (.int (iI z)) ∧ v = v1 ∧ f = f1 ∧ g = g1 ∧ (z = pp) ∧ (0 ≤ z ∧ z ≤ 700)) := by
  refine GM.of (by decide) (Nat.le_of_ble_eq_true rfl) ?_
  intro p e s m args below meth c Q ls hQ C hml hr hlocks hP hl
  have hx := C.1
  have hb := C.2.1
  have hok := hP.2
  have hS : va_S A s.heap s.heap [] := va_S.rf
  have hl : lv_has ls 1 [(0, .ref (ad 10))] := hl
  have hq := hc.p
  refine lv_aload_n hx hb dX6_place_0 rfl (lv_at hl 0 rfl) ?_
  refine rwG_reader_tokens_places C hP mF_X6_15 dX6_place_1 ?_
  refine lv_aload_n hx hb dX6_place_4 rfl (lv_at hl 0 rfl) ?_
  refine rwG_reader_tokens_at C hP mF_X6_21 dX6_place_5 ?_
  have r_1 : 0 ≤ (v 6) ∧ (v 6) ≤ 700 := hok.1 6
  refine rwL_reader_tokens_places C hP (by omega) (by omega) dX6_place_8 ?_
  have r_2 : 0 ≤ (f 7 (v 6)) ∧ (f 7 (v 6)) ≤ 700 := hP.2.2 7 (v 6)
  exact g_iret hQ C hr hlocks hP hS dX6_place_9 ⟨(f 7 (v 6)), rfl, rfl, rfl, rfl, (by first | omega | (split <;> omega)), (by first | omega | (split <;> omega))⟩

set_option maxHeartbeats 4000000 in
set_option maxRecDepth 100000 in
theorem e_To_value (l : Launch) (D : va_G) (k : Nat → ClassId) (A : Nat → Prop) (ad : Nat → Nat) (hD : rwD A k ad) (v : gV) (f g : gF) (nn : Int) (pp : Int) (hc : tAt (f 0) nn (f 6) (f 7) (f 8) (v 5) (v 6) pp) : GM l D k A (rwT k ad) yX6_value cX6_value 1 (some .int) 0 0 [.ref (ad 10)] v f g (fun r v1 f1 g1 => ∃ (z : Int), r = some (.int (iI z)) ∧ v = v1 ∧ f = f1 ∧ g = g1 ∧ (z = (tV (f 0) nn pp)) ∧ (0 ≤ z ∧ z ≤ 999999)) := by
  refine GM.of (by decide) (Nat.le_of_ble_eq_true rfl) ?_
  intro p e s m args below meth c Q ls hQ C hml hr hlocks hP hl
  have hx := C.1
  have hb := C.2.1
  have hok := hP.2
  have hS : va_S A s.heap s.heap [] := va_S.rf
  have hl : lv_has ls 1 [(0, .ref (ad 10))] := hl
  have hq := hc.p
  have hrv := tV_rng (f 0) nn pp
  refine lv_aload_n hx hb dX6_value_0 rfl (lv_at hl 0 rfl) ?_
  refine rwG_reader_tokens_values C hP mF_X6_18 dX6_value_1 ?_
  refine lv_aload_n hx hb dX6_value_4 rfl (lv_at hl 0 rfl) ?_
  refine rwG_reader_tokens_at C hP mF_X6_21 dX6_value_5 ?_
  have r_1 : 0 ≤ (v 6) ∧ (v 6) ≤ 700 := hok.1 6
  refine rwL_reader_tokens_values C hP (by omega) (by omega) dX6_value_8 ?_
  have r_2 : 0 ≤ (f 8 (v 6)) ∧ (f 8 (v 6)) ≤ 999999 := hP.2.2 8 (v 6)
  exact g_iret hQ C hr hlocks hP hS dX6_value_9 ⟨(f 8 (v 6)), rfl, rfl, rfl, rfl, (by first | omega | (split <;> omega)), (by first | omega | (split <;> omega))⟩

set_option maxHeartbeats 4000000 in
set_option maxRecDepth 100000 in
theorem e_To_step (l : Launch) (D : va_G) (k : Nat → ClassId) (A : Nat → Prop) (ad : Nat → Nat) (hD : rwD A k ad) (v : gV) (f g : gF) (nn : Int) (pp : Int) (hc : tAt (f 0) nn (f 6) (f 7) (f 8) (v 5) (v 6) pp) : GM l D k A (rwT k ad) yX6_step cX6_step 1 none 0 0 [.ref (ad 10)] v f g (fun r v1 f1 g1 => ∃ (w6 : Int), r = none ∧ (va_up v 6 w6) = v1 ∧ f = f1 ∧ g = g1 ∧ ((tK (f 0) nn pp) ≠ 256 → (tK (f 0) nn pp) ≠ 257 → tAt (f 0) nn (f 6) (f 7) (f 8) (v 5) w6 (tX (f 0) nn pp))) := by
  refine GM.of (by decide) (Nat.le_of_ble_eq_true rfl) ?_
  intro p e s m args below meth c Q ls hQ C hml hr hlocks hP hl
  have hx := C.1
  have hb := C.2.1
  have hok := hP.2
  have hS : va_S A s.heap s.heap [] := va_S.rf
  have hl : lv_has ls 1 [(0, .ref (ad 10))] := hl
  have hP : gWd D (rwT k ad) (va_up v 6 (v 6)) f g s.heap := by rw [va_id]; exact hP
  have hq := hc.p
  refine lv_aload_n hx hb dX6_step_0 rfl (lv_at hl 0 rfl) ?_
  refine rwG_reader_tokens_at C hP mF_X6_21 dX6_step_1 ?_
  show W p l e (gRm 0 0) s m args below meth c _ _ 0 0 Q (F0 m 4 ls [.int (iI (v 6))])
  have r_1 : 0 ≤ (v 6) ∧ (v 6) ≤ 700 := hok.1 6
  refine lv_iconst (v := iI 1) hx hb dX6_step_4 rfl ?_
  refine gi_add (z := ((v 6) + 1)) hx hb dX6_step_5 rfl ?_
  refine lv_aload_n hx hb dX6_step_6 rfl (lv_at hl 0 rfl) ?_
  refine rwG_reader_tokens_many C hP mF_X6_25 dX6_step_7 ?_
  show W p l e (gRm 0 0) s m args below meth c _ _ 0 0 Q (F0 m 10 ls [.int (iI (v 5)), .int (iI ((v 6) + 1))])
  have r_2 : 0 ≤ (v 5) ∧ (v 5) ≤ 701 := hok.1 5
  refine gi_cge (tgt := 23) hx hb dX6_step_10 (by decide) (by omega) (by omega) (fun c_3 => ?_) (fun c_3 => ?_)
  · exact g_vret hQ C hr hlocks hP hS dX6_step_23 ⟨(v 6), rfl, rfl, rfl, rfl, (by first | exact fun h1 h2 => (hc.up h1 h2).2 | exact fun h1 h2 => absurd (hc.up h1 h2).1 (by omega))⟩
  · refine lv_aload_n hx hb dX6_step_13 rfl (lv_at hl 0 rfl) ?_
    refine lv_dup hx hb dX6_step_14 rfl ?_
    refine rwG_reader_tokens_at C hP mF_X6_21 dX6_step_15 ?_
    show W p l e (gRm 0 0) s m args below meth c _ _ 0 0 Q (F0 m 18 ls [.int (iI (v 6)), .ref (ad 10)])
    refine lv_iconst (v := iI 1) hx hb dX6_step_18 rfl ?_
    refine gi_add (z := ((v 6) + 1)) hx hb dX6_step_19 rfl ?_
    refine rwP_reader_tokens_at (v1 := (va_up v 6 ((v 6) + 1))) C hP hD hS mF_X6_21 (by omega) rfl (Or.inr (gR_up (V := rwV) (F := rwF) ⟨hok.1, hok.2⟩ 6 (show 0 ≤ ((v 6) + 1) ∧ ((v 6) + 1) ≤ 700 from by omega))) dX6_step_20 (fun H locs hP hS => ?_)
    exact g_vret hQ C hr hlocks hP hS dX6_step_23 ⟨((v 6) + 1), rfl, rfl, rfl, rfl, (by first | exact fun h1 h2 => (hc.up h1 h2).2 | exact fun h1 h2 => absurd (hc.up h1 h2).1 (by omega))⟩

set_option maxHeartbeats 4000000 in
set_option maxRecDepth 100000 in
theorem e_Ex_refuseToken (l : Launch) (D : va_G) (k : Nat → ClassId) (A : Nat → Prop) (ad : Nat → Nat) (hD : rwD A k ad) (v : gV) (f g : gF) (a1 : Int) (h_a1 : inR a1) : GM l D k A (rwT k ad) yX1_refuseToken cX1_refuseToken 2 none 0 0 [.ref (ad 21), .int (iI a1)] v f g (fun r v1 f1 g1 => r = none ∧ (va_up v 15 (if a1 = 257 then 1 else 2)) = v1 ∧ f = f1 ∧ g = g1) := by
  refine GM.of (by decide) (Nat.le_of_ble_eq_true rfl) ?_
  intro p e s m args below meth c Q ls hQ C hml hr hlocks hP hl
  have hx := C.1
  have hb := C.2.1
  have hok := hP.2
  have hS : va_S A s.heap s.heap [] := va_S.rf
  have hl : lv_has ls 2 [(0, .ref (ad 21)), (1, .int (iI a1))] := hl
  have hP : gWd D (rwT k ad) (va_up v 15 (v 15)) f g s.heap := by rw [va_id]; exact hP
  refine lv_aload_n hx hb dX1_refuseToken_0 rfl (lv_at hl 0 rfl) ?_
  refine lv_iload_n hx hb dX1_refuseToken_1 rfl (lv_at hl 1 rfl) ?_
  refine lv_sipush (v := iI 257) hx hb dX1_refuseToken_2 (by decide) ?_
  refine gi_cne (tgt := 12) hx hb dX1_refuseToken_5 (by decide) (by omega) (by decide) (fun c_1 => ?_) (fun c_1 => ?_)
  · refine lv_iconst (v := iI 2) hx hb dX1_refuseToken_12 rfl ?_
    refine rwP_reader_expression_fault (v1 := (va_up v 15 2)) C hP hD hS mF_X1_31 (by decide) rfl (Or.inr (gR_up (V := rwV) (F := rwF) ⟨hok.1, hok.2⟩ 15 (show 0 ≤ 2 ∧ 2 ≤ 5 from by decide))) dX1_refuseToken_13 (fun H locs hP hS => ?_)
    exact g_vret hQ C hr hlocks hP hS dX1_refuseToken_16 ⟨rfl, (by rw [show ((if a1 = 257 then 1 else 2) : Int) = 2 from by first | rw [if_pos (by omega)] | rw [if_neg (by omega)]]), rfl, rfl⟩
  · refine lv_iconst (v := iI 1) hx hb dX1_refuseToken_8 rfl ?_
    refine lv_goto (tgt := 13) hx hb dX1_refuseToken_9 (by decide) ?_
    refine rwP_reader_expression_fault (v1 := (va_up v 15 1)) C hP hD hS mF_X1_31 (by decide) rfl (Or.inr (gR_up (V := rwV) (F := rwF) ⟨hok.1, hok.2⟩ 15 (show 0 ≤ 1 ∧ 1 ≤ 5 from by decide))) dX1_refuseToken_13 (fun H locs hP hS => ?_)
    exact g_vret hQ C hr hlocks hP hS dX1_refuseToken_16 ⟨rfl, (by rw [show ((if a1 = 257 then 1 else 2) : Int) = 1 from by first | rw [if_pos (by omega)] | rw [if_neg (by omega)]]), rfl, rfl⟩

set_option maxHeartbeats 4000000 in
set_option maxRecDepth 100000 in
theorem e_Ex_countItem (l : Launch) (D : va_G) (k : Nat → ClassId) (A : Nat → Prop) (ad : Nat → Nat) (hD : rwD A k ad) (v : gV) (f g : gF) (h0 : (v 14) ≤ 40) : GM l D k A (rwT k ad) yX1_countItem cX1_countItem 1 none 0 0 [.ref (ad 21)] v f g (fun r v1 f1 g1 => ∃ (w15 : Int), r = none ∧ (va_up (va_up v 14 ((v 14) + 1)) 15 w15) = v1 ∧ f = f1 ∧ g = g1 ∧ ((v 14) < 40 → w15 = (v 15)) ∧ (40 ≤ (v 14) → w15 = 3)) := by
  refine GM.of (by decide) (Nat.le_of_ble_eq_true rfl) ?_
  intro p e s m args below meth c Q ls hQ C hml hr hlocks hP hl
  have hx := C.1
  have hb := C.2.1
  have hok := hP.2
  have hS : va_S A s.heap s.heap [] := va_S.rf
  have hl : lv_has ls 1 [(0, .ref (ad 21))] := hl
  have hP : gWd D (rwT k ad) (va_up (va_up v 14 (v 14)) 15 (v 15)) f g s.heap := by rw [va_id, va_id]; exact hP
  refine lv_aload_n hx hb dX1_countItem_0 rfl (lv_at hl 0 rfl) ?_
  refine lv_dup hx hb dX1_countItem_1 rfl ?_
  refine rwG_reader_expression_items C hP mF_X1_30 dX1_countItem_2 ?_
  show W p l e (gRm 0 0) s m args below meth c _ _ 0 0 Q (F0 m 5 ls [.int (iI (v 14)), .ref (ad 21)])
  have r_1 : 0 ≤ (v 14) ∧ (v 14) ≤ 41 := hok.1 14
  refine lv_iconst (v := iI 1) hx hb dX1_countItem_5 rfl ?_
  refine gi_add (z := ((v 14) + 1)) hx hb dX1_countItem_6 rfl ?_
  refine rwP_reader_expression_items (v1 := (va_up (va_up v 14 ((v 14) + 1)) 15 (v 15))) C hP hD hS mF_X1_30 (by omega) rfl (Or.inr (gR_up (V := rwV) (F := rwF) (gR_up (V := rwV) (F := rwF) ⟨hok.1, hok.2⟩ 14 (show 0 ≤ ((v 14) + 1) ∧ ((v 14) + 1) ≤ 41 from by omega)) 15 (hP.2.1 15))) dX1_countItem_7 (fun H locs hP hS => ?_)
  refine lv_aload_n hx hb dX1_countItem_10 rfl (lv_at hl 0 rfl) ?_
  refine rwG_reader_expression_items C hP mF_X1_30 dX1_countItem_11 ?_
  show W p l e (gRm 0 0) s m args below meth c _ _ 0 0 Q (F0 m 14 ls [.int (iI ((v 14) + 1))])
  have r_2 : 0 ≤ ((v 14) + 1) ∧ ((v 14) + 1) ≤ 41 := hP.2.1 14
  refine lv_bipush (v := iI 40) hx hb dX1_countItem_14 (by decide) ?_
  refine gi_cle (tgt := 24) hx hb dX1_countItem_16 (by decide) (by omega) (by decide) (fun c_3 => ?_) (fun c_3 => ?_)
  · exact g_vret hQ C hr hlocks hP hS dX1_countItem_24 ⟨(v 15), rfl, rfl, rfl, rfl, (by first | omega | (split <;> omega)), (by first | omega | (split <;> omega))⟩
  · refine lv_aload_n hx hb dX1_countItem_19 rfl (lv_at hl 0 rfl) ?_
    refine lv_iconst (v := iI 3) hx hb dX1_countItem_20 rfl ?_
    refine rwP_reader_expression_fault (v1 := (va_up (va_up v 14 ((v 14) + 1)) 15 3)) C hP hD hS mF_X1_31 (by decide) rfl (Or.inr (gR_up (V := rwV) (F := rwF) (gR_up (V := rwV) (F := rwF) ⟨hok.1, hok.2⟩ 14 (hP.2.1 14)) 15 (show 0 ≤ 3 ∧ 3 ≤ 5 from by decide))) dX1_countItem_21 (fun H locs hP hS => ?_)
    exact g_vret hQ C hr hlocks hP hS dX1_countItem_24 ⟨3, rfl, rfl, rfl, rfl, (by first | omega | (split <;> omega)), (by first | omega | (split <;> omega))⟩

set_option maxHeartbeats 4000000 in
set_option maxRecDepth 100000 in
theorem e_Ex_await (l : Launch) (D : va_G) (k : Nat → ClassId) (A : Nat → Prop) (ad : Nat → Nat) (hD : rwD A k ad) (v : gV) (f g : gF) (a1 : Int) (h_a1 : inR a1) (h0 : (v 11) < 27) (h1 : 0 ≤ a1 ∧ a1 ≤ 11) : GM l D k A (rwT k ad) yX1_await cX1_await 2 none 0 0 [.ref (ad 21), .int (iI a1)] v f g (fun r v1 f1 g1 => r = none ∧ (va_up v 11 ((v 11) + 1)) = v1 ∧ (va_up f 14 (u1 (f 14) (v 11) a1)) = f1 ∧ g = g1) := by
  refine GM.of (by decide) (Nat.le_of_ble_eq_true rfl) ?_
  intro p e s m args below meth c Q ls hQ C hml hr hlocks hP hl
  have hx := C.1
  have hb := C.2.1
  have hok := hP.2
  have hS : va_S A s.heap s.heap [] := va_S.rf
  have hl : lv_has ls 2 [(0, .ref (ad 21)), (1, .int (iI a1))] := hl
  have hP : gWd D (rwT k ad) (va_up v 11 (v 11)) (va_up f 14 (f 14)) g s.heap := by rw [va_id, va_id]; exact hP
  refine lv_aload_n hx hb dX1_await_0 rfl (lv_at hl 0 rfl) ?_
  refine rwG_reader_expression_waits C hP mF_X1_21 dX1_await_1 ?_
  show W p l e (gRm 0 0) s m args below meth c _ _ 0 0 Q (F0 m 4 ls [.int (iI (v 11))])
  have r_1 : 0 ≤ (v 11) ∧ (v 11) ≤ 27 := hok.1 11
  refine lv_aload_n hx hb dX1_await_4 rfl (lv_at hl 0 rfl) ?_
  refine rwG_reader_expression_waiting C hP mF_X1_9 dX1_await_5 ?_
  refine rwN_reader_expression_waiting C hP dX1_await_8 ?_
  refine gi_cge (tgt := 32) hx hb dX1_await_9 (by decide) (by omega) (by decide) (fun c_2 => ?_) (fun c_2 => ?_)
  · exact g_vret hQ C hr hlocks hP hS dX1_await_32 ⟨rfl, (by rw [show (((v 11) + 1) : Int) = (v 11) from by omega]), (by rw [show ((u1 (f 14) (v 11) a1) : Int → Int) = (f 14) from by omega]), rfl⟩
  · refine lv_aload_n hx hb dX1_await_12 rfl (lv_at hl 0 rfl) ?_
    refine rwG_reader_expression_waiting C hP mF_X1_9 dX1_await_13 ?_
    refine lv_aload_n hx hb dX1_await_16 rfl (lv_at hl 0 rfl) ?_
    refine rwG_reader_expression_waits C hP mF_X1_21 dX1_await_17 ?_
    show W p l e (gRm 0 0) s m args below meth c _ _ 0 0 Q (F0 m 20 ls [.int (iI (v 11)), .ref (ad 22)])
    refine lv_iload_n hx hb dX1_await_20 rfl (lv_at hl 1 rfl) ?_
    refine rwS_reader_expression_waiting (f1 := (va_up f 14 (u1 (f 14) (v 11) a1))) C hP hD hS (by omega) (by omega) (by omega) rfl (Or.inr (gF_up (V := rwV) (F := rwF) (gR_up (V := rwV) (F := rwF) ⟨hok.1, hok.2⟩ 11 (hP.2.1 11)) 14 (u1_rng (hP.2.2 14) (show 0 ≤ a1 ∧ a1 ≤ 11 from (by omega))))) dX1_await_21 (fun H locs hP hS => ?_)
    refine lv_aload_n hx hb dX1_await_22 rfl (lv_at hl 0 rfl) ?_
    refine lv_dup hx hb dX1_await_23 rfl ?_
    refine rwG_reader_expression_waits C hP mF_X1_21 dX1_await_24 ?_
    show W p l e (gRm 0 0) s m args below meth c _ _ 0 0 Q (F0 m 27 ls [.int (iI (v 11)), .ref (ad 21)])
    refine lv_iconst (v := iI 1) hx hb dX1_await_27 rfl ?_
    refine gi_add (z := ((v 11) + 1)) hx hb dX1_await_28 rfl ?_
    refine rwP_reader_expression_waits (v1 := (va_up v 11 ((v 11) + 1))) C hP hD hS mF_X1_21 (by omega) rfl (Or.inr (gF_up (V := rwV) (F := rwF) (gR_up (V := rwV) (F := rwF) ⟨hok.1, hok.2⟩ 11 (show 0 ≤ ((v 11) + 1) ∧ ((v 11) + 1) ≤ 27 from by omega)) 14 (hP.2.2 14))) dX1_await_29 (fun H locs hP hS => ?_)
    exact g_vret hQ C hr hlocks hP hS dX1_await_32 ⟨rfl, rfl, rfl, rfl⟩

set_option maxHeartbeats 4000000 in
set_option maxRecDepth 100000 in
theorem e_Ex_nest (l : Launch) (D : va_G) (k : Nat → ClassId) (A : Nat → Prop) (ad : Nat → Nat) (hD : rwD A k ad) (v : gV) (f g : gF) (a1 : Int) (h_a1 : inR a1) (h0 : (v 11) < 27) (h2 : (v 12) ≤ 8) (h1 : 0 ≤ a1 ∧ a1 ≤ 11) : GM l D k A (rwT k ad) yX1_nest cX1_nest 2 none 1 21 [.ref (ad 21), .int (iI a1)] v f g (fun r v1 f1 g1 => ∃ (w15 : Int), r = none ∧ (va_up (va_up (va_up v 11 ((v 11) + 1)) 12 ((v 12) + 1)) 15 w15) = v1 ∧ (va_up f 14 (u1 (f 14) (v 11) a1)) = f1 ∧ g = g1 ∧ ((v 12) < 8 → w15 = (v 15)) ∧ (8 ≤ (v 12) → w15 = 3)) := by
  refine GM.of (by decide) (Nat.le_of_ble_eq_true rfl) ?_
  intro p e s m args below meth c Q ls hQ C hml hr hlocks hP hl
  have hx := C.1
  have hb := C.2.1
  have hok := hP.2
  have hS : va_S A s.heap s.heap [] := va_S.rf
  have hl : lv_has ls 2 [(0, .ref (ad 21)), (1, .int (iI a1))] := hl
  have hP : gWd D (rwT k ad) (va_up (va_up (va_up v 11 (v 11)) 12 (v 12)) 15 (v 15)) (va_up f 14 (f 14)) g s.heap := by rw [va_id, va_id, va_id, va_id]; exact hP
  refine lv_aload_n hx hb dX1_nest_0 rfl (lv_at hl 0 rfl) ?_
  refine lv_dup hx hb dX1_nest_1 rfl ?_
  refine rwG_reader_expression_nested C hP mF_X1_24 dX1_nest_2 ?_
  show W p l e (gRm 1 21) s m args below meth c _ _ 0 0 Q (F0 m 5 ls [.int (iI (v 12)), .ref (ad 21)])
  have r_1 : 0 ≤ (v 12) ∧ (v 12) ≤ 9 := hok.1 12
  refine lv_iconst (v := iI 1) hx hb dX1_nest_5 rfl ?_
  refine gi_add (z := ((v 12) + 1)) hx hb dX1_nest_6 rfl ?_
  refine rwP_reader_expression_nested (v1 := (va_up (va_up (va_up v 11 (v 11)) 12 ((v 12) + 1)) 15 (v 15))) C hP hD hS mF_X1_24 (by omega) rfl (Or.inr (gF_up (V := rwV) (F := rwF) (gR_up (V := rwV) (F := rwF) (gR_up (V := rwV) (F := rwF) (gR_up (V := rwV) (F := rwF) ⟨hok.1, hok.2⟩ 11 (hP.2.1 11)) 12 (show 0 ≤ ((v 12) + 1) ∧ ((v 12) + 1) ≤ 9 from by omega)) 15 (hP.2.1 15)) 14 (hP.2.2 14))) dX1_nest_7 (fun H locs hP hS => ?_)
  refine lv_aload_n hx hb dX1_nest_10 rfl (lv_at hl 0 rfl) ?_
  refine rwG_reader_expression_nested C hP mF_X1_24 dX1_nest_11 ?_
  show W p l e (gRm 1 21) s m args below meth c _ _ 0 0 Q (F0 m 14 ls [.int (iI ((v 12) + 1))])
  have r_2 : 0 ≤ ((v 12) + 1) ∧ ((v 12) + 1) ≤ 9 := hP.2.1 12
  refine lv_bipush (v := iI 8) hx hb dX1_nest_14 (by decide) ?_
  refine gi_cle (tgt := 24) hx hb dX1_nest_16 (by decide) (by omega) (by decide) (fun c_3 => ?_) (fun c_3 => ?_)
  · refine lv_aload_n hx hb dX1_nest_24 rfl (lv_at hl 0 rfl) ?_
    refine lv_iload_n hx hb dX1_nest_25 rfl (lv_at hl 1 rfl) ?_
    refine g_cv (As := [.int (iI a1)]) (rest := []) (n := 1) C hml (e_Ex_await l D k A ad hD (va_up (va_up (va_up v 11 (v 11)) 12 ((v 12) + 1)) 15 (v 15)) (va_up f 14 (f 14)) g a1 (by omega) (show (v 11) < 27 from by omega) (show 0 ≤ a1 ∧ a1 ≤ 11 from by omega)) mM_X1_82 mI_X1_await mE_X1_await mN_X1 mC_X1_await (by decide +kernel) 21 (ci := 1) rfl rfl hP hS (fun _ h => h) ⟨Nat.le_of_ble_eq_true rfl, Nat.le_of_ble_eq_true rfl⟩ ⟨Nat.zero_le _, Nat.zero_le _⟩ hl.1 rfl rfl (Nat.le_of_ble_eq_true rfl) dX1_nest_26 (fun r_4 v_4 f_4 g_4 H locs hq_4 hP _ hS => ?_)
    obtain ⟨rfl, rfl, rfl, rfl⟩ := hq_4
    show W p l e (gRm 1 21) s m args below meth c _ _ 0 0 Q (F0 m 29 ls [])
    have hP : gWd D (rwT k ad) (va_up (va_up (va_up v 11 ((v 11) + 1)) 12 ((v 12) + 1)) 15 (v 15)) (va_up f 14 (u1 (f 14) (v 11) a1)) g H := ⟨hP.1, (gF_up (V := rwV) (F := rwF) (gR_up (V := rwV) (F := rwF) (gR_up (V := rwV) (F := rwF) (gR_up (V := rwV) (F := rwF) ⟨hok.1, hok.2⟩ 11 (hP.2.1 11)) 12 (hP.2.1 12)) 15 (hP.2.1 15)) 14 (hP.2.2 14))⟩
    exact g_vret hQ C hr hlocks hP hS dX1_nest_29 ⟨(v 15), rfl, rfl, rfl, rfl, (by first | omega | (split <;> omega)), (by first | omega | (split <;> omega))⟩
  · refine lv_aload_n hx hb dX1_nest_19 rfl (lv_at hl 0 rfl) ?_
    refine lv_iconst (v := iI 3) hx hb dX1_nest_20 rfl ?_
    refine rwP_reader_expression_fault (v1 := (va_up (va_up (va_up v 11 (v 11)) 12 ((v 12) + 1)) 15 3)) C hP hD hS mF_X1_31 (by decide) rfl (Or.inr (gF_up (V := rwV) (F := rwF) (gR_up (V := rwV) (F := rwF) (gR_up (V := rwV) (F := rwF) (gR_up (V := rwV) (F := rwF) ⟨hok.1, hok.2⟩ 11 (hP.2.1 11)) 12 (hP.2.1 12)) 15 (show 0 ≤ 3 ∧ 3 ≤ 5 from by decide)) 14 (hP.2.2 14))) dX1_nest_21 (fun H locs hP hS => ?_)
    refine lv_aload_n hx hb dX1_nest_24 rfl (lv_at hl 0 rfl) ?_
    refine lv_iload_n hx hb dX1_nest_25 rfl (lv_at hl 1 rfl) ?_
    refine g_cv (As := [.int (iI a1)]) (rest := []) (n := 1) C hml (e_Ex_await l D k A ad hD (va_up (va_up (va_up v 11 (v 11)) 12 ((v 12) + 1)) 15 3) (va_up f 14 (f 14)) g a1 (by omega) (show (v 11) < 27 from by omega) (show 0 ≤ a1 ∧ a1 ≤ 11 from by omega)) mM_X1_82 mI_X1_await mE_X1_await mN_X1 mC_X1_await (by decide +kernel) 21 (ci := 1) rfl rfl hP hS (fun _ h => h) ⟨Nat.le_of_ble_eq_true rfl, Nat.le_of_ble_eq_true rfl⟩ ⟨Nat.zero_le _, Nat.zero_le _⟩ hl.1 rfl rfl (Nat.le_of_ble_eq_true rfl) dX1_nest_26 (fun r_5 v_5 f_5 g_5 H locs hq_5 hP _ hS => ?_)
    obtain ⟨rfl, rfl, rfl, rfl⟩ := hq_5
    show W p l e (gRm 1 21) s m args below meth c _ _ 0 0 Q (F0 m 29 ls [])
    have hP : gWd D (rwT k ad) (va_up (va_up (va_up v 11 ((v 11) + 1)) 12 ((v 12) + 1)) 15 3) (va_up f 14 (u1 (f 14) (v 11) a1)) g H := ⟨hP.1, (gF_up (V := rwV) (F := rwF) (gR_up (V := rwV) (F := rwF) (gR_up (V := rwV) (F := rwF) (gR_up (V := rwV) (F := rwF) ⟨hok.1, hok.2⟩ 11 (hP.2.1 11)) 12 (hP.2.1 12)) 15 (hP.2.1 15)) 14 (hP.2.2 14))⟩
    exact g_vret hQ C hr hlocks hP hS dX1_nest_29 ⟨3, rfl, rfl, rfl, rfl, (by first | omega | (split <;> omega)), (by first | omega | (split <;> omega))⟩

set_option maxHeartbeats 4000000 in
set_option maxRecDepth 100000 in
theorem e_La_addItem (l : Launch) (D : va_G) (k : Nat → ClassId) (A : Nat → Prop) (ad : Nat → Nat) (hD : rwD A k ad) (v : gV) (f g : gF) (a1 : Int) (a2 : Int) (h_a1 : inR a1) (h_a2 : inR a2) (h1 : 0 ≤ a1 ∧ a1 ≤ 10) (h2 : 0 ≤ a2 ∧ a2 ≤ 999999) : GM l D k A (rwT k ad) yX4_addItem cX4_addItem 3 none 0 0 [.ref (ad 14), .int (iI a1), .int (iI a2)] v f g (fun r v1 f1 g1 => ∃ (w8 : Int) (a10_ : Int → Int) (a11_ : Int → Int), r = none ∧ (va_up v 8 w8) = v1 ∧ (va_up (va_up f 10 a10_) 11 a11_) = f1 ∧ g = g1 ∧ ((v 8) < 40 → w8 = (v 8) + 1 ∧ a10_ = u1 (f 10) (v 8) a1 ∧ a11_ = u1 (f 11) (v 8) a2)) := by
  refine GM.of (by decide) (Nat.le_of_ble_eq_true rfl) ?_
  intro p e s m args below meth c Q ls hQ C hml hr hlocks hP hl
  have hx := C.1
  have hb := C.2.1
  have hok := hP.2
  have hS : va_S A s.heap s.heap [] := va_S.rf
  have hl : lv_has ls 3 [(0, .ref (ad 14)), (1, .int (iI a1)), (2, .int (iI a2))] := hl
  have hP : gWd D (rwT k ad) (va_up v 8 (v 8)) (va_up (va_up f 10 (f 10)) 11 (f 11)) g s.heap := by rw [va_id, va_id, va_id]; exact hP
  refine lv_aload_n hx hb dX4_addItem_0 rfl (lv_at hl 0 rfl) ?_
  refine rwG_reader_draft_items C hP mF_X4_35 dX4_addItem_1 ?_
  show W p l e (gRm 0 0) s m args below meth c _ _ 0 0 Q (F0 m 4 ls [.int (iI (v 8))])
  have r_1 : 0 ≤ (v 8) ∧ (v 8) ≤ 40 := hok.1 8
  refine lv_bipush (v := iI 40) hx hb dX4_addItem_4 (by decide) ?_
  refine gi_cge (tgt := 39) hx hb dX4_addItem_6 (by decide) (by omega) (by decide) (fun c_2 => ?_) (fun c_2 => ?_)
  · exact g_vret hQ C hr hlocks hP hS dX4_addItem_39 ⟨(v 8), (f 10), (f 11), rfl, rfl, rfl, rfl, (by first | exact fun _ => ⟨rfl, rfl, rfl⟩ | (intro h; exfalso; omega))⟩
  · refine lv_aload_n hx hb dX4_addItem_9 rfl (lv_at hl 0 rfl) ?_
    refine rwG_reader_draft_item C hP mF_X4_15 dX4_addItem_10 ?_
    refine lv_aload_n hx hb dX4_addItem_13 rfl (lv_at hl 0 rfl) ?_
    refine rwG_reader_draft_items C hP mF_X4_35 dX4_addItem_14 ?_
    show W p l e (gRm 0 0) s m args below meth c _ _ 0 0 Q (F0 m 17 ls [.int (iI (v 8)), .ref (ad 16)])
    refine lv_iload_n hx hb dX4_addItem_17 rfl (lv_at hl 1 rfl) ?_
    refine rwS_reader_draft_item (f1 := (va_up (va_up f 10 (u1 (f 10) (v 8) a1)) 11 (f 11))) C hP hD hS (by omega) (by omega) (by omega) rfl (Or.inr (gF_up (V := rwV) (F := rwF) (gF_up (V := rwV) (F := rwF) (gR_up (V := rwV) (F := rwF) ⟨hok.1, hok.2⟩ 8 (hP.2.1 8)) 10 (u1_rng (hP.2.2 10) (show 0 ≤ a1 ∧ a1 ≤ 10 from (by omega)))) 11 (hP.2.2 11))) dX4_addItem_18 (fun H locs hP hS => ?_)
    refine lv_aload_n hx hb dX4_addItem_19 rfl (lv_at hl 0 rfl) ?_
    refine rwG_reader_draft_number C hP mF_X4_18 dX4_addItem_20 ?_
    refine lv_aload_n hx hb dX4_addItem_23 rfl (lv_at hl 0 rfl) ?_
    refine rwG_reader_draft_items C hP mF_X4_35 dX4_addItem_24 ?_
    show W p l e (gRm 0 0) s m args below meth c _ _ 0 0 Q (F0 m 27 ls [.int (iI (v 8)), .ref (ad 17)])
    refine lv_iload_n hx hb dX4_addItem_27 rfl (lv_at hl 2 rfl) ?_
    refine rwS_reader_draft_number (f1 := (va_up (va_up f 10 (u1 (f 10) (v 8) a1)) 11 (u1 (f 11) (v 8) a2))) C hP hD hS (by omega) (by omega) (by omega) rfl (Or.inr (gF_up (V := rwV) (F := rwF) (gF_up (V := rwV) (F := rwF) (gR_up (V := rwV) (F := rwF) ⟨hok.1, hok.2⟩ 8 (hP.2.1 8)) 10 (hP.2.2 10)) 11 (u1_rng (hP.2.2 11) (show 0 ≤ a2 ∧ a2 ≤ 999999 from (by omega))))) dX4_addItem_28 (fun H locs hP hS => ?_)
    refine lv_aload_n hx hb dX4_addItem_29 rfl (lv_at hl 0 rfl) ?_
    refine lv_dup hx hb dX4_addItem_30 rfl ?_
    refine rwG_reader_draft_items C hP mF_X4_35 dX4_addItem_31 ?_
    show W p l e (gRm 0 0) s m args below meth c _ _ 0 0 Q (F0 m 34 ls [.int (iI (v 8)), .ref (ad 14)])
    refine lv_iconst (v := iI 1) hx hb dX4_addItem_34 rfl ?_
    refine gi_add (z := ((v 8) + 1)) hx hb dX4_addItem_35 rfl ?_
    refine rwP_reader_draft_items (v1 := (va_up v 8 ((v 8) + 1))) C hP hD hS mF_X4_35 (by omega) rfl (Or.inr (gF_up (V := rwV) (F := rwF) (gF_up (V := rwV) (F := rwF) (gR_up (V := rwV) (F := rwF) ⟨hok.1, hok.2⟩ 8 (show 0 ≤ ((v 8) + 1) ∧ ((v 8) + 1) ≤ 40 from by omega)) 10 (hP.2.2 10)) 11 (hP.2.2 11))) dX4_addItem_36 (fun H locs hP hS => ?_)
    exact g_vret hQ C hr hlocks hP hS dX4_addItem_39 ⟨((v 8) + 1), (u1 (f 10) (v 8) a1), (u1 (f 11) (v 8) a2), rfl, rfl, rfl, rfl, (by first | exact fun _ => ⟨rfl, rfl, rfl⟩ | (intro h; exfalso; omega))⟩

set_option maxHeartbeats 4000000 in
set_option maxRecDepth 100000 in
theorem e_Ex_releaseNegations (l : Launch) (D : va_G) (k : Nat → ClassId) (A : Nat → Prop) (ad : Nat → Nat) (hD : rwD A k ad) (v : gV) (f g : gF) (SS : List Int) (EE : List (Int × Int)) (gg : Prop) (hw : wfS SS) (hrS : rep SS (f 14) (v 11)) (hn : (v 12) = cNs SS) (hk : gg → repC id EE (f 10) (f 11) (v 8) ∧ (EE.length : Int) + cSg SS ≤ 40) : GM l D k A (rwT k ad) yX1_releaseNegations cX1_releaseNegations 2 none 1 22 [.ref (ad 21), .ref (ad 14)] v f g (fun r v1 f1 g1 => ∃ (w8 : Int) (w11 : Int) (w12 : Int) (a10_ : Int → Int) (a11_ : Int → Int), r = none ∧ (va_up (va_up (va_up v 8 w8) 11 w11) 12 w12) = v1 ∧ (va_up (va_up f 10 a10_) 11 a11_) = f1 ∧ g = g1 ∧ (rep (rlN SS EE).1 (f 14) w11) ∧ (w12 = cNs (rlN SS EE).1) ∧ (gg → repC id (rlN SS EE).2 a10_ a11_ w8)) := by
  refine GM.of (by decide) (Nat.le_of_ble_eq_true rfl) ?_
  intro p e s m args below meth c Q ls hQ C hml hr hlocks hP hl
  have hx := C.1
  have hb := C.2.1
  have hok := hP.2
  have hS : va_S A s.heap s.heap [] := va_S.rf
  have hl : lv_has ls 2 [(0, .ref (ad 21)), (1, .ref (ad 14))] := hl
  have hP : gWd D (rwT k ad) (va_up (va_up (va_up v 8 (v 8)) 11 (v 11)) 12 (v 12)) (va_up (va_up f 10 (f 10)) 11 (f 11)) g s.heap := by rw [va_id, va_id, va_id, va_id, va_id]; exact hP
  have r_1 : 0 ≤ (v 11) ∧ (v 11) ≤ 27 := hok.1 11
  have r_2 : 0 ≤ (v 12) ∧ (v 12) ≤ 9 := hok.1 12
  have L_3 : ∀ (n : Nat) (S1 : List Int) (E1 : List (Int × Int)) (y8_3 : Int) (y11_3 : Int) (y12_3 : Int) (c10_3 : Int → Int) (c11_3 : Int → Int) (H : Heap) (locs : List Loc) (ls : Array Slot), y11_3 < (n : Int) → (wfS S1) → (rep S1 (f 14) y11_3) → (y12_3 = cNs S1) → (gg → repC id E1 c10_3 c11_3 y8_3 ∧ (E1.length : Int) + cSg S1 ≤ 40) → (rlN S1 E1 = rlN SS EE) → gWd D (rwT k ad) (va_up (va_up (va_up v 8 y8_3) 11 y11_3) 12 y12_3) (va_up (va_up f 10 c10_3) 11 c11_3) g H → va_S A s.heap H locs → lv_has ls 2 [(0, .ref (ad 21)), (1, .ref (ad 14))] → W p l e (gRm 1 22) s m args below meth c H locs 0 0 Q (F0 m 0 ls []) := by
    intro n
    induction n with
    | zero =>
      intro S1 E1 y8_3 y11_3 y12_3 c10_3 c11_3 H locs ls hn_3 i3_0 i3_1 i3_2 i3_3 i3_4 hP hS hl
      have ry8_3 : 0 ≤ y8_3 ∧ y8_3 ≤ 40 := hP.2.1 8
      have ry11_3 : 0 ≤ y11_3 ∧ y11_3 ≤ 27 := hP.2.1 11
      have ry12_3 : 0 ≤ y12_3 ∧ y12_3 ≤ 9 := hP.2.1 12
      exfalso; omega
    | succ n ih_0 =>
      intro S1 E1 y8_3 y11_3 y12_3 c10_3 c11_3 H locs ls hn_3 i3_0 i3_1 i3_2 i3_3 i3_4 hP hS hl
      have ry8_3 : 0 ≤ y8_3 ∧ y8_3 ≤ 40 := hP.2.1 8
      have ry11_3 : 0 ≤ y11_3 ∧ y11_3 ≤ 27 := hP.2.1 11
      have ry12_3 : 0 ≤ y12_3 ∧ y12_3 ≤ 9 := hP.2.1 12
      have hw1 := i3_0
      have hr1 := i3_1
      have hln := rep_len _ _ _ hr1
      have ht1 : 0 < y11_3 → (f 14) (y11_3 - 1) = hdS S1 := fun h => (rep_top hr1 h).1
      have hne : 0 < y11_3 → S1 ≠ [] := fun h e => by have := (rep_nil hr1).mpr e; omega
      have h00 : y11_3 = 0 → hdS S1 = 0 := fun h => by rw [(rep_nil hr1).mp h]; rfl
      have hct := fun h => cnt_tail (S := S1) (hne h)
      have hps := cnt_pos S1.tail
      have hhd : 0 < y11_3 → 7 ≤ hdS S1 ∧ hdS S1 ≤ 11 := fun h => wfS_hd hw1 (hne h)
      have hk1 := i3_3
      have hT1 := i3_4
      refine lv_aload_n hx hb dX1_releaseNegations_0 rfl (lv_at hl 0 rfl) ?_
      refine rwG_reader_expression_waits C hP mF_X1_21 dX1_releaseNegations_1 ?_
      show W p l e (gRm 1 22) s m args below meth c _ _ 0 0 Q (F0 m 4 ls [.int (iI y11_3)])
      have r_4 : 0 ≤ y11_3 ∧ y11_3 ≤ 27 := hP.2.1 11
      refine gi_zle (tgt := 53) hx hb dX1_releaseNegations_4 (by decide) (by omega) (fun c_5 => ?_) (fun c_5 => ?_)
      · exact g_vret hQ C hr hlocks hP hS dX1_releaseNegations_53 ⟨y8_3, y11_3, y12_3, c10_3, c11_3, rfl, rfl, rfl, rfl, (by rw [← hT1, rlN_stop (by omega)]; exact hr1), (by rw [← hT1, rlN_stop (by omega)]; omega), (fun hg => by rw [← hT1, rlN_stop (by omega)]; exact (hk1 hg).1)⟩
      · refine lv_aload_n hx hb dX1_releaseNegations_7 rfl (lv_at hl 0 rfl) ?_
        refine rwG_reader_expression_waiting C hP mF_X1_9 dX1_releaseNegations_8 ?_
        refine lv_aload_n hx hb dX1_releaseNegations_11 rfl (lv_at hl 0 rfl) ?_
        refine rwG_reader_expression_waits C hP mF_X1_21 dX1_releaseNegations_12 ?_
        show W p l e (gRm 1 22) s m args below meth c _ _ 0 0 Q (F0 m 15 ls [.int (iI y11_3), .ref (ad 22)])
        refine lv_iconst (v := iI 1) hx hb dX1_releaseNegations_15 rfl ?_
        refine gi_sub (z := (y11_3 - 1)) hx hb dX1_releaseNegations_16 rfl ?_
        refine rwL_reader_expression_waiting C hP (by omega) (by omega) dX1_releaseNegations_17 ?_
        show W p l e (gRm 1 22) s m args below meth c _ _ 0 0 Q (F0 m 18 ls [.int (iI (f 14 (y11_3 - 1)))])
        have r_6 : 0 ≤ (f 14 (y11_3 - 1)) ∧ (f 14 (y11_3 - 1)) ≤ 11 := hP.2.2 14 (y11_3 - 1)
        refine lv_bipush (v := iI 10) hx hb dX1_releaseNegations_18 (by decide) ?_
        refine gi_cne (tgt := 53) hx hb dX1_releaseNegations_20 (by decide) (by omega) (by decide) (fun c_7 => ?_) (fun c_7 => ?_)
        · exact g_vret hQ C hr hlocks hP hS dX1_releaseNegations_53 ⟨y8_3, y11_3, y12_3, c10_3, c11_3, rfl, rfl, rfl, rfl, (by rw [← hT1, rlN_stop (by omega)]; exact hr1), (by rw [← hT1, rlN_stop (by omega)]; omega), (fun hg => by rw [← hT1, rlN_stop (by omega)]; exact (hk1 hg).1)⟩
        · refine lv_aload_n hx hb dX1_releaseNegations_23 rfl (lv_at hl 0 rfl) ?_
          refine lv_dup hx hb dX1_releaseNegations_24 rfl ?_
          refine rwG_reader_expression_waits C hP mF_X1_21 dX1_releaseNegations_25 ?_
          show W p l e (gRm 1 22) s m args below meth c _ _ 0 0 Q (F0 m 28 ls [.int (iI y11_3), .ref (ad 21)])
          refine lv_iconst (v := iI 1) hx hb dX1_releaseNegations_28 rfl ?_
          refine gi_sub (z := (y11_3 - 1)) hx hb dX1_releaseNegations_29 rfl ?_
          refine rwP_reader_expression_waits (v1 := (va_up (va_up (va_up v 8 y8_3) 11 (y11_3 - 1)) 12 y12_3)) C hP hD hS mF_X1_21 (by omega) rfl (Or.inr (gF_up (V := rwV) (F := rwF) (gF_up (V := rwV) (F := rwF) (gR_up (V := rwV) (F := rwF) (gR_up (V := rwV) (F := rwF) (gR_up (V := rwV) (F := rwF) ⟨hok.1, hok.2⟩ 8 (hP.2.1 8)) 11 (show 0 ≤ (y11_3 - 1) ∧ (y11_3 - 1) ≤ 27 from by omega)) 12 (hP.2.1 12)) 10 (hP.2.2 10)) 11 (hP.2.2 11))) dX1_releaseNegations_30 (fun H locs hP hS => ?_)
          refine lv_aload_n hx hb dX1_releaseNegations_33 rfl (lv_at hl 0 rfl) ?_
          refine lv_dup hx hb dX1_releaseNegations_34 rfl ?_
          have hct2 := hct (by omega)
          refine rwG_reader_expression_nested C hP mF_X1_24 dX1_releaseNegations_35 ?_
          show W p l e (gRm 1 22) s m args below meth c _ _ 0 0 Q (F0 m 38 ls [.int (iI y12_3), .ref (ad 21)])
          have r_8 : 0 ≤ y12_3 ∧ y12_3 ≤ 9 := hP.2.1 12
          refine lv_iconst (v := iI 1) hx hb dX1_releaseNegations_38 rfl ?_
          refine gi_sub (z := (y12_3 - 1)) hx hb dX1_releaseNegations_39 rfl ?_
          refine rwP_reader_expression_nested (v1 := (va_up (va_up (va_up v 8 y8_3) 11 (y11_3 - 1)) 12 (y12_3 - 1))) C hP hD hS mF_X1_24 (by omega) rfl (Or.inr (gF_up (V := rwV) (F := rwF) (gF_up (V := rwV) (F := rwF) (gR_up (V := rwV) (F := rwF) (gR_up (V := rwV) (F := rwF) (gR_up (V := rwV) (F := rwF) ⟨hok.1, hok.2⟩ 8 (hP.2.1 8)) 11 (hP.2.1 11)) 12 (show 0 ≤ (y12_3 - 1) ∧ (y12_3 - 1) ≤ 9 from by omega)) 10 (hP.2.2 10)) 11 (hP.2.2 11))) dX1_releaseNegations_40 (fun H locs hP hS => ?_)
          refine lv_aload_n hx hb dX1_releaseNegations_43 rfl (lv_at hl 1 rfl) ?_
          refine lv_bipush (v := iI 10) hx hb dX1_releaseNegations_44 (by decide) ?_
          refine lv_iconst (v := iI 0) hx hb dX1_releaseNegations_46 rfl ?_
          refine g_cv (As := [.int (iI 10), .int (iI 0)]) (rest := []) (n := 2) C hml (e_La_addItem l D k A ad hD (va_up (va_up (va_up v 8 y8_3) 11 (y11_3 - 1)) 12 (y12_3 - 1)) (va_up (va_up f 10 c10_3) 11 c11_3) g 10 0 (by decide) (by decide) (show 0 ≤ (10 : Int) ∧ (10 : Int) ≤ 10 from by omega) (show 0 ≤ (0 : Int) ∧ (0 : Int) ≤ 999999 from by omega)) mM_X1_61 mI_X4_addItem mE_X4_addItem mN_X4 mC_X4_addItem (by decide +kernel) 14 (ci := 4) rfl rfl hP hS (fun _ h => h) ⟨Nat.le_of_ble_eq_true rfl, Nat.le_of_ble_eq_true rfl⟩ ⟨Nat.zero_le _, Nat.zero_le _⟩ hl.1 rfl rfl (Nat.le_of_ble_eq_true rfl) dX1_releaseNegations_47 (fun r_9 v_9 f_9 g_9 H locs hq_9 hP _ hS => ?_)
          obtain ⟨w8_9, a10_9, a11_9, rfl, rfl, rfl, rfl, p0_9⟩ := hq_9
          show W p l e (gRm 1 22) s m args below meth c _ _ 0 0 Q (F0 m 50 ls [])
          have hP : gWd D (rwT k ad) (va_up (va_up (va_up v 8 w8_9) 11 (y11_3 - 1)) 12 (y12_3 - 1)) (va_up (va_up f 10 a10_9) 11 a11_9) g H := ⟨hP.1, (gF_up (V := rwV) (F := rwF) (gF_up (V := rwV) (F := rwF) (gR_up (V := rwV) (F := rwF) (gR_up (V := rwV) (F := rwF) (gR_up (V := rwV) (F := rwF) ⟨hok.1, hok.2⟩ 8 (hP.2.1 8)) 11 (hP.2.1 11)) 12 (hP.2.1 12)) 10 (hP.2.2 10)) 11 (hP.2.2 11))⟩
          replace p0_9 : y8_3 < 40 → w8_9 = y8_3 + 1 ∧ a10_9 = u1 c10_3 y8_3 (10 : Int) ∧ a11_9 = u1 c11_3 y8_3 (0 : Int) := p0_9
          have rw8_9 : 0 ≤ w8_9 ∧ w8_9 ≤ 40 := hP.2.1 8
          have hAd := p0_9
          refine lv_goto (tgt := 0) hx hb dX1_releaseNegations_50 (by decide) ?_
          exact ih_0 (S1.tail) ((10, 0) :: E1) w8_9 (y11_3 - 1) (y12_3 - 1) a10_9 a11_9 _ _ _ (by omega) (wfS_tail hw1) ((rep_top hr1 (by omega)).2) (by have := hct (by omega); omega) (fun hg => by have hk2 := hk1 hg; have hlc := repC_len _ _ _ _ hk2.1; have h3 := hct (by omega); have h4 := hAd (by omega); rw [h4.1, h4.2.1, h4.2.2]; exact ⟨repC_push 10 hk2.1 rfl, by simp only [List.length_cons]; omega⟩) (by rw [← hT1]; exact (rlN_pop (by omega)).symm) hP hS (lv_sub hl [0, 1] rfl)
  exact L_3 28 (SS) (EE) (v 8) (v 11) (v 12) (f 10) (f 11) _ _ _ (by omega) hw hrS hn hk rfl hP hS (lv_sub hl [0, 1] rfl)

set_option maxHeartbeats 4000000 in
set_option maxRecDepth 100000 in
theorem e_Ex_release (l : Launch) (D : va_G) (k : Nat → ClassId) (A : Nat → Prop) (ad : Nat → Nat) (hD : rwD A k ad) (v : gV) (f g : gF) (a1 : Int) (SS : List Int) (EE : List (Int × Int)) (h_a1 : inR a1) (h1 : 7 ≤ a1 ∧ a1 ≤ 9) (hw : wfS SS) (hd : hdS SS ≠ 10) (hrS : rep SS (f 14) (v 11)) (hk : repC id EE (f 10) (f 11) (v 8) ∧ (EE.length : Int) + cSg SS ≤ 40) : GM l D k A (rwT k ad) yX1_release cX1_release 3 none 1 22 [.ref (ad 21), .int (iI a1), .ref (ad 14)] v f g (fun r v1 f1 g1 => ∃ (w8 : Int) (w11 : Int) (a10_ : Int → Int) (a11_ : Int → Int), r = none ∧ (va_up (va_up v 8 w8) 11 w11) = v1 ∧ (va_up (va_up f 10 a10_) 11 a11_) = f1 ∧ g = g1 ∧ (rep (rlS a1 SS EE).1 (f 14) w11) ∧ (repC id (rlS a1 SS EE).2 a10_ a11_ w8)) := by
  refine GM.of (by decide) (Nat.le_of_ble_eq_true rfl) ?_
  intro p e s m args below meth c Q ls hQ C hml hr hlocks hP hl
  have hx := C.1
  have hb := C.2.1
  have hok := hP.2
  have hS : va_S A s.heap s.heap [] := va_S.rf
  have hl : lv_has ls 3 [(0, .ref (ad 21)), (1, .int (iI a1)), (2, .ref (ad 14))] := hl
  have hP : gWd D (rwT k ad) (va_up (va_up v 8 (v 8)) 11 (v 11)) (va_up (va_up f 10 (f 10)) 11 (f 11)) g s.heap := by rw [va_id, va_id, va_id, va_id]; exact hP
  have r_1 : 0 ≤ (v 11) ∧ (v 11) ≤ 27 := hok.1 11
  have L_2 : ∀ (n : Nat) (S1 : List Int) (E1 : List (Int × Int)) (y8_2 : Int) (y11_2 : Int) (c10_2 : Int → Int) (c11_2 : Int → Int) (H : Heap) (locs : List Loc) (ls : Array Slot), y11_2 < (n : Int) → (wfS S1) → (rep S1 (f 14) y11_2) → (hdS S1 ≠ 10) → (repC id E1 c10_2 c11_2 y8_2 ∧ (E1.length : Int) + cSg S1 ≤ 40) → (rlS a1 S1 E1 = rlS a1 SS EE) → gWd D (rwT k ad) (va_up (va_up v 8 y8_2) 11 y11_2) (va_up (va_up f 10 c10_2) 11 c11_2) g H → va_S A s.heap H locs → lv_has ls 3 [(0, .ref (ad 21)), (1, .int (iI a1)), (2, .ref (ad 14))] → W p l e (gRm 1 22) s m args below meth c H locs 0 0 Q (F0 m 0 ls []) := by
    intro n
    induction n with
    | zero =>
      intro S1 E1 y8_2 y11_2 c10_2 c11_2 H locs ls hn_2 i2_0 i2_1 i2_2 i2_3 i2_4 hP hS hl
      have ry8_2 : 0 ≤ y8_2 ∧ y8_2 ≤ 40 := hP.2.1 8
      have ry11_2 : 0 ≤ y11_2 ∧ y11_2 ≤ 27 := hP.2.1 11
      exfalso; omega
    | succ n ih_0 =>
      intro S1 E1 y8_2 y11_2 c10_2 c11_2 H locs ls hn_2 i2_0 i2_1 i2_2 i2_3 i2_4 hP hS hl
      have ry8_2 : 0 ≤ y8_2 ∧ y8_2 ≤ 40 := hP.2.1 8
      have ry11_2 : 0 ≤ y11_2 ∧ y11_2 ≤ 27 := hP.2.1 11
      have hw1 := i2_0
      have hr1 := i2_1
      have hln := rep_len _ _ _ hr1
      have ht1 : 0 < y11_2 → (f 14) (y11_2 - 1) = hdS S1 := fun h => (rep_top hr1 h).1
      have hne : 0 < y11_2 → S1 ≠ [] := fun h e => by have := (rep_nil hr1).mpr e; omega
      have h00 : y11_2 = 0 → hdS S1 = 0 := fun h => by rw [(rep_nil hr1).mp h]; rfl
      have hct := fun h => cnt_tail (S := S1) (hne h)
      have hps := cnt_pos S1.tail
      have hhd : 0 < y11_2 → 7 ≤ hdS S1 ∧ hdS S1 ≤ 11 := fun h => wfS_hd hw1 (hne h)
      have hk1 := i2_3
      have hT1 := i2_4
      have hlc := repC_len _ _ _ _ hk1.1
      refine lv_aload_n hx hb dX1_release_0 rfl (lv_at hl 0 rfl) ?_
      refine rwG_reader_expression_waits C hP mF_X1_21 dX1_release_1 ?_
      show W p l e (gRm 1 22) s m args below meth c _ _ 0 0 Q (F0 m 4 ls [.int (iI y11_2)])
      have r_3 : 0 ≤ y11_2 ∧ y11_2 ≤ 27 := hP.2.1 11
      refine gi_zle (tgt := 72) hx hb dX1_release_4 (by decide) (by omega) (fun c_4 => ?_) (fun c_4 => ?_)
      · exact g_vret hQ C hr hlocks hP hS dX1_release_72 ⟨y8_2, y11_2, c10_2, c11_2, rfl, rfl, rfl, rfl, (by rw [← hT1, rlS_stop (by rcases Int.lt_or_le 0 y11_2 with h | h; exact Or.inr (by omega); exact Or.inl ((rep_nil hr1).mp (by omega)))]; exact hr1), (by rw [← hT1, rlS_stop (by rcases Int.lt_or_le 0 y11_2 with h | h; exact Or.inr (by omega); exact Or.inl ((rep_nil hr1).mp (by omega)))]; exact hk1.1)⟩
      · refine lv_aload_n hx hb dX1_release_7 rfl (lv_at hl 0 rfl) ?_
        refine rwG_reader_expression_waiting C hP mF_X1_9 dX1_release_8 ?_
        refine lv_aload_n hx hb dX1_release_11 rfl (lv_at hl 0 rfl) ?_
        refine rwG_reader_expression_waits C hP mF_X1_21 dX1_release_12 ?_
        show W p l e (gRm 1 22) s m args below meth c _ _ 0 0 Q (F0 m 15 ls [.int (iI y11_2), .ref (ad 22)])
        refine lv_iconst (v := iI 1) hx hb dX1_release_15 rfl ?_
        refine gi_sub (z := (y11_2 - 1)) hx hb dX1_release_16 rfl ?_
        refine rwL_reader_expression_waiting C hP (by omega) (by omega) dX1_release_17 ?_
        show W p l e (gRm 1 22) s m args below meth c _ _ 0 0 Q (F0 m 18 ls [.int (iI (f 14 (y11_2 - 1)))])
        have r_5 : 0 ≤ (f 14 (y11_2 - 1)) ∧ (f 14 (y11_2 - 1)) ≤ 11 := hP.2.2 14 (y11_2 - 1)
        refine lv_bipush (v := iI 11) hx hb dX1_release_18 (by decide) ?_
        refine gi_ceq (tgt := 72) hx hb dX1_release_20 (by decide) (by omega) (by decide) (fun c_6 => ?_) (fun c_6 => ?_)
        · exact g_vret hQ C hr hlocks hP hS dX1_release_72 ⟨y8_2, y11_2, c10_2, c11_2, rfl, rfl, rfl, rfl, (by rw [← hT1, rlS_stop (by rcases Int.lt_or_le 0 y11_2 with h | h; exact Or.inr (by omega); exact Or.inl ((rep_nil hr1).mp (by omega)))]; exact hr1), (by rw [← hT1, rlS_stop (by rcases Int.lt_or_le 0 y11_2 with h | h; exact Or.inr (by omega); exact Or.inl ((rep_nil hr1).mp (by omega)))]; exact hk1.1)⟩
        · refine lv_iload_n hx hb dX1_release_23 rfl (lv_at hl 1 rfl) ?_
          refine lv_bipush (v := iI 9) hx hb dX1_release_24 (by decide) ?_
          refine gi_cne (tgt := 45) hx hb dX1_release_26 (by decide) (by omega) (by decide) (fun c_7 => ?_) (fun c_7 => ?_)
          · refine lv_aload_n hx hb dX1_release_45 rfl (lv_at hl 0 rfl) ?_
            refine lv_dup hx hb dX1_release_46 rfl ?_
            refine rwG_reader_expression_waits C hP mF_X1_21 dX1_release_47 ?_
            show W p l e (gRm 1 22) s m args below meth c _ _ 0 0 Q (F0 m 50 ls [.int (iI y11_2), .ref (ad 21)])
            refine lv_iconst (v := iI 1) hx hb dX1_release_50 rfl ?_
            refine gi_sub (z := (y11_2 - 1)) hx hb dX1_release_51 rfl ?_
            refine rwP_reader_expression_waits (v1 := (va_up (va_up v 8 y8_2) 11 (y11_2 - 1))) C hP hD hS mF_X1_21 (by omega) rfl (Or.inr (gF_up (V := rwV) (F := rwF) (gF_up (V := rwV) (F := rwF) (gR_up (V := rwV) (F := rwF) (gR_up (V := rwV) (F := rwF) ⟨hok.1, hok.2⟩ 8 (hP.2.1 8)) 11 (show 0 ≤ (y11_2 - 1) ∧ (y11_2 - 1) ≤ 27 from by omega)) 10 (hP.2.2 10)) 11 (hP.2.2 11))) dX1_release_52 (fun H locs hP hS => ?_)
            refine lv_aload_n hx hb dX1_release_55 rfl (lv_at hl 2 rfl) ?_
            refine lv_aload_n hx hb dX1_release_56 rfl (lv_at hl 0 rfl) ?_
            refine rwG_reader_expression_waiting C hP mF_X1_9 dX1_release_57 ?_
            refine lv_aload_n hx hb dX1_release_60 rfl (lv_at hl 0 rfl) ?_
            refine rwG_reader_expression_waits C hP mF_X1_21 dX1_release_61 ?_
            show W p l e (gRm 1 22) s m args below meth c _ _ 0 0 Q (F0 m 64 ls [.int (iI (y11_2 - 1)), .ref (ad 22), .ref (ad 14)])
            have r_8 : 0 ≤ (y11_2 - 1) ∧ (y11_2 - 1) ≤ 27 := hP.2.1 11
            refine rwL_reader_expression_waiting C hP (by omega) (by omega) dX1_release_64 ?_
            show W p l e (gRm 1 22) s m args below meth c _ _ 0 0 Q (F0 m 65 ls [.int (iI (f 14 (y11_2 - 1))), .ref (ad 14)])
            refine lv_iconst (v := iI 0) hx hb dX1_release_65 rfl ?_
            refine g_cv (As := [.int (iI (f 14 (y11_2 - 1))), .int (iI 0)]) (rest := []) (n := 2) C hml (e_La_addItem l D k A ad hD (va_up (va_up v 8 y8_2) 11 (y11_2 - 1)) (va_up (va_up f 10 c10_2) 11 c11_2) g (f 14 (y11_2 - 1)) 0 (by omega) (by decide) (show 0 ≤ (f 14 (y11_2 - 1)) ∧ (f 14 (y11_2 - 1)) ≤ 10 from by omega) (show 0 ≤ (0 : Int) ∧ (0 : Int) ≤ 999999 from by omega)) mM_X1_61 mI_X4_addItem mE_X4_addItem mN_X4 mC_X4_addItem (by decide +kernel) 14 (ci := 4) rfl rfl hP hS (fun _ h => h) ⟨Nat.le_of_ble_eq_true rfl, Nat.le_of_ble_eq_true rfl⟩ ⟨Nat.zero_le _, Nat.zero_le _⟩ hl.1 rfl rfl (Nat.le_of_ble_eq_true rfl) dX1_release_66 (fun r_9 v_9 f_9 g_9 H locs hq_9 hP _ hS => ?_)
            obtain ⟨w8_9, a10_9, a11_9, rfl, rfl, rfl, rfl, p0_9⟩ := hq_9
            show W p l e (gRm 1 22) s m args below meth c _ _ 0 0 Q (F0 m 69 ls [])
            have hP : gWd D (rwT k ad) (va_up (va_up v 8 w8_9) 11 (y11_2 - 1)) (va_up (va_up f 10 a10_9) 11 a11_9) g H := ⟨hP.1, (gF_up (V := rwV) (F := rwF) (gF_up (V := rwV) (F := rwF) (gR_up (V := rwV) (F := rwF) (gR_up (V := rwV) (F := rwF) ⟨hok.1, hok.2⟩ 8 (hP.2.1 8)) 11 (hP.2.1 11)) 10 (hP.2.2 10)) 11 (hP.2.2 11))⟩
            replace p0_9 : y8_2 < 40 → w8_9 = y8_2 + 1 ∧ a10_9 = u1 c10_2 y8_2 (f 14 (y11_2 - 1)) ∧ a11_9 = u1 c11_2 y8_2 (0 : Int) := p0_9
            have rw8_9 : 0 ≤ w8_9 ∧ w8_9 ≤ 40 := hP.2.1 8
            have hAd := p0_9
            refine lv_goto (tgt := 0) hx hb dX1_release_69 (by decide) ?_
            exact ih_0 (S1.tail) ((hdS S1, 0) :: E1) w8_9 (y11_2 - 1) a10_9 a11_9 _ _ _ (by omega) (wfS_tail hw1) ((rep_top hr1 (by omega)).2) ((wfS_bel hw1 (hne (by omega)) (by omega)).1) (by have h3 := hct (by omega); have h4 := hAd (by omega); rw [h4.1, h4.2.1, h4.2.2]; exact ⟨repC_push (hdS S1) hk1.1 (by rw [id_x]; exact ht1 (by omega)), by simp only [List.length_cons]; omega⟩) (by rw [← hT1]; exact (rlS_pop (hne (by omega)) (by omega) (by omega)).symm) hP hS (lv_sub hl [0, 1, 2] rfl)
          · refine lv_aload_n hx hb dX1_release_29 rfl (lv_at hl 0 rfl) ?_
            refine rwG_reader_expression_waiting C hP mF_X1_9 dX1_release_30 ?_
            refine lv_aload_n hx hb dX1_release_33 rfl (lv_at hl 0 rfl) ?_
            refine rwG_reader_expression_waits C hP mF_X1_21 dX1_release_34 ?_
            show W p l e (gRm 1 22) s m args below meth c _ _ 0 0 Q (F0 m 37 ls [.int (iI y11_2), .ref (ad 22)])
            refine lv_iconst (v := iI 1) hx hb dX1_release_37 rfl ?_
            refine gi_sub (z := (y11_2 - 1)) hx hb dX1_release_38 rfl ?_
            refine rwL_reader_expression_waiting C hP (by omega) (by omega) dX1_release_39 ?_
            show W p l e (gRm 1 22) s m args below meth c _ _ 0 0 Q (F0 m 40 ls [.int (iI (f 14 (y11_2 - 1)))])
            refine lv_bipush (v := iI 9) hx hb dX1_release_40 (by decide) ?_
            refine gi_cne (tgt := 72) hx hb dX1_release_42 (by decide) (by omega) (by decide) (fun c_10 => ?_) (fun c_10 => ?_)
            · exact g_vret hQ C hr hlocks hP hS dX1_release_72 ⟨y8_2, y11_2, c10_2, c11_2, rfl, rfl, rfl, rfl, (by rw [← hT1, rlS_stop (by rcases Int.lt_or_le 0 y11_2 with h | h; exact Or.inr (by omega); exact Or.inl ((rep_nil hr1).mp (by omega)))]; exact hr1), (by rw [← hT1, rlS_stop (by rcases Int.lt_or_le 0 y11_2 with h | h; exact Or.inr (by omega); exact Or.inl ((rep_nil hr1).mp (by omega)))]; exact hk1.1)⟩
            · refine lv_aload_n hx hb dX1_release_45 rfl (lv_at hl 0 rfl) ?_
              refine lv_dup hx hb dX1_release_46 rfl ?_
              refine rwG_reader_expression_waits C hP mF_X1_21 dX1_release_47 ?_
              show W p l e (gRm 1 22) s m args below meth c _ _ 0 0 Q (F0 m 50 ls [.int (iI y11_2), .ref (ad 21)])
              refine lv_iconst (v := iI 1) hx hb dX1_release_50 rfl ?_
              refine gi_sub (z := (y11_2 - 1)) hx hb dX1_release_51 rfl ?_
              refine rwP_reader_expression_waits (v1 := (va_up (va_up v 8 y8_2) 11 (y11_2 - 1))) C hP hD hS mF_X1_21 (by omega) rfl (Or.inr (gF_up (V := rwV) (F := rwF) (gF_up (V := rwV) (F := rwF) (gR_up (V := rwV) (F := rwF) (gR_up (V := rwV) (F := rwF) ⟨hok.1, hok.2⟩ 8 (hP.2.1 8)) 11 (show 0 ≤ (y11_2 - 1) ∧ (y11_2 - 1) ≤ 27 from by omega)) 10 (hP.2.2 10)) 11 (hP.2.2 11))) dX1_release_52 (fun H locs hP hS => ?_)
              refine lv_aload_n hx hb dX1_release_55 rfl (lv_at hl 2 rfl) ?_
              refine lv_aload_n hx hb dX1_release_56 rfl (lv_at hl 0 rfl) ?_
              refine rwG_reader_expression_waiting C hP mF_X1_9 dX1_release_57 ?_
              refine lv_aload_n hx hb dX1_release_60 rfl (lv_at hl 0 rfl) ?_
              refine rwG_reader_expression_waits C hP mF_X1_21 dX1_release_61 ?_
              show W p l e (gRm 1 22) s m args below meth c _ _ 0 0 Q (F0 m 64 ls [.int (iI (y11_2 - 1)), .ref (ad 22), .ref (ad 14)])
              have r_11 : 0 ≤ (y11_2 - 1) ∧ (y11_2 - 1) ≤ 27 := hP.2.1 11
              refine rwL_reader_expression_waiting C hP (by omega) (by omega) dX1_release_64 ?_
              show W p l e (gRm 1 22) s m args below meth c _ _ 0 0 Q (F0 m 65 ls [.int (iI (f 14 (y11_2 - 1))), .ref (ad 14)])
              refine lv_iconst (v := iI 0) hx hb dX1_release_65 rfl ?_
              refine g_cv (As := [.int (iI (f 14 (y11_2 - 1))), .int (iI 0)]) (rest := []) (n := 2) C hml (e_La_addItem l D k A ad hD (va_up (va_up v 8 y8_2) 11 (y11_2 - 1)) (va_up (va_up f 10 c10_2) 11 c11_2) g (f 14 (y11_2 - 1)) 0 (by omega) (by decide) (show 0 ≤ (f 14 (y11_2 - 1)) ∧ (f 14 (y11_2 - 1)) ≤ 10 from by omega) (show 0 ≤ (0 : Int) ∧ (0 : Int) ≤ 999999 from by omega)) mM_X1_61 mI_X4_addItem mE_X4_addItem mN_X4 mC_X4_addItem (by decide +kernel) 14 (ci := 4) rfl rfl hP hS (fun _ h => h) ⟨Nat.le_of_ble_eq_true rfl, Nat.le_of_ble_eq_true rfl⟩ ⟨Nat.zero_le _, Nat.zero_le _⟩ hl.1 rfl rfl (Nat.le_of_ble_eq_true rfl) dX1_release_66 (fun r_12 v_12 f_12 g_12 H locs hq_12 hP _ hS => ?_)
              obtain ⟨w8_12, a10_12, a11_12, rfl, rfl, rfl, rfl, p0_12⟩ := hq_12
              show W p l e (gRm 1 22) s m args below meth c _ _ 0 0 Q (F0 m 69 ls [])
              have hP : gWd D (rwT k ad) (va_up (va_up v 8 w8_12) 11 (y11_2 - 1)) (va_up (va_up f 10 a10_12) 11 a11_12) g H := ⟨hP.1, (gF_up (V := rwV) (F := rwF) (gF_up (V := rwV) (F := rwF) (gR_up (V := rwV) (F := rwF) (gR_up (V := rwV) (F := rwF) ⟨hok.1, hok.2⟩ 8 (hP.2.1 8)) 11 (hP.2.1 11)) 10 (hP.2.2 10)) 11 (hP.2.2 11))⟩
              replace p0_12 : y8_2 < 40 → w8_12 = y8_2 + 1 ∧ a10_12 = u1 c10_2 y8_2 (f 14 (y11_2 - 1)) ∧ a11_12 = u1 c11_2 y8_2 (0 : Int) := p0_12
              have rw8_12 : 0 ≤ w8_12 ∧ w8_12 ≤ 40 := hP.2.1 8
              have hAd := p0_12
              refine lv_goto (tgt := 0) hx hb dX1_release_69 (by decide) ?_
              exact ih_0 (S1.tail) ((hdS S1, 0) :: E1) w8_12 (y11_2 - 1) a10_12 a11_12 _ _ _ (by omega) (wfS_tail hw1) ((rep_top hr1 (by omega)).2) ((wfS_bel hw1 (hne (by omega)) (by omega)).1) (by have h3 := hct (by omega); have h4 := hAd (by omega); rw [h4.1, h4.2.1, h4.2.2]; exact ⟨repC_push (hdS S1) hk1.1 (by rw [id_x]; exact ht1 (by omega)), by simp only [List.length_cons]; omega⟩) (by rw [← hT1]; exact (rlS_pop (hne (by omega)) (by omega) (by omega)).symm) hP hS (lv_sub hl [0, 1, 2] rfl)
  exact L_2 28 (SS) (EE) (v 8) (v 11) (f 10) (f 11) _ _ _ (by omega) hw hrS hd hk rfl hP hS (lv_sub hl [0, 1, 2] rfl)

set_option maxHeartbeats 4000000 in
set_option maxRecDepth 100000 in
theorem e_Ex_putSign (l : Launch) (D : va_G) (k : Nat → ClassId) (A : Nat → Prop) (ad : Nat → Nat) (hD : rwD A k ad) (v : gV) (f g : gF) (a1 : Int) (SS : List Int) (EE : List (Int × Int)) (h_a1 : inR a1) (h1 : 7 ≤ a1 ∧ a1 ≤ 9) (hX : xX 1 SS EE (f 14) (v 11) (f 10) (f 11) (v 8) (v 12) (v 13) (v 14)) : GM l D k A (rwT k ad) yX1_putSign cX1_putSign 3 none 2 44 [.ref (ad 21), .int (iI a1), .ref (ad 14)] v f g (fun r v1 f1 g1 => ∃ (w8 : Int) (w11 : Int) (w14 : Int) (w15 : Int) (a14_ : Int → Int) (a10_ : Int → Int) (a11_ : Int → Int), r = none ∧ (va_up (va_up (va_up (va_up v 8 w8) 11 w11) 14 w14) 15 w15) = v1 ∧ (va_up (va_up (va_up f 14 a14_) 10 a10_) 11 a11_) = f1 ∧ g = g1 ∧ ((v 14) < 40 → w15 = (v 15) ∧ xX 0 (a1 :: (rlS a1 SS EE).1) (rlS a1 SS EE).2 a14_ w11 a10_ a11_ w8 (v 12) (v 13) w14) ∧ (40 ≤ (v 14) → w15 = 3)) := by
  refine GM.of (by decide) (Nat.le_of_ble_eq_true rfl) ?_
  intro p e s m args below meth c Q ls hQ C hml hr hlocks hP hl
  have hx := C.1
  have hb := C.2.1
  have hok := hP.2
  have hS : va_S A s.heap s.heap [] := va_S.rf
  have hl : lv_has ls 3 [(0, .ref (ad 21)), (1, .int (iI a1)), (2, .ref (ad 14))] := hl
  have hP : gWd D (rwT k ad) (va_up (va_up (va_up (va_up v 8 (v 8)) 11 (v 11)) 14 (v 14)) 15 (v 15)) (va_up (va_up (va_up f 14 (f 14)) 10 (f 10)) 11 (f 11)) g s.heap := by rw [va_id, va_id, va_id, va_id, va_id, va_id, va_id]; exact hP
  obtain ⟨hw, hd, hrS, hcd, hn, hp, hi, hi4, hn8⟩ := id hX
  have hle := rep_len _ _ _ hrS
  have hwl0 := wfS_len _ hw
  have hps0 := cnt_pos SS
  refine lv_aload_n hx hb dX1_putSign_0 rfl (lv_at hl 0 rfl) ?_
  refine g_cv (As := []) (rest := []) (n := 0) C hml (e_Ex_countItem l D k A ad hD (va_up (va_up (va_up (va_up v 8 (v 8)) 11 (v 11)) 14 (v 14)) 15 (v 15)) (va_up (va_up (va_up f 14 (f 14)) 10 (f 10)) 11 (f 11)) g (show (v 14) ≤ 40 from by omega)) mM_X1_55 mI_X1_countItem mE_X1_countItem mN_X1 mC_X1_countItem (by decide +kernel) 21 (ci := 1) rfl rfl hP hS (fun _ h => h) ⟨Nat.le_of_ble_eq_true rfl, Nat.le_of_ble_eq_true rfl⟩ ⟨Nat.zero_le _, Nat.zero_le _⟩ hl.1 rfl rfl (Nat.le_of_ble_eq_true rfl) dX1_putSign_1 (fun r_1 v_1 f_1 g_1 H locs hq_1 hP _ hS => ?_)
  obtain ⟨w15_1, rfl, rfl, rfl, rfl, p0_1, p1_1⟩ := hq_1
  show W p l e (gRm 2 44) s m args below meth c _ _ 0 0 Q (F0 m 4 ls [])
  have hP : gWd D (rwT k ad) (va_up (va_up (va_up (va_up v 8 (v 8)) 11 (v 11)) 14 ((v 14) + 1)) 15 w15_1) (va_up (va_up (va_up f 14 (f 14)) 10 (f 10)) 11 (f 11)) g H := ⟨hP.1, (gF_up (V := rwV) (F := rwF) (gF_up (V := rwV) (F := rwF) (gF_up (V := rwV) (F := rwF) (gR_up (V := rwV) (F := rwF) (gR_up (V := rwV) (F := rwF) (gR_up (V := rwV) (F := rwF) (gR_up (V := rwV) (F := rwF) ⟨hok.1, hok.2⟩ 8 (hP.2.1 8)) 11 (hP.2.1 11)) 14 (hP.2.1 14)) 15 (hP.2.1 15)) 14 (hP.2.2 14)) 10 (hP.2.2 10)) 11 (hP.2.2 11))⟩
  replace p0_1 : (v 14) < 40 → w15_1 = (v 15) := p0_1
  replace p1_1 : 40 ≤ (v 14) → w15_1 = 3 := p1_1
  have rw15_1 : 0 ≤ w15_1 ∧ w15_1 ≤ 5 := hP.2.1 15
  refine lv_aload_n hx hb dX1_putSign_4 rfl (lv_at hl 0 rfl) ?_
  refine lv_iload_n hx hb dX1_putSign_5 rfl (lv_at hl 1 rfl) ?_
  refine lv_aload_n hx hb dX1_putSign_6 rfl (lv_at hl 2 rfl) ?_
  refine g_cv (As := [.int (iI a1), .ref (ad 14)]) (rest := []) (n := 2) C hml (e_Ex_release l D k A ad hD (va_up (va_up (va_up (va_up v 8 (v 8)) 11 (v 11)) 14 ((v 14) + 1)) 15 w15_1) (va_up (va_up (va_up f 14 (f 14)) 10 (f 10)) 11 (f 11)) g a1 SS EE (by omega) (show 7 ≤ a1 ∧ a1 ≤ 9 from by omega) (show wfS SS from hw) (show hdS SS ≠ 10 from hd rfl) (show rep SS (f 14) (v 11) from hrS) (show repC id EE (f 10) (f 11) (v 8) ∧ (EE.length : Int) + cSg SS ≤ 40 from ⟨hcd, by omega⟩)) mM_X1_40 mI_X1_release mE_X1_release mN_X1 mC_X1_release (by decide +kernel) 21 (ci := 1) rfl rfl hP hS (fun _ h => h) ⟨Nat.le_of_ble_eq_true rfl, Nat.le_of_ble_eq_true rfl⟩ ⟨Nat.zero_le _, Nat.zero_le _⟩ hl.1 rfl rfl (Nat.le_of_ble_eq_true rfl) dX1_putSign_7 (fun r_2 v_2 f_2 g_2 H locs hq_2 hP _ hS => ?_)
  obtain ⟨w8_2, w11_2, a10_2, a11_2, rfl, rfl, rfl, rfl, p0_2, p1_2⟩ := hq_2
  show W p l e (gRm 2 44) s m args below meth c _ _ 0 0 Q (F0 m 10 ls [])
  have hP : gWd D (rwT k ad) (va_up (va_up (va_up (va_up v 8 w8_2) 11 w11_2) 14 ((v 14) + 1)) 15 w15_1) (va_up (va_up (va_up f 14 (f 14)) 10 a10_2) 11 a11_2) g H := ⟨hP.1, (gF_up (V := rwV) (F := rwF) (gF_up (V := rwV) (F := rwF) (gF_up (V := rwV) (F := rwF) (gR_up (V := rwV) (F := rwF) (gR_up (V := rwV) (F := rwF) (gR_up (V := rwV) (F := rwF) (gR_up (V := rwV) (F := rwF) ⟨hok.1, hok.2⟩ 8 (hP.2.1 8)) 11 (hP.2.1 11)) 14 (hP.2.1 14)) 15 (hP.2.1 15)) 14 (hP.2.2 14)) 10 (hP.2.2 10)) 11 (hP.2.2 11))⟩
  replace p0_2 : rep (rlS a1 SS EE).1 (f 14) w11_2 := p0_2
  replace p1_2 : repC id (rlS a1 SS EE).2 a10_2 a11_2 w8_2 := p1_2
  have rw8_2 : 0 ≤ w8_2 ∧ w8_2 ≤ 40 := hP.2.1 8
  have rw11_2 : 0 ≤ w11_2 ∧ w11_2 ≤ 27 := hP.2.1 11
  have hro := rlS_ok a1 SS EE hw (hd rfl)
  have hr2 := p0_2
  have hc2 := p1_2
  have hl2 := rep_len _ _ _ hr2
  have hwl := wfS_len _ hro.1
  refine lv_aload_n hx hb dX1_putSign_10 rfl (lv_at hl 0 rfl) ?_
  refine lv_iload_n hx hb dX1_putSign_11 rfl (lv_at hl 1 rfl) ?_
  refine g_cv (As := [.int (iI a1)]) (rest := []) (n := 1) C hml (e_Ex_await l D k A ad hD (va_up (va_up (va_up (va_up v 8 w8_2) 11 w11_2) 14 ((v 14) + 1)) 15 w15_1) (va_up (va_up (va_up f 14 (f 14)) 10 a10_2) 11 a11_2) g a1 (by omega) (show w11_2 < 27 from by omega) (show 0 ≤ a1 ∧ a1 ≤ 11 from by omega)) mM_X1_82 mI_X1_await mE_X1_await mN_X1 mC_X1_await (by decide +kernel) 21 (ci := 1) rfl rfl hP hS (fun _ h => h) ⟨Nat.le_of_ble_eq_true rfl, Nat.le_of_ble_eq_true rfl⟩ ⟨Nat.zero_le _, Nat.zero_le _⟩ hl.1 rfl rfl (Nat.le_of_ble_eq_true rfl) dX1_putSign_12 (fun r_3 v_3 f_3 g_3 H locs hq_3 hP _ hS => ?_)
  obtain ⟨rfl, rfl, rfl, rfl⟩ := hq_3
  show W p l e (gRm 2 44) s m args below meth c _ _ 0 0 Q (F0 m 15 ls [])
  have hP : gWd D (rwT k ad) (va_up (va_up (va_up (va_up v 8 w8_2) 11 (w11_2 + 1)) 14 ((v 14) + 1)) 15 w15_1) (va_up (va_up (va_up f 14 (u1 (f 14) w11_2 a1)) 10 a10_2) 11 a11_2) g H := ⟨hP.1, (gF_up (V := rwV) (F := rwF) (gF_up (V := rwV) (F := rwF) (gF_up (V := rwV) (F := rwF) (gR_up (V := rwV) (F := rwF) (gR_up (V := rwV) (F := rwF) (gR_up (V := rwV) (F := rwF) (gR_up (V := rwV) (F := rwF) ⟨hok.1, hok.2⟩ 8 (hP.2.1 8)) 11 (hP.2.1 11)) 14 (hP.2.1 14)) 15 (hP.2.1 15)) 14 (hP.2.2 14)) 10 (hP.2.2 10)) 11 (hP.2.2 11))⟩
  exact g_vret hQ C hr hlocks hP hS dX1_putSign_15 ⟨w8_2, (w11_2 + 1), ((v 14) + 1), w15_1, (u1 (f 14) w11_2 a1), a10_2, a11_2, rfl, rfl, rfl, rfl, (fun h => ⟨by omega, xX_sg hro.1 h1 hro.2.2.2.2.2.1 hro.2.2.2.2.2.2 hro.2.1 hr2 hc2 (by omega) (by omega) (by omega) (by omega) (by omega)⟩), (by first | omega | (split <;> omega))⟩

set_option maxHeartbeats 4000000 in
set_option maxRecDepth 100000 in
theorem e_Ex_closeParen (l : Launch) (D : va_G) (k : Nat → ClassId) (A : Nat → Prop) (ad : Nat → Nat) (hD : rwD A k ad) (v : gV) (f g : gF) (SS : List Int) (EE : List (Int × Int)) (hX : xX 1 SS EE (f 14) (v 11) (f 10) (f 11) (v 8) (v 12) (v 13) (v 14)) : GM l D k A (rwT k ad) yX1_closeParen cX1_closeParen 2 none 2 44 [.ref (ad 21), .ref (ad 14)] v f g (fun r v1 f1 g1 => ∃ (w8 : Int) (w11 : Int) (w12 : Int) (w13 : Int) (w15 : Int) (a10_ : Int → Int) (a11_ : Int → Int), r = none ∧ (va_up (va_up (va_up (va_up (va_up v 8 w8) 11 w11) 12 w12) 13 w13) 15 w15) = v1 ∧ (va_up (va_up f 10 a10_) 11 a11_) = f1 ∧ g = g1 ∧ ((v 13) = 0 → w15 = 2) ∧ (0 < (v 13) → w15 = (v 15) ∧ xX 1 (rlN (rlS 7 SS EE).1.tail (rlS 7 SS EE).2).1 (rlN (rlS 7 SS EE).1.tail (rlS 7 SS EE).2).2 (f 14) w11 a10_ a11_ w8 w12 w13 (v 14))) := by
  refine GM.of (by decide) (Nat.le_of_ble_eq_true rfl) ?_
  intro p e s m args below meth c Q ls hQ C hml hr hlocks hP hl
  have hx := C.1
  have hb := C.2.1
  have hok := hP.2
  have hS : va_S A s.heap s.heap [] := va_S.rf
  have hl : lv_has ls 2 [(0, .ref (ad 21)), (1, .ref (ad 14))] := hl
  have hP : gWd D (rwT k ad) (va_up (va_up (va_up (va_up (va_up v 8 (v 8)) 11 (v 11)) 12 (v 12)) 13 (v 13)) 15 (v 15)) (va_up (va_up f 10 (f 10)) 11 (f 11)) g s.heap := by rw [va_id, va_id, va_id, va_id, va_id, va_id, va_id]; exact hP
  obtain ⟨hw, hd, hrS, hcd, hn, hp, hi, hi4, hn8⟩ := id hX
  have hle := rep_len _ _ _ hrS
  have hwl0 := wfS_len _ hw
  have hps0 := cnt_pos SS
  refine lv_aload_n hx hb dX1_closeParen_0 rfl (lv_at hl 0 rfl) ?_
  refine rwG_reader_expression_parens C hP mF_X1_27 dX1_closeParen_1 ?_
  show W p l e (gRm 2 44) s m args below meth c _ _ 0 0 Q (F0 m 4 ls [.int (iI (v 13))])
  have r_1 : 0 ≤ (v 13) ∧ (v 13) ≤ 9 := hok.1 13
  refine gi_zne (tgt := 14) hx hb dX1_closeParen_4 (by decide) (by omega) (fun c_2 => ?_) (fun c_2 => ?_)
  · refine lv_aload_n hx hb dX1_closeParen_14 rfl (lv_at hl 0 rfl) ?_
    refine lv_bipush (v := iI 7) hx hb dX1_closeParen_15 (by decide) ?_
    refine lv_aload_n hx hb dX1_closeParen_17 rfl (lv_at hl 1 rfl) ?_
    refine g_cv (As := [.int (iI 7), .ref (ad 14)]) (rest := []) (n := 2) C hml (e_Ex_release l D k A ad hD (va_up (va_up (va_up (va_up (va_up v 8 (v 8)) 11 (v 11)) 12 (v 12)) 13 (v 13)) 15 (v 15)) (va_up (va_up f 10 (f 10)) 11 (f 11)) g 7 SS EE (by decide) (show 7 ≤ (7 : Int) ∧ (7 : Int) ≤ 9 from by omega) (show wfS SS from hw) (show hdS SS ≠ 10 from hd rfl) (show rep SS (f 14) (v 11) from hrS) (show repC id EE (f 10) (f 11) (v 8) ∧ (EE.length : Int) + cSg SS ≤ 40 from ⟨hcd, by omega⟩)) mM_X1_40 mI_X1_release mE_X1_release mN_X1 mC_X1_release (by decide +kernel) 21 (ci := 1) rfl rfl hP hS (fun _ h => h) ⟨Nat.le_of_ble_eq_true rfl, Nat.le_of_ble_eq_true rfl⟩ ⟨Nat.zero_le _, Nat.zero_le _⟩ hl.1 rfl rfl (Nat.le_of_ble_eq_true rfl) dX1_closeParen_18 (fun r_3 v_3 f_3 g_3 H locs hq_3 hP _ hS => ?_)
    obtain ⟨w8_3, w11_3, a10_3, a11_3, rfl, rfl, rfl, rfl, p0_3, p1_3⟩ := hq_3
    show W p l e (gRm 2 44) s m args below meth c _ _ 0 0 Q (F0 m 21 ls [])
    have hP : gWd D (rwT k ad) (va_up (va_up (va_up (va_up (va_up v 8 w8_3) 11 w11_3) 12 (v 12)) 13 (v 13)) 15 (v 15)) (va_up (va_up f 10 a10_3) 11 a11_3) g H := ⟨hP.1, (gF_up (V := rwV) (F := rwF) (gF_up (V := rwV) (F := rwF) (gR_up (V := rwV) (F := rwF) (gR_up (V := rwV) (F := rwF) (gR_up (V := rwV) (F := rwF) (gR_up (V := rwV) (F := rwF) (gR_up (V := rwV) (F := rwF) ⟨hok.1, hok.2⟩ 8 (hP.2.1 8)) 11 (hP.2.1 11)) 12 (hP.2.1 12)) 13 (hP.2.1 13)) 15 (hP.2.1 15)) 10 (hP.2.2 10)) 11 (hP.2.2 11))⟩
    replace p0_3 : rep (rlS (7 : Int) SS EE).1 (f 14) w11_3 := p0_3
    replace p1_3 : repC id (rlS (7 : Int) SS EE).2 a10_3 a11_3 w8_3 := p1_3
    have rw8_3 : 0 ≤ w8_3 ∧ w8_3 ≤ 40 := hP.2.1 8
    have rw11_3 : 0 ≤ w11_3 ∧ w11_3 ≤ 27 := hP.2.1 11
    have hro := rlS_ok 7 SS EE hw (hd rfl)
    have hcl := clo_hd (E := EE) hw (hd rfl) (by omega)
    have hr2 := p0_3
    have hc2 := p1_3
    have hl2 := rep_len _ _ _ hr2
    have hct := cnt_tail hcl.1
    have hpos : 0 < w11_3 := by have := rep_nil hr2; rcases Int.lt_or_le 0 w11_3 with h | h; exact h; exact absurd (this.mp (by omega)) hcl.1
    have hr3 : ∀ x : Int, x = w11_3 - 1 → rep (rlS 7 SS EE).1.tail (f 14) x := fun x hx => by rw [hx]; exact (rep_top hr2 hpos).2
    have hps1 := cnt_pos (rlS 7 SS EE).1.tail
    refine lv_aload_n hx hb dX1_closeParen_21 rfl (lv_at hl 0 rfl) ?_
    refine lv_iconst (v := iI 0) hx hb dX1_closeParen_22 rfl ?_
    refine lv_aload_n hx hb dX1_closeParen_23 rfl (lv_at hl 0 rfl) ?_
    refine rwG_reader_expression_waits C hP mF_X1_21 dX1_closeParen_24 ?_
    show W p l e (gRm 2 44) s m args below meth c _ _ 0 0 Q (F0 m 27 ls [.int (iI w11_3), .int (iI 0), .ref (ad 21)])
    have r_4 : 0 ≤ w11_3 ∧ w11_3 ≤ 27 := hP.2.1 11
    refine lv_iconst (v := iI 1) hx hb dX1_closeParen_27 rfl ?_
    refine gi_sub (z := (w11_3 - 1)) hx hb dX1_closeParen_28 rfl ?_
    refine gi_max C hml hl.1 mM_X1_85 (by decide) (by omega) (Nat.le_of_ble_eq_true rfl) (Nat.le_of_ble_eq_true rfl) dX1_closeParen_29 (fun x_5 hx_5 => ?_)
    refine rwP_reader_expression_waits (v1 := (va_up (va_up (va_up (va_up (va_up v 8 w8_3) 11 x_5) 12 (v 12)) 13 (v 13)) 15 (v 15))) C hP hD hS mF_X1_21 (by omega) rfl (Or.inr (gF_up (V := rwV) (F := rwF) (gF_up (V := rwV) (F := rwF) (gR_up (V := rwV) (F := rwF) (gR_up (V := rwV) (F := rwF) (gR_up (V := rwV) (F := rwF) (gR_up (V := rwV) (F := rwF) (gR_up (V := rwV) (F := rwF) ⟨hok.1, hok.2⟩ 8 (hP.2.1 8)) 11 (show 0 ≤ x_5 ∧ x_5 ≤ 27 from by omega)) 12 (hP.2.1 12)) 13 (hP.2.1 13)) 15 (hP.2.1 15)) 10 (hP.2.2 10)) 11 (hP.2.2 11))) dX1_closeParen_32 (fun H locs hP hS => ?_)
    refine lv_aload_n hx hb dX1_closeParen_35 rfl (lv_at hl 0 rfl) ?_
    refine lv_dup hx hb dX1_closeParen_36 rfl ?_
    refine rwG_reader_expression_parens C hP mF_X1_27 dX1_closeParen_37 ?_
    show W p l e (gRm 2 44) s m args below meth c _ _ 0 0 Q (F0 m 40 ls [.int (iI (v 13)), .ref (ad 21)])
    refine lv_iconst (v := iI 1) hx hb dX1_closeParen_40 rfl ?_
    refine gi_sub (z := ((v 13) - 1)) hx hb dX1_closeParen_41 rfl ?_
    refine rwP_reader_expression_parens (v1 := (va_up (va_up (va_up (va_up (va_up v 8 w8_3) 11 x_5) 12 (v 12)) 13 ((v 13) - 1)) 15 (v 15))) C hP hD hS mF_X1_27 (by omega) rfl (Or.inr (gF_up (V := rwV) (F := rwF) (gF_up (V := rwV) (F := rwF) (gR_up (V := rwV) (F := rwF) (gR_up (V := rwV) (F := rwF) (gR_up (V := rwV) (F := rwF) (gR_up (V := rwV) (F := rwF) (gR_up (V := rwV) (F := rwF) ⟨hok.1, hok.2⟩ 8 (hP.2.1 8)) 11 (hP.2.1 11)) 12 (hP.2.1 12)) 13 (show 0 ≤ ((v 13) - 1) ∧ ((v 13) - 1) ≤ 9 from by omega)) 15 (hP.2.1 15)) 10 (hP.2.2 10)) 11 (hP.2.2 11))) dX1_closeParen_42 (fun H locs hP hS => ?_)
    refine lv_aload_n hx hb dX1_closeParen_45 rfl (lv_at hl 0 rfl) ?_
    refine lv_dup hx hb dX1_closeParen_46 rfl ?_
    refine rwG_reader_expression_nested C hP mF_X1_24 dX1_closeParen_47 ?_
    show W p l e (gRm 2 44) s m args below meth c _ _ 0 0 Q (F0 m 50 ls [.int (iI (v 12)), .ref (ad 21)])
    have r_6 : 0 ≤ (v 12) ∧ (v 12) ≤ 9 := hok.1 12
    refine lv_iconst (v := iI 1) hx hb dX1_closeParen_50 rfl ?_
    refine gi_sub (z := ((v 12) - 1)) hx hb dX1_closeParen_51 rfl ?_
    refine rwP_reader_expression_nested (v1 := (va_up (va_up (va_up (va_up (va_up v 8 w8_3) 11 x_5) 12 ((v 12) - 1)) 13 ((v 13) - 1)) 15 (v 15))) C hP hD hS mF_X1_24 (by omega) rfl (Or.inr (gF_up (V := rwV) (F := rwF) (gF_up (V := rwV) (F := rwF) (gR_up (V := rwV) (F := rwF) (gR_up (V := rwV) (F := rwF) (gR_up (V := rwV) (F := rwF) (gR_up (V := rwV) (F := rwF) (gR_up (V := rwV) (F := rwF) ⟨hok.1, hok.2⟩ 8 (hP.2.1 8)) 11 (hP.2.1 11)) 12 (show 0 ≤ ((v 12) - 1) ∧ ((v 12) - 1) ≤ 9 from by omega)) 13 (hP.2.1 13)) 15 (hP.2.1 15)) 10 (hP.2.2 10)) 11 (hP.2.2 11))) dX1_closeParen_52 (fun H locs hP hS => ?_)
    refine lv_aload_n hx hb dX1_closeParen_55 rfl (lv_at hl 0 rfl) ?_
    refine lv_aload_n hx hb dX1_closeParen_56 rfl (lv_at hl 1 rfl) ?_
    refine g_cv (As := [.ref (ad 14)]) (rest := []) (n := 1) C hml (e_Ex_releaseNegations l D k A ad hD (va_up (va_up (va_up (va_up (va_up v 8 w8_3) 11 x_5) 12 ((v 12) - 1)) 13 ((v 13) - 1)) 15 (v 15)) (va_up (va_up f 10 a10_3) 11 a11_3) g ((rlS 7 SS EE).1.tail) ((rlS 7 SS EE).2) True (show wfS ((rlS 7 SS EE).1.tail) from wfS_tail hro.1) (show rep ((rlS 7 SS EE).1.tail) (f 14) x_5 from hr3 _ (by omega)) (show ((v 12) - 1) = cNs ((rlS 7 SS EE).1.tail) from by omega) (show True → repC id ((rlS 7 SS EE).2) a10_3 a11_3 w8_3 ∧ (((rlS 7 SS EE).2).length : Int) + cSg ((rlS 7 SS EE).1.tail) ≤ 40 from fun _ => ⟨hc2, by omega⟩)) mM_X1_65 mI_X1_releaseNegations mE_X1_releaseNegations mN_X1 mC_X1_releaseNegations (by decide +kernel) 21 (ci := 1) rfl rfl hP hS (fun _ h => h) ⟨Nat.le_of_ble_eq_true rfl, Nat.le_of_ble_eq_true rfl⟩ ⟨Nat.zero_le _, Nat.zero_le _⟩ hl.1 rfl rfl (Nat.le_of_ble_eq_true rfl) dX1_closeParen_57 (fun r_7 v_7 f_7 g_7 H locs hq_7 hP _ hS => ?_)
    obtain ⟨w8_7, w11_7, w12_7, a10_7, a11_7, rfl, rfl, rfl, rfl, p0_7, p1_7, p2_7⟩ := hq_7
    show W p l e (gRm 2 44) s m args below meth c _ _ 0 0 Q (F0 m 60 ls [])
    have hP : gWd D (rwT k ad) (va_up (va_up (va_up (va_up (va_up v 8 w8_7) 11 w11_7) 12 w12_7) 13 ((v 13) - 1)) 15 (v 15)) (va_up (va_up f 10 a10_7) 11 a11_7) g H := ⟨hP.1, (gF_up (V := rwV) (F := rwF) (gF_up (V := rwV) (F := rwF) (gR_up (V := rwV) (F := rwF) (gR_up (V := rwV) (F := rwF) (gR_up (V := rwV) (F := rwF) (gR_up (V := rwV) (F := rwF) (gR_up (V := rwV) (F := rwF) ⟨hok.1, hok.2⟩ 8 (hP.2.1 8)) 11 (hP.2.1 11)) 12 (hP.2.1 12)) 13 (hP.2.1 13)) 15 (hP.2.1 15)) 10 (hP.2.2 10)) 11 (hP.2.2 11))⟩
    replace p0_7 : rep (rlN ((rlS 7 SS EE).1.tail) ((rlS 7 SS EE).2)).1 (f 14) w11_7 := p0_7
    replace p1_7 : w12_7 = cNs (rlN ((rlS 7 SS EE).1.tail) ((rlS 7 SS EE).2)).1 := p1_7
    replace p2_7 : True → repC id (rlN ((rlS 7 SS EE).1.tail) ((rlS 7 SS EE).2)).2 a10_7 a11_7 w8_7 := p2_7
    have rw8_7 : 0 ≤ w8_7 ∧ w8_7 ≤ 40 := hP.2.1 8
    have rw11_7 : 0 ≤ w11_7 ∧ w11_7 ≤ 27 := hP.2.1 11
    have rw12_7 : 0 ≤ w12_7 ∧ w12_7 ≤ 9 := hP.2.1 12
    have hr4 := p0_7
    have hn4 := p1_7
    have hc4 := p2_7 trivial
    exact g_vret hQ C hr hlocks hP hS dX1_closeParen_60 ⟨w8_7, w11_7, w12_7, ((v 13) - 1), (v 15), a10_7, a11_7, rfl, rfl, rfl, rfl, (by first | omega | (split <;> omega)), (by first | (intro h; exfalso; omega) | exact fun h => ⟨by omega, xX_whole (wfS_tail hro.1) hr4 hc4 hn4 (by omega) (by omega) (by omega) (by omega)⟩)⟩
  · refine lv_aload_n hx hb dX1_closeParen_7 rfl (lv_at hl 0 rfl) ?_
    refine lv_bipush (v := iI 41) hx hb dX1_closeParen_8 (by decide) ?_
    refine g_cv (As := [.int (iI 41)]) (rest := []) (n := 1) C hml (e_Ex_refuseToken l D k A ad hD (va_up (va_up (va_up (va_up (va_up v 8 (v 8)) 11 (v 11)) 12 (v 12)) 13 (v 13)) 15 (v 15)) (va_up (va_up f 10 (f 10)) 11 (f 11)) g 41 (by decide)) mM_X1_73 mI_X1_refuseToken mE_X1_refuseToken mN_X1 mC_X1_refuseToken (by decide +kernel) 21 (ci := 1) rfl rfl hP hS (fun _ h => h) ⟨Nat.le_of_ble_eq_true rfl, Nat.le_of_ble_eq_true rfl⟩ ⟨Nat.zero_le _, Nat.zero_le _⟩ hl.1 rfl rfl (Nat.le_of_ble_eq_true rfl) dX1_closeParen_10 (fun r_8 v_8 f_8 g_8 H locs hq_8 hP _ hS => ?_)
    obtain ⟨rfl, rfl, rfl, rfl⟩ := hq_8
    show W p l e (gRm 2 44) s m args below meth c _ _ 0 0 Q (F0 m 13 ls [])
    have hP : gWd D (rwT k ad) (va_up (va_up (va_up (va_up (va_up v 8 (v 8)) 11 (v 11)) 12 (v 12)) 13 (v 13)) 15 (if (41 : Int) = 257 then 1 else 2)) (va_up (va_up f 10 (f 10)) 11 (f 11)) g H := ⟨hP.1, (gF_up (V := rwV) (F := rwF) (gF_up (V := rwV) (F := rwF) (gR_up (V := rwV) (F := rwF) (gR_up (V := rwV) (F := rwF) (gR_up (V := rwV) (F := rwF) (gR_up (V := rwV) (F := rwF) (gR_up (V := rwV) (F := rwF) ⟨hok.1, hok.2⟩ 8 (hP.2.1 8)) 11 (hP.2.1 11)) 12 (hP.2.1 12)) 13 (hP.2.1 13)) 15 (hP.2.1 15)) 10 (hP.2.2 10)) 11 (hP.2.2 11))⟩
    exact g_vret hQ C hr hlocks hP hS dX1_closeParen_13 ⟨(v 8), (v 11), (v 12), (v 13), (if (41 : Int) = 257 then 1 else 2), (f 10), (f 11), rfl, rfl, rfl, rfl, (by first | omega | (split <;> omega)), (by first | (intro h; exfalso; omega) | exact fun h => ⟨by omega, xX_whole (wfS_tail hro.1) hr4 hc4 hn4 (by omega) (by omega) (by omega) (by omega)⟩)⟩

set_option maxHeartbeats 4000000 in
set_option maxRecDepth 100000 in
theorem e_Ex_readBehindFactor (l : Launch) (D : va_G) (k : Nat → ClassId) (A : Nat → Prop) (ad : Nat → Nat) (hD : rwD A k ad) (v : gV) (f g : gF) (a1 : Int) (nn : Int) (pp : Int) (SS : List Int) (EE : List (Int × Int)) (h_a1 : inR a1) (ha : a1 = (tK (f 0) nn pp)) (hf : (v 15) = 0) (hX : xX 1 SS EE (f 14) (v 11) (f 10) (f 11) (v 8) (v 12) (v 13) (v 14)) (he : ¬ (a1 = 59 ∧ (v 13) = 0)) : GM l D k A (rwT k ad) yX1_readBehindFactor cX1_readBehindFactor 3 (some .boolean) 3 66 [.ref (ad 21), .int (iI a1), .ref (ad 14)] v f g (fun r v1 f1 g1 => ∃ (z : Int) (w8 : Int) (w11 : Int) (w12 : Int) (w13 : Int) (w14 : Int) (w15 : Int) (a14_ : Int → Int) (a10_ : Int → Int) (a11_ : Int → Int), r = some (.int (iI z)) ∧ (va_up (va_up (va_up (va_up (va_up (va_up v 8 w8) 11 w11) 12 w12) 13 w13) 14 w14) 15 w15) = v1 ∧ (va_up (va_up (va_up f 14 a14_) 10 a10_) 11 a11_) = f1 ∧ g = g1 ∧ (0 ≤ z ∧ z ≤ 1) ∧ ((w15 = 0 ∧ ((tK (f 0) nn pp) ≠ 256 ∧ (tK (f 0) nn pp) ≠ 257) ∧ ∃ Sx Ex, xX z Sx Ex a14_ w11 a10_ a11_ w8 w12 w13 w14 ∧ ∀ k : Nat, exF (f 0) nn (k + 1) pp 1 SS EE = exF (f 0) nn k (tX (f 0) nn pp) z Sx Ex) ∨ (w15 ≠ 0 ∧ ∀ k : Nat, exF (f 0) nn (k + 1) pp 1 SS EE = (w15, pp, EE)))) := by
  refine GM.of (by decide) (Nat.le_of_ble_eq_true rfl) ?_
  intro p e s m args below meth c Q ls hQ C hml hr hlocks hP hl
  have hx := C.1
  have hb := C.2.1
  have hok := hP.2
  have hS : va_S A s.heap s.heap [] := va_S.rf
  have hl : lv_has ls 3 [(0, .ref (ad 21)), (1, .int (iI a1)), (2, .ref (ad 14))] := hl
  have hP : gWd D (rwT k ad) (va_up (va_up (va_up (va_up (va_up (va_up v 8 (v 8)) 11 (v 11)) 12 (v 12)) 13 (v 13)) 14 (v 14)) 15 (v 15)) (va_up (va_up (va_up f 14 (f 14)) 10 (f 10)) 11 (f 11)) g s.heap := by rw [va_id, va_id, va_id, va_id, va_id, va_id, va_id, va_id, va_id]; exact hP
  obtain ⟨hw, hd, hrS, hcd, hn, hp, hi, hi4, hn8⟩ := id hX
  have hle := rep_len _ _ _ hrS
  have hwl0 := wfS_len _ hw
  have hps0 := cnt_pos SS
  refine lv_iload_n hx hb dX1_readBehindFactor_0 rfl (lv_at hl 1 rfl) ?_
  by_cases c_1_41 : a1 = 41
  · refine lv_tableIn (off := 62) (tgt := 63) hx hb dX1_readBehindFactor_1 (by rw [c_1_41]; decide) (by rw [c_1_41]; decide) (by rw [c_1_41]; rfl) (by decide) ?_
    refine lv_aload_n hx hb dX1_readBehindFactor_63 rfl (lv_at hl 0 rfl) ?_
    refine lv_aload_n hx hb dX1_readBehindFactor_64 rfl (lv_at hl 2 rfl) ?_
    refine g_cv (As := [.ref (ad 14)]) (rest := []) (n := 1) C hml (e_Ex_closeParen l D k A ad hD (va_up (va_up (va_up (va_up (va_up (va_up v 8 (v 8)) 11 (v 11)) 12 (v 12)) 13 (v 13)) 14 (v 14)) 15 (v 15)) (va_up (va_up (va_up f 14 (f 14)) 10 (f 10)) 11 (f 11)) g SS EE (show xX 1 SS EE (f 14) (v 11) (f 10) (f 11) (v 8) (v 12) (v 13) (v 14) from hX)) mM_X1_79 mI_X1_closeParen mE_X1_closeParen mN_X1 mC_X1_closeParen (by decide +kernel) 21 (ci := 1) rfl rfl hP hS (fun _ h => h) ⟨Nat.le_of_ble_eq_true rfl, Nat.le_of_ble_eq_true rfl⟩ ⟨Nat.zero_le _, Nat.zero_le _⟩ hl.1 rfl rfl (Nat.le_of_ble_eq_true rfl) dX1_readBehindFactor_65 (fun r_2 v_2 f_2 g_2 H locs hq_2 hP _ hS => ?_)
    obtain ⟨w8_2, w11_2, w12_2, w13_2, w15_2, a10_2, a11_2, rfl, rfl, rfl, rfl, p0_2, p1_2⟩ := hq_2
    show W p l e (gRm 3 66) s m args below meth c _ _ 0 0 Q (F0 m 68 ls [])
    have hP : gWd D (rwT k ad) (va_up (va_up (va_up (va_up (va_up (va_up v 8 w8_2) 11 w11_2) 12 w12_2) 13 w13_2) 14 (v 14)) 15 w15_2) (va_up (va_up (va_up f 14 (f 14)) 10 a10_2) 11 a11_2) g H := ⟨hP.1, (gF_up (V := rwV) (F := rwF) (gF_up (V := rwV) (F := rwF) (gF_up (V := rwV) (F := rwF) (gR_up (V := rwV) (F := rwF) (gR_up (V := rwV) (F := rwF) (gR_up (V := rwV) (F := rwF) (gR_up (V := rwV) (F := rwF) (gR_up (V := rwV) (F := rwF) (gR_up (V := rwV) (F := rwF) ⟨hok.1, hok.2⟩ 8 (hP.2.1 8)) 11 (hP.2.1 11)) 12 (hP.2.1 12)) 13 (hP.2.1 13)) 14 (hP.2.1 14)) 15 (hP.2.1 15)) 14 (hP.2.2 14)) 10 (hP.2.2 10)) 11 (hP.2.2 11))⟩
    replace p0_2 : (v 13) = 0 → w15_2 = 2 := p0_2
    replace p1_2 : 0 < (v 13) → w15_2 = (v 15) ∧ xX 1 (rlN (rlS 7 SS EE).1.tail (rlS 7 SS EE).2).1 (rlN (rlS 7 SS EE).1.tail (rlS 7 SS EE).2).2 (f 14) w11_2 a10_2 a11_2 w8_2 w12_2 w13_2 (v 14) := p1_2
    have rw8_2 : 0 ≤ w8_2 ∧ w8_2 ≤ 40 := hP.2.1 8
    have rw11_2 : 0 ≤ w11_2 ∧ w11_2 ≤ 27 := hP.2.1 11
    have rw12_2 : 0 ≤ w12_2 ∧ w12_2 ≤ 9 := hP.2.1 12
    have rw13_2 : 0 ≤ w13_2 ∧ w13_2 ≤ 9 := hP.2.1 13
    have rw15_2 : 0 ≤ w15_2 ∧ w15_2 ≤ 5 := hP.2.1 15
    have hC0 := p0_2
    have hC1 := p1_2
    refine lv_iconst (v := iI 1) hx hb dX1_readBehindFactor_68 rfl ?_
    exact g_zret hQ C hr hlocks (by decide) hP hS dX1_readBehindFactor_69 ⟨1, w8_2, w11_2, w12_2, w13_2, (v 14), w15_2, (f 14), a10_2, a11_2, rfl, rfl, rfl, rfl, (by first | omega | (split <;> omega)), (by first | exact (if hlt : (v 14) < 40 then Or.inl ⟨by have := hS0 hlt; omega, by omega, _, _, (hS0 hlt).2, fun k => exF_sg k (by omega) (by omega)⟩ else Or.inr ⟨by have := hS3 (by omega); omega, fun k => (exF_sg3 k (by omega) (by omega)).trans (Prod.ext (hS3 (by omega)).symm rfl)⟩) | exact (if hlt : 0 < (v 13) then Or.inl ⟨by have := hC1 hlt; omega, by omega, _, _, (hC1 hlt).2, fun k => exF_clo k (by omega) (by omega)⟩ else Or.inr ⟨by have := hC0 (by omega); omega, fun k => (exF_bad1 k (by omega) (by omega) (by omega)).trans (Prod.ext (by show fk _ _ _ = _; unfold fk; rw [if_neg (by omega)]; exact (hC0 (by omega)).symm) rfl)⟩) | exact Or.inr ⟨by split <;> omega, fun k => (exF_bad1 k (by omega) (by omega) (by omega)).trans (Prod.ext (by show fk _ _ _ = _; unfold fk; rw [ha]) rfl)⟩)⟩
  by_cases c_1_42 : a1 = 42
  · refine lv_tableIn (off := 53) (tgt := 54) hx hb dX1_readBehindFactor_1 (by rw [c_1_42]; decide) (by rw [c_1_42]; decide) (by rw [c_1_42]; rfl) (by decide) ?_
    refine lv_aload_n hx hb dX1_readBehindFactor_54 rfl (lv_at hl 0 rfl) ?_
    refine lv_bipush (v := iI 9) hx hb dX1_readBehindFactor_55 (by decide) ?_
    refine lv_aload_n hx hb dX1_readBehindFactor_57 rfl (lv_at hl 2 rfl) ?_
    refine g_cv (As := [.int (iI 9), .ref (ad 14)]) (rest := []) (n := 2) C hml (e_Ex_putSign l D k A ad hD (va_up (va_up (va_up (va_up (va_up (va_up v 8 (v 8)) 11 (v 11)) 12 (v 12)) 13 (v 13)) 14 (v 14)) 15 (v 15)) (va_up (va_up (va_up f 14 (f 14)) 10 (f 10)) 11 (f 11)) g 9 SS EE (by decide) (show 7 ≤ (9 : Int) ∧ (9 : Int) ≤ 9 from by omega) (show xX 1 SS EE (f 14) (v 11) (f 10) (f 11) (v 8) (v 12) (v 13) (v 14) from hX)) mM_X1_76 mI_X1_putSign mE_X1_putSign mN_X1 mC_X1_putSign (by decide +kernel) 21 (ci := 1) rfl rfl hP hS (fun _ h => h) ⟨Nat.le_of_ble_eq_true rfl, Nat.le_of_ble_eq_true rfl⟩ ⟨Nat.zero_le _, Nat.zero_le _⟩ hl.1 rfl rfl (Nat.le_of_ble_eq_true rfl) dX1_readBehindFactor_58 (fun r_3 v_3 f_3 g_3 H locs hq_3 hP _ hS => ?_)
    obtain ⟨w8_3, w11_3, w14_3, w15_3, a14_3, a10_3, a11_3, rfl, rfl, rfl, rfl, p0_3, p1_3⟩ := hq_3
    show W p l e (gRm 3 66) s m args below meth c _ _ 0 0 Q (F0 m 61 ls [])
    have hP : gWd D (rwT k ad) (va_up (va_up (va_up (va_up (va_up (va_up v 8 w8_3) 11 w11_3) 12 (v 12)) 13 (v 13)) 14 w14_3) 15 w15_3) (va_up (va_up (va_up f 14 a14_3) 10 a10_3) 11 a11_3) g H := ⟨hP.1, (gF_up (V := rwV) (F := rwF) (gF_up (V := rwV) (F := rwF) (gF_up (V := rwV) (F := rwF) (gR_up (V := rwV) (F := rwF) (gR_up (V := rwV) (F := rwF) (gR_up (V := rwV) (F := rwF) (gR_up (V := rwV) (F := rwF) (gR_up (V := rwV) (F := rwF) (gR_up (V := rwV) (F := rwF) ⟨hok.1, hok.2⟩ 8 (hP.2.1 8)) 11 (hP.2.1 11)) 12 (hP.2.1 12)) 13 (hP.2.1 13)) 14 (hP.2.1 14)) 15 (hP.2.1 15)) 14 (hP.2.2 14)) 10 (hP.2.2 10)) 11 (hP.2.2 11))⟩
    replace p0_3 : (v 14) < 40 → w15_3 = (v 15) ∧ xX 0 ((9 : Int) :: (rlS (9 : Int) SS EE).1) (rlS (9 : Int) SS EE).2 a14_3 w11_3 a10_3 a11_3 w8_3 (v 12) (v 13) w14_3 := p0_3
    replace p1_3 : 40 ≤ (v 14) → w15_3 = 3 := p1_3
    have rw8_3 : 0 ≤ w8_3 ∧ w8_3 ≤ 40 := hP.2.1 8
    have rw11_3 : 0 ≤ w11_3 ∧ w11_3 ≤ 27 := hP.2.1 11
    have rw14_3 : 0 ≤ w14_3 ∧ w14_3 ≤ 41 := hP.2.1 14
    have rw15_3 : 0 ≤ w15_3 ∧ w15_3 ≤ 5 := hP.2.1 15
    have hS0 := p0_3
    have hS3 := p1_3
    refine lv_iconst (v := iI 0) hx hb dX1_readBehindFactor_61 rfl ?_
    exact g_zret hQ C hr hlocks (by decide) hP hS dX1_readBehindFactor_62 ⟨0, w8_3, w11_3, (v 12), (v 13), w14_3, w15_3, a14_3, a10_3, a11_3, rfl, rfl, rfl, rfl, (by first | omega | (split <;> omega)), (by first | exact (if hlt : (v 14) < 40 then Or.inl ⟨by have := hS0 hlt; omega, by omega, _, _, (hS0 hlt).2, fun k => exF_sg k (by omega) (by omega)⟩ else Or.inr ⟨by have := hS3 (by omega); omega, fun k => (exF_sg3 k (by omega) (by omega)).trans (Prod.ext (hS3 (by omega)).symm rfl)⟩) | exact (if hlt : 0 < (v 13) then Or.inl ⟨by have := hC1 hlt; omega, by omega, _, _, (hC1 hlt).2, fun k => exF_clo k (by omega) (by omega)⟩ else Or.inr ⟨by have := hC0 (by omega); omega, fun k => (exF_bad1 k (by omega) (by omega) (by omega)).trans (Prod.ext (by show fk _ _ _ = _; unfold fk; rw [if_neg (by omega)]; exact (hC0 (by omega)).symm) rfl)⟩) | exact Or.inr ⟨by split <;> omega, fun k => (exF_bad1 k (by omega) (by omega) (by omega)).trans (Prod.ext (by show fk _ _ _ = _; unfold fk; rw [ha]) rfl)⟩)⟩
  by_cases c_1_43 : a1 = 43
  · refine lv_tableIn (off := 35) (tgt := 36) hx hb dX1_readBehindFactor_1 (by rw [c_1_43]; decide) (by rw [c_1_43]; decide) (by rw [c_1_43]; rfl) (by decide) ?_
    refine lv_aload_n hx hb dX1_readBehindFactor_36 rfl (lv_at hl 0 rfl) ?_
    refine lv_bipush (v := iI 7) hx hb dX1_readBehindFactor_37 (by decide) ?_
    refine lv_aload_n hx hb dX1_readBehindFactor_39 rfl (lv_at hl 2 rfl) ?_
    refine g_cv (As := [.int (iI 7), .ref (ad 14)]) (rest := []) (n := 2) C hml (e_Ex_putSign l D k A ad hD (va_up (va_up (va_up (va_up (va_up (va_up v 8 (v 8)) 11 (v 11)) 12 (v 12)) 13 (v 13)) 14 (v 14)) 15 (v 15)) (va_up (va_up (va_up f 14 (f 14)) 10 (f 10)) 11 (f 11)) g 7 SS EE (by decide) (show 7 ≤ (7 : Int) ∧ (7 : Int) ≤ 9 from by omega) (show xX 1 SS EE (f 14) (v 11) (f 10) (f 11) (v 8) (v 12) (v 13) (v 14) from hX)) mM_X1_76 mI_X1_putSign mE_X1_putSign mN_X1 mC_X1_putSign (by decide +kernel) 21 (ci := 1) rfl rfl hP hS (fun _ h => h) ⟨Nat.le_of_ble_eq_true rfl, Nat.le_of_ble_eq_true rfl⟩ ⟨Nat.zero_le _, Nat.zero_le _⟩ hl.1 rfl rfl (Nat.le_of_ble_eq_true rfl) dX1_readBehindFactor_40 (fun r_4 v_4 f_4 g_4 H locs hq_4 hP _ hS => ?_)
    obtain ⟨w8_4, w11_4, w14_4, w15_4, a14_4, a10_4, a11_4, rfl, rfl, rfl, rfl, p0_4, p1_4⟩ := hq_4
    show W p l e (gRm 3 66) s m args below meth c _ _ 0 0 Q (F0 m 43 ls [])
    have hP : gWd D (rwT k ad) (va_up (va_up (va_up (va_up (va_up (va_up v 8 w8_4) 11 w11_4) 12 (v 12)) 13 (v 13)) 14 w14_4) 15 w15_4) (va_up (va_up (va_up f 14 a14_4) 10 a10_4) 11 a11_4) g H := ⟨hP.1, (gF_up (V := rwV) (F := rwF) (gF_up (V := rwV) (F := rwF) (gF_up (V := rwV) (F := rwF) (gR_up (V := rwV) (F := rwF) (gR_up (V := rwV) (F := rwF) (gR_up (V := rwV) (F := rwF) (gR_up (V := rwV) (F := rwF) (gR_up (V := rwV) (F := rwF) (gR_up (V := rwV) (F := rwF) ⟨hok.1, hok.2⟩ 8 (hP.2.1 8)) 11 (hP.2.1 11)) 12 (hP.2.1 12)) 13 (hP.2.1 13)) 14 (hP.2.1 14)) 15 (hP.2.1 15)) 14 (hP.2.2 14)) 10 (hP.2.2 10)) 11 (hP.2.2 11))⟩
    replace p0_4 : (v 14) < 40 → w15_4 = (v 15) ∧ xX 0 ((7 : Int) :: (rlS (7 : Int) SS EE).1) (rlS (7 : Int) SS EE).2 a14_4 w11_4 a10_4 a11_4 w8_4 (v 12) (v 13) w14_4 := p0_4
    replace p1_4 : 40 ≤ (v 14) → w15_4 = 3 := p1_4
    have rw8_4 : 0 ≤ w8_4 ∧ w8_4 ≤ 40 := hP.2.1 8
    have rw11_4 : 0 ≤ w11_4 ∧ w11_4 ≤ 27 := hP.2.1 11
    have rw14_4 : 0 ≤ w14_4 ∧ w14_4 ≤ 41 := hP.2.1 14
    have rw15_4 : 0 ≤ w15_4 ∧ w15_4 ≤ 5 := hP.2.1 15
    have hS0 := p0_4
    have hS3 := p1_4
    refine lv_iconst (v := iI 0) hx hb dX1_readBehindFactor_43 rfl ?_
    exact g_zret hQ C hr hlocks (by decide) hP hS dX1_readBehindFactor_44 ⟨0, w8_4, w11_4, (v 12), (v 13), w14_4, w15_4, a14_4, a10_4, a11_4, rfl, rfl, rfl, rfl, (by first | omega | (split <;> omega)), (by first | exact (if hlt : (v 14) < 40 then Or.inl ⟨by have := hS0 hlt; omega, by omega, _, _, (hS0 hlt).2, fun k => exF_sg k (by omega) (by omega)⟩ else Or.inr ⟨by have := hS3 (by omega); omega, fun k => (exF_sg3 k (by omega) (by omega)).trans (Prod.ext (hS3 (by omega)).symm rfl)⟩) | exact (if hlt : 0 < (v 13) then Or.inl ⟨by have := hC1 hlt; omega, by omega, _, _, (hC1 hlt).2, fun k => exF_clo k (by omega) (by omega)⟩ else Or.inr ⟨by have := hC0 (by omega); omega, fun k => (exF_bad1 k (by omega) (by omega) (by omega)).trans (Prod.ext (by show fk _ _ _ = _; unfold fk; rw [if_neg (by omega)]; exact (hC0 (by omega)).symm) rfl)⟩) | exact Or.inr ⟨by split <;> omega, fun k => (exF_bad1 k (by omega) (by omega) (by omega)).trans (Prod.ext (by show fk _ _ _ = _; unfold fk; rw [ha]) rfl)⟩)⟩
  by_cases c_1_44 : a1 = 44
  · refine lv_tableIn (off := 69) (tgt := 70) hx hb dX1_readBehindFactor_1 (by rw [c_1_44]; decide) (by rw [c_1_44]; decide) (by rw [c_1_44]; rfl) (by decide) ?_
    refine lv_aload_n hx hb dX1_readBehindFactor_70 rfl (lv_at hl 0 rfl) ?_
    refine lv_iload_n hx hb dX1_readBehindFactor_71 rfl (lv_at hl 1 rfl) ?_
    refine g_cv (As := [.int (iI a1)]) (rest := []) (n := 1) C hml (e_Ex_refuseToken l D k A ad hD (va_up (va_up (va_up (va_up (va_up (va_up v 8 (v 8)) 11 (v 11)) 12 (v 12)) 13 (v 13)) 14 (v 14)) 15 (v 15)) (va_up (va_up (va_up f 14 (f 14)) 10 (f 10)) 11 (f 11)) g a1 (by omega)) mM_X1_73 mI_X1_refuseToken mE_X1_refuseToken mN_X1 mC_X1_refuseToken (by decide +kernel) 21 (ci := 1) rfl rfl hP hS (fun _ h => h) ⟨Nat.le_of_ble_eq_true rfl, Nat.le_of_ble_eq_true rfl⟩ ⟨Nat.zero_le _, Nat.zero_le _⟩ hl.1 rfl rfl (Nat.le_of_ble_eq_true rfl) dX1_readBehindFactor_72 (fun r_5 v_5 f_5 g_5 H locs hq_5 hP _ hS => ?_)
    obtain ⟨rfl, rfl, rfl, rfl⟩ := hq_5
    show W p l e (gRm 3 66) s m args below meth c _ _ 0 0 Q (F0 m 75 ls [])
    have hP : gWd D (rwT k ad) (va_up (va_up (va_up (va_up (va_up (va_up v 8 (v 8)) 11 (v 11)) 12 (v 12)) 13 (v 13)) 14 (v 14)) 15 (if a1 = 257 then 1 else 2)) (va_up (va_up (va_up f 14 (f 14)) 10 (f 10)) 11 (f 11)) g H := ⟨hP.1, (gF_up (V := rwV) (F := rwF) (gF_up (V := rwV) (F := rwF) (gF_up (V := rwV) (F := rwF) (gR_up (V := rwV) (F := rwF) (gR_up (V := rwV) (F := rwF) (gR_up (V := rwV) (F := rwF) (gR_up (V := rwV) (F := rwF) (gR_up (V := rwV) (F := rwF) (gR_up (V := rwV) (F := rwF) ⟨hok.1, hok.2⟩ 8 (hP.2.1 8)) 11 (hP.2.1 11)) 12 (hP.2.1 12)) 13 (hP.2.1 13)) 14 (hP.2.1 14)) 15 (hP.2.1 15)) 14 (hP.2.2 14)) 10 (hP.2.2 10)) 11 (hP.2.2 11))⟩
    refine lv_iconst (v := iI 1) hx hb dX1_readBehindFactor_75 rfl ?_
    exact g_zret hQ C hr hlocks (by decide) hP hS dX1_readBehindFactor_76 ⟨1, (v 8), (v 11), (v 12), (v 13), (v 14), (if a1 = 257 then 1 else 2), (f 14), (f 10), (f 11), rfl, rfl, rfl, rfl, (by first | omega | (split <;> omega)), (by first | exact (if hlt : (v 14) < 40 then Or.inl ⟨by have := hS0 hlt; omega, by omega, _, _, (hS0 hlt).2, fun k => exF_sg k (by omega) (by omega)⟩ else Or.inr ⟨by have := hS3 (by omega); omega, fun k => (exF_sg3 k (by omega) (by omega)).trans (Prod.ext (hS3 (by omega)).symm rfl)⟩) | exact (if hlt : 0 < (v 13) then Or.inl ⟨by have := hC1 hlt; omega, by omega, _, _, (hC1 hlt).2, fun k => exF_clo k (by omega) (by omega)⟩ else Or.inr ⟨by have := hC0 (by omega); omega, fun k => (exF_bad1 k (by omega) (by omega) (by omega)).trans (Prod.ext (by show fk _ _ _ = _; unfold fk; rw [if_neg (by omega)]; exact (hC0 (by omega)).symm) rfl)⟩) | exact Or.inr ⟨by split <;> omega, fun k => (exF_bad1 k (by omega) (by omega) (by omega)).trans (Prod.ext (by show fk _ _ _ = _; unfold fk; rw [ha]) rfl)⟩)⟩
  by_cases c_1_45 : a1 = 45
  · refine lv_tableIn (off := 44) (tgt := 45) hx hb dX1_readBehindFactor_1 (by rw [c_1_45]; decide) (by rw [c_1_45]; decide) (by rw [c_1_45]; rfl) (by decide) ?_
    refine lv_aload_n hx hb dX1_readBehindFactor_45 rfl (lv_at hl 0 rfl) ?_
    refine lv_bipush (v := iI 8) hx hb dX1_readBehindFactor_46 (by decide) ?_
    refine lv_aload_n hx hb dX1_readBehindFactor_48 rfl (lv_at hl 2 rfl) ?_
    refine g_cv (As := [.int (iI 8), .ref (ad 14)]) (rest := []) (n := 2) C hml (e_Ex_putSign l D k A ad hD (va_up (va_up (va_up (va_up (va_up (va_up v 8 (v 8)) 11 (v 11)) 12 (v 12)) 13 (v 13)) 14 (v 14)) 15 (v 15)) (va_up (va_up (va_up f 14 (f 14)) 10 (f 10)) 11 (f 11)) g 8 SS EE (by decide) (show 7 ≤ (8 : Int) ∧ (8 : Int) ≤ 9 from by omega) (show xX 1 SS EE (f 14) (v 11) (f 10) (f 11) (v 8) (v 12) (v 13) (v 14) from hX)) mM_X1_76 mI_X1_putSign mE_X1_putSign mN_X1 mC_X1_putSign (by decide +kernel) 21 (ci := 1) rfl rfl hP hS (fun _ h => h) ⟨Nat.le_of_ble_eq_true rfl, Nat.le_of_ble_eq_true rfl⟩ ⟨Nat.zero_le _, Nat.zero_le _⟩ hl.1 rfl rfl (Nat.le_of_ble_eq_true rfl) dX1_readBehindFactor_49 (fun r_6 v_6 f_6 g_6 H locs hq_6 hP _ hS => ?_)
    obtain ⟨w8_6, w11_6, w14_6, w15_6, a14_6, a10_6, a11_6, rfl, rfl, rfl, rfl, p0_6, p1_6⟩ := hq_6
    show W p l e (gRm 3 66) s m args below meth c _ _ 0 0 Q (F0 m 52 ls [])
    have hP : gWd D (rwT k ad) (va_up (va_up (va_up (va_up (va_up (va_up v 8 w8_6) 11 w11_6) 12 (v 12)) 13 (v 13)) 14 w14_6) 15 w15_6) (va_up (va_up (va_up f 14 a14_6) 10 a10_6) 11 a11_6) g H := ⟨hP.1, (gF_up (V := rwV) (F := rwF) (gF_up (V := rwV) (F := rwF) (gF_up (V := rwV) (F := rwF) (gR_up (V := rwV) (F := rwF) (gR_up (V := rwV) (F := rwF) (gR_up (V := rwV) (F := rwF) (gR_up (V := rwV) (F := rwF) (gR_up (V := rwV) (F := rwF) (gR_up (V := rwV) (F := rwF) ⟨hok.1, hok.2⟩ 8 (hP.2.1 8)) 11 (hP.2.1 11)) 12 (hP.2.1 12)) 13 (hP.2.1 13)) 14 (hP.2.1 14)) 15 (hP.2.1 15)) 14 (hP.2.2 14)) 10 (hP.2.2 10)) 11 (hP.2.2 11))⟩
    replace p0_6 : (v 14) < 40 → w15_6 = (v 15) ∧ xX 0 ((8 : Int) :: (rlS (8 : Int) SS EE).1) (rlS (8 : Int) SS EE).2 a14_6 w11_6 a10_6 a11_6 w8_6 (v 12) (v 13) w14_6 := p0_6
    replace p1_6 : 40 ≤ (v 14) → w15_6 = 3 := p1_6
    have rw8_6 : 0 ≤ w8_6 ∧ w8_6 ≤ 40 := hP.2.1 8
    have rw11_6 : 0 ≤ w11_6 ∧ w11_6 ≤ 27 := hP.2.1 11
    have rw14_6 : 0 ≤ w14_6 ∧ w14_6 ≤ 41 := hP.2.1 14
    have rw15_6 : 0 ≤ w15_6 ∧ w15_6 ≤ 5 := hP.2.1 15
    have hS0 := p0_6
    have hS3 := p1_6
    refine lv_iconst (v := iI 0) hx hb dX1_readBehindFactor_52 rfl ?_
    exact g_zret hQ C hr hlocks (by decide) hP hS dX1_readBehindFactor_53 ⟨0, w8_6, w11_6, (v 12), (v 13), w14_6, w15_6, a14_6, a10_6, a11_6, rfl, rfl, rfl, rfl, (by first | omega | (split <;> omega)), (by first | exact (if hlt : (v 14) < 40 then Or.inl ⟨by have := hS0 hlt; omega, by omega, _, _, (hS0 hlt).2, fun k => exF_sg k (by omega) (by omega)⟩ else Or.inr ⟨by have := hS3 (by omega); omega, fun k => (exF_sg3 k (by omega) (by omega)).trans (Prod.ext (hS3 (by omega)).symm rfl)⟩) | exact (if hlt : 0 < (v 13) then Or.inl ⟨by have := hC1 hlt; omega, by omega, _, _, (hC1 hlt).2, fun k => exF_clo k (by omega) (by omega)⟩ else Or.inr ⟨by have := hC0 (by omega); omega, fun k => (exF_bad1 k (by omega) (by omega) (by omega)).trans (Prod.ext (by show fk _ _ _ = _; unfold fk; rw [if_neg (by omega)]; exact (hC0 (by omega)).symm) rfl)⟩) | exact Or.inr ⟨by split <;> omega, fun k => (exF_bad1 k (by omega) (by omega) (by omega)).trans (Prod.ext (by show fk _ _ _ = _; unfold fk; rw [ha]) rfl)⟩)⟩
  refine lv_tableOut (tgt := 70) hx hb dX1_readBehindFactor_1 (by rw [iI_toInt (by omega)]; omega) (by decide) ?_
  refine lv_aload_n hx hb dX1_readBehindFactor_70 rfl (lv_at hl 0 rfl) ?_
  refine lv_iload_n hx hb dX1_readBehindFactor_71 rfl (lv_at hl 1 rfl) ?_
  refine g_cv (As := [.int (iI a1)]) (rest := []) (n := 1) C hml (e_Ex_refuseToken l D k A ad hD (va_up (va_up (va_up (va_up (va_up (va_up v 8 (v 8)) 11 (v 11)) 12 (v 12)) 13 (v 13)) 14 (v 14)) 15 (v 15)) (va_up (va_up (va_up f 14 (f 14)) 10 (f 10)) 11 (f 11)) g a1 (by omega)) mM_X1_73 mI_X1_refuseToken mE_X1_refuseToken mN_X1 mC_X1_refuseToken (by decide +kernel) 21 (ci := 1) rfl rfl hP hS (fun _ h => h) ⟨Nat.le_of_ble_eq_true rfl, Nat.le_of_ble_eq_true rfl⟩ ⟨Nat.zero_le _, Nat.zero_le _⟩ hl.1 rfl rfl (Nat.le_of_ble_eq_true rfl) dX1_readBehindFactor_72 (fun r_7 v_7 f_7 g_7 H locs hq_7 hP _ hS => ?_)
  obtain ⟨rfl, rfl, rfl, rfl⟩ := hq_7
  show W p l e (gRm 3 66) s m args below meth c _ _ 0 0 Q (F0 m 75 ls [])
  have hP : gWd D (rwT k ad) (va_up (va_up (va_up (va_up (va_up (va_up v 8 (v 8)) 11 (v 11)) 12 (v 12)) 13 (v 13)) 14 (v 14)) 15 (if a1 = 257 then 1 else 2)) (va_up (va_up (va_up f 14 (f 14)) 10 (f 10)) 11 (f 11)) g H := ⟨hP.1, (gF_up (V := rwV) (F := rwF) (gF_up (V := rwV) (F := rwF) (gF_up (V := rwV) (F := rwF) (gR_up (V := rwV) (F := rwF) (gR_up (V := rwV) (F := rwF) (gR_up (V := rwV) (F := rwF) (gR_up (V := rwV) (F := rwF) (gR_up (V := rwV) (F := rwF) (gR_up (V := rwV) (F := rwF) ⟨hok.1, hok.2⟩ 8 (hP.2.1 8)) 11 (hP.2.1 11)) 12 (hP.2.1 12)) 13 (hP.2.1 13)) 14 (hP.2.1 14)) 15 (hP.2.1 15)) 14 (hP.2.2 14)) 10 (hP.2.2 10)) 11 (hP.2.2 11))⟩
  refine lv_iconst (v := iI 1) hx hb dX1_readBehindFactor_75 rfl ?_
  exact g_zret hQ C hr hlocks (by decide) hP hS dX1_readBehindFactor_76 ⟨1, (v 8), (v 11), (v 12), (v 13), (v 14), (if a1 = 257 then 1 else 2), (f 14), (f 10), (f 11), rfl, rfl, rfl, rfl, (by first | omega | (split <;> omega)), (by first | exact (if hlt : (v 14) < 40 then Or.inl ⟨by have := hS0 hlt; omega, by omega, _, _, (hS0 hlt).2, fun k => exF_sg k (by omega) (by omega)⟩ else Or.inr ⟨by have := hS3 (by omega); omega, fun k => (exF_sg3 k (by omega) (by omega)).trans (Prod.ext (hS3 (by omega)).symm rfl)⟩) | exact (if hlt : 0 < (v 13) then Or.inl ⟨by have := hC1 hlt; omega, by omega, _, _, (hC1 hlt).2, fun k => exF_clo k (by omega) (by omega)⟩ else Or.inr ⟨by have := hC0 (by omega); omega, fun k => (exF_bad1 k (by omega) (by omega) (by omega)).trans (Prod.ext (by show fk _ _ _ = _; unfold fk; rw [if_neg (by omega)]; exact (hC0 (by omega)).symm) rfl)⟩) | exact Or.inr ⟨by split <;> omega, fun k => (exF_bad1 k (by omega) (by omega) (by omega)).trans (Prod.ext (by show fk _ _ _ = _; unfold fk; rw [ha]) rfl)⟩)⟩

set_option maxHeartbeats 4000000 in
set_option maxRecDepth 100000 in
theorem e_Ex_readFactor (l : Launch) (D : va_G) (k : Nat → ClassId) (A : Nat → Prop) (ad : Nat → Nat) (hD : rwD A k ad) (v : gV) (f g : gF) (nn : Int) (pp : Int) (SS : List Int) (EE : List (Int × Int)) (hc : tAt (f 0) nn (f 6) (f 7) (f 8) (v 5) (v 6) pp) (hf : (v 15) = 0) (hX : xX 0 SS EE (f 14) (v 11) (f 10) (f 11) (v 8) (v 12) (v 13) (v 14)) : GM l D k A (rwT k ad) yX1_readFactor cX1_readFactor 5 (some .boolean) 2 43 [.ref (ad 21), .ref (ad 10), .ref (ad 14)] v f g (fun r v1 f1 g1 => ∃ (z : Int) (w8 : Int) (w11 : Int) (w12 : Int) (w13 : Int) (w14 : Int) (w15 : Int) (a14_ : Int → Int) (a10_ : Int → Int) (a11_ : Int → Int), r = some (.int (iI z)) ∧ (va_up (va_up (va_up (va_up (va_up (va_up v 8 w8) 11 w11) 12 w12) 13 w13) 14 w14) 15 w15) = v1 ∧ (va_up (va_up (va_up f 14 a14_) 10 a10_) 11 a11_) = f1 ∧ g = g1 ∧ (0 ≤ z ∧ z ≤ 1) ∧ ((w15 = 0 ∧ ((tK (f 0) nn pp) ≠ 256 ∧ (tK (f 0) nn pp) ≠ 257) ∧ ∃ Sx Ex, xX z Sx Ex a14_ w11 a10_ a11_ w8 w12 w13 w14 ∧ ∀ k : Nat, exF (f 0) nn (k + 1) pp 0 SS EE = exF (f 0) nn k (tX (f 0) nn pp) z Sx Ex) ∨ (w15 ≠ 0 ∧ ∀ k : Nat, exF (f 0) nn (k + 1) pp 0 SS EE = (w15, pp, EE)))) := by
  refine GM.of (by decide) (Nat.le_of_ble_eq_true rfl) ?_
  intro p e s m args below meth c Q ls hQ C hml hr hlocks hP hl
  have hx := C.1
  have hb := C.2.1
  have hok := hP.2
  have hS : va_S A s.heap s.heap [] := va_S.rf
  have hl : lv_has ls 5 [(0, .ref (ad 21)), (1, .ref (ad 10)), (2, .ref (ad 14))] := hl
  have hP : gWd D (rwT k ad) (va_up (va_up (va_up (va_up (va_up (va_up v 8 (v 8)) 11 (v 11)) 12 (v 12)) 13 (v 13)) 14 (v 14)) 15 (v 15)) (va_up (va_up (va_up f 14 (f 14)) 10 (f 10)) 11 (f 11)) g s.heap := by rw [va_id, va_id, va_id, va_id, va_id, va_id, va_id, va_id, va_id]; exact hP
  obtain ⟨hw, hd, hrS, hcd, hn, hp, hi, hi4, hn8⟩ := id hX
  have hle := rep_len _ _ _ hrS
  have hwl0 := wfS_len _ hw
  have hps0 := cnt_pos SS
  have hc8 := repC_len _ _ _ _ hcd
  refine lv_aload_n hx hb dX1_readFactor_0 rfl (lv_at hl 1 rfl) ?_
  refine g_cv (As := []) (rest := []) (n := 0) C hml (e_To_kind l D k A ad hD (va_up (va_up (va_up (va_up (va_up (va_up v 8 (v 8)) 11 (v 11)) 12 (v 12)) 13 (v 13)) 14 (v 14)) 15 (v 15)) (va_up (va_up (va_up f 14 (f 14)) 10 (f 10)) 11 (f 11)) g nn pp (show tAt (f 0) nn (f 6) (f 7) (f 8) (v 5) (v 6) pp from hc)) mM_X1_34 mI_X6_kind mE_X6_kind mN_X6 mC_X6_kind (by decide +kernel) 10 (ci := 6) rfl rfl hP hS (fun _ h => h) ⟨Nat.le_of_ble_eq_true rfl, Nat.le_of_ble_eq_true rfl⟩ ⟨Nat.zero_le _, Nat.zero_le _⟩ hl.1 rfl rfl (Nat.le_of_ble_eq_true rfl) dX1_readFactor_1 (fun r_1 v_1 f_1 g_1 H locs hq_1 hP _ hS => ?_)
  obtain ⟨z_1, rfl, rfl, rfl, rfl, p0_1, p1_1⟩ := hq_1
  show W p l e (gRm 2 43) s m args below meth c _ _ 0 0 Q (F0 m 4 ls [.int (iI z_1)])
  replace p0_1 : z_1 = (tK (f 0) nn pp) := p0_1
  replace p1_1 : 40 ≤ z_1 ∧ z_1 ≤ 277 := p1_1
  have hz_1 : inR z_1 := (by first | omega | (rw [p0_1]; split <;> omega))
  have hK := p0_1
  refine lv_istore_n (lv' := [(3, .int (iI z_1)), (0, .ref (ad 21)), (1, .ref (ad 10)), (2, .ref (ad 14))]) hx hb dX1_readFactor_4 rfl hl (by decide) rfl (fun ls hl => ?_)
  refine lv_iload_n hx hb dX1_readFactor_5 rfl (lv_at hl 0 rfl) ?_
  refine lv_sipush (v := iI 272) hx hb dX1_readFactor_6 (by decide) ?_
  refine gi_sub (z := (z_1 - 272)) hx hb dX1_readFactor_9 rfl ?_
  refine lv_istore (lv' := [(4, .int (iI (z_1 - 272))), (3, .int (iI z_1)), (0, .ref (ad 21)), (1, .ref (ad 10)), (2, .ref (ad 14))]) hx hb dX1_readFactor_10 hl (by decide) rfl (fun ls hl => ?_)
  refine lv_iload_n hx hb dX1_readFactor_12 rfl (lv_at hl 1 rfl) ?_
  refine lv_sipush (v := iI 258) hx hb dX1_readFactor_13 (by decide) ?_
  refine gi_ceq (tgt := 31) hx hb dX1_readFactor_16 (by decide) (by omega) (by decide) (fun c_2 => ?_) (fun c_2 => ?_)
  · refine lv_aload_n hx hb dX1_readFactor_31 rfl (lv_at hl 2 rfl) ?_
    refine g_cv (As := []) (rest := []) (n := 0) C hml (e_Ex_countItem l D k A ad hD (va_up (va_up (va_up (va_up (va_up (va_up v 8 (v 8)) 11 (v 11)) 12 (v 12)) 13 (v 13)) 14 (v 14)) 15 (v 15)) (va_up (va_up (va_up f 14 (f 14)) 10 (f 10)) 11 (f 11)) g (show (v 14) ≤ 40 from by omega)) mM_X1_55 mI_X1_countItem mE_X1_countItem mN_X1 mC_X1_countItem (by decide +kernel) 21 (ci := 1) rfl rfl hP hS (fun _ h => h) ⟨Nat.le_of_ble_eq_true rfl, Nat.le_of_ble_eq_true rfl⟩ ⟨Nat.zero_le _, Nat.zero_le _⟩ hl.1 rfl rfl (Nat.le_of_ble_eq_true rfl) dX1_readFactor_32 (fun r_3 v_3 f_3 g_3 H locs hq_3 hP _ hS => ?_)
    obtain ⟨w15_3, rfl, rfl, rfl, rfl, p0_3, p1_3⟩ := hq_3
    show W p l e (gRm 2 43) s m args below meth c _ _ 0 0 Q (F0 m 35 ls [])
    have hP : gWd D (rwT k ad) (va_up (va_up (va_up (va_up (va_up (va_up v 8 (v 8)) 11 (v 11)) 12 (v 12)) 13 (v 13)) 14 ((v 14) + 1)) 15 w15_3) (va_up (va_up (va_up f 14 (f 14)) 10 (f 10)) 11 (f 11)) g H := ⟨hP.1, (gF_up (V := rwV) (F := rwF) (gF_up (V := rwV) (F := rwF) (gF_up (V := rwV) (F := rwF) (gR_up (V := rwV) (F := rwF) (gR_up (V := rwV) (F := rwF) (gR_up (V := rwV) (F := rwF) (gR_up (V := rwV) (F := rwF) (gR_up (V := rwV) (F := rwF) (gR_up (V := rwV) (F := rwF) ⟨hok.1, hok.2⟩ 8 (hP.2.1 8)) 11 (hP.2.1 11)) 12 (hP.2.1 12)) 13 (hP.2.1 13)) 14 (hP.2.1 14)) 15 (hP.2.1 15)) 14 (hP.2.2 14)) 10 (hP.2.2 10)) 11 (hP.2.2 11))⟩
    replace p0_3 : (v 14) < 40 → w15_3 = (v 15) := p0_3
    replace p1_3 : 40 ≤ (v 14) → w15_3 = 3 := p1_3
    have rw15_3 : 0 ≤ w15_3 ∧ w15_3 ≤ 5 := hP.2.1 15
    have hI0 := p0_3
    have hI3 := p1_3
    refine lv_aload_n hx hb dX1_readFactor_35 rfl (lv_at hl 4 rfl) ?_
    refine lv_iload_n hx hb dX1_readFactor_36 rfl (lv_at hl 1 rfl) ?_
    refine lv_sipush (v := iI 258) hx hb dX1_readFactor_37 (by decide) ?_
    refine gi_cne (tgt := 48) hx hb dX1_readFactor_40 (by decide) (by omega) (by decide) (fun c_4 => ?_) (fun c_4 => ?_)
    · refine lv_iload hx hb dX1_readFactor_48 (lv_at hl 0 rfl) ?_
      refine lv_aload_n hx hb dX1_readFactor_50 rfl (lv_at hl 3 rfl) ?_
      refine g_cv (As := []) (rest := [.int (iI (z_1 - 272)), .ref (ad 14)]) (n := 0) C hml (e_To_value l D k A ad hD (va_up (va_up (va_up (va_up (va_up (va_up v 8 (v 8)) 11 (v 11)) 12 (v 12)) 13 (v 13)) 14 ((v 14) + 1)) 15 w15_3) (va_up (va_up (va_up f 14 (f 14)) 10 (f 10)) 11 (f 11)) g nn pp (show tAt (f 0) nn (f 6) (f 7) (f 8) (v 5) (v 6) pp from hc)) mM_X1_58 mI_X6_value mE_X6_value mN_X6 mC_X6_value (by decide +kernel) 10 (ci := 6) rfl rfl hP hS (fun _ h => h) ⟨Nat.le_of_ble_eq_true rfl, Nat.le_of_ble_eq_true rfl⟩ ⟨Nat.zero_le _, Nat.zero_le _⟩ hl.1 rfl rfl (Nat.le_of_ble_eq_true rfl) dX1_readFactor_51 (fun r_5 v_5 f_5 g_5 H locs hq_5 hP _ hS => ?_)
      obtain ⟨z_5, rfl, rfl, rfl, rfl, p0_5, p1_5⟩ := hq_5
      show W p l e (gRm 2 43) s m args below meth c _ _ 0 0 Q (F0 m 54 ls [.int (iI z_5), .int (iI (z_1 - 272)), .ref (ad 14)])
      replace p0_5 : z_5 = (tV (f 0) nn pp) := p0_5
      replace p1_5 : 0 ≤ z_5 ∧ z_5 ≤ 999999 := p1_5
      have hz_5 : inR z_5 := (by first | omega | (rw [p0_5]; split <;> omega))
      have hVl := p0_5
      refine g_cv (As := [.int (iI (z_1 - 272)), .int (iI z_5)]) (rest := []) (n := 2) C hml (e_La_addItem l D k A ad hD (va_up (va_up (va_up (va_up (va_up (va_up v 8 (v 8)) 11 (v 11)) 12 (v 12)) 13 (v 13)) 14 ((v 14) + 1)) 15 w15_3) (va_up (va_up (va_up f 14 (f 14)) 10 (f 10)) 11 (f 11)) g (z_1 - 272) z_5 (by omega) (by omega) (show 0 ≤ (z_1 - 272) ∧ (z_1 - 272) ≤ 10 from by omega) (show 0 ≤ z_5 ∧ z_5 ≤ 999999 from by omega)) mM_X1_61 mI_X4_addItem mE_X4_addItem mN_X4 mC_X4_addItem (by decide +kernel) 14 (ci := 4) rfl rfl hP hS (fun _ h => h) ⟨Nat.le_of_ble_eq_true rfl, Nat.le_of_ble_eq_true rfl⟩ ⟨Nat.zero_le _, Nat.zero_le _⟩ hl.1 rfl rfl (Nat.le_of_ble_eq_true rfl) dX1_readFactor_54 (fun r_6 v_6 f_6 g_6 H locs hq_6 hP _ hS => ?_)
      obtain ⟨w8_6, a10_6, a11_6, rfl, rfl, rfl, rfl, p0_6⟩ := hq_6
      show W p l e (gRm 2 43) s m args below meth c _ _ 0 0 Q (F0 m 57 ls [])
      have hP : gWd D (rwT k ad) (va_up (va_up (va_up (va_up (va_up (va_up v 8 w8_6) 11 (v 11)) 12 (v 12)) 13 (v 13)) 14 ((v 14) + 1)) 15 w15_3) (va_up (va_up (va_up f 14 (f 14)) 10 a10_6) 11 a11_6) g H := ⟨hP.1, (gF_up (V := rwV) (F := rwF) (gF_up (V := rwV) (F := rwF) (gF_up (V := rwV) (F := rwF) (gR_up (V := rwV) (F := rwF) (gR_up (V := rwV) (F := rwF) (gR_up (V := rwV) (F := rwF) (gR_up (V := rwV) (F := rwF) (gR_up (V := rwV) (F := rwF) (gR_up (V := rwV) (F := rwF) ⟨hok.1, hok.2⟩ 8 (hP.2.1 8)) 11 (hP.2.1 11)) 12 (hP.2.1 12)) 13 (hP.2.1 13)) 14 (hP.2.1 14)) 15 (hP.2.1 15)) 14 (hP.2.2 14)) 10 (hP.2.2 10)) 11 (hP.2.2 11))⟩
      replace p0_6 : (v 8) < 40 → w8_6 = (v 8) + 1 ∧ a10_6 = u1 (f 10) (v 8) (z_1 - 272) ∧ a11_6 = u1 (f 11) (v 8) z_5 := p0_6
      have rw8_6 : 0 ≤ w8_6 ∧ w8_6 ≤ 40 := hP.2.1 8
      have hAd := p0_6
      refine lv_aload_n hx hb dX1_readFactor_57 rfl (lv_at hl 2 rfl) ?_
      refine lv_aload_n hx hb dX1_readFactor_58 rfl (lv_at hl 4 rfl) ?_
      refine g_cv (As := [.ref (ad 14)]) (rest := []) (n := 1) C hml (e_Ex_releaseNegations l D k A ad hD (va_up (va_up (va_up (va_up (va_up (va_up v 8 w8_6) 11 (v 11)) 12 (v 12)) 13 (v 13)) 14 ((v 14) + 1)) 15 w15_3) (va_up (va_up (va_up f 14 (f 14)) 10 a10_6) 11 a11_6) g SS (((z_1 - 272), z_5) :: EE) ((v 14) < 40) (show wfS SS from hw) (show rep SS (f 14) (v 11) from hrS) (show (v 12) = cNs SS from by omega) (show ((v 14) < 40) → repC id (((z_1 - 272), z_5) :: EE) a10_6 a11_6 w8_6 ∧ ((((z_1 - 272), z_5) :: EE).length : Int) + cSg SS ≤ 40 from fun hg => by have h4 := hAd (by omega); rw [h4.1, h4.2.1, h4.2.2]; exact ⟨repC_push (z_1 - 272) hcd rfl, by simp only [List.length_cons]; omega⟩)) mM_X1_65 mI_X1_releaseNegations mE_X1_releaseNegations mN_X1 mC_X1_releaseNegations (by decide +kernel) 21 (ci := 1) rfl rfl hP hS (fun _ h => h) ⟨Nat.le_of_ble_eq_true rfl, Nat.le_of_ble_eq_true rfl⟩ ⟨Nat.zero_le _, Nat.zero_le _⟩ hl.1 rfl rfl (Nat.le_of_ble_eq_true rfl) dX1_readFactor_59 (fun r_7 v_7 f_7 g_7 H locs hq_7 hP _ hS => ?_)
      obtain ⟨w8_7, w11_7, w12_7, a10_7, a11_7, rfl, rfl, rfl, rfl, p0_7, p1_7, p2_7⟩ := hq_7
      show W p l e (gRm 2 43) s m args below meth c _ _ 0 0 Q (F0 m 62 ls [])
      have hP : gWd D (rwT k ad) (va_up (va_up (va_up (va_up (va_up (va_up v 8 w8_7) 11 w11_7) 12 w12_7) 13 (v 13)) 14 ((v 14) + 1)) 15 w15_3) (va_up (va_up (va_up f 14 (f 14)) 10 a10_7) 11 a11_7) g H := ⟨hP.1, (gF_up (V := rwV) (F := rwF) (gF_up (V := rwV) (F := rwF) (gF_up (V := rwV) (F := rwF) (gR_up (V := rwV) (F := rwF) (gR_up (V := rwV) (F := rwF) (gR_up (V := rwV) (F := rwF) (gR_up (V := rwV) (F := rwF) (gR_up (V := rwV) (F := rwF) (gR_up (V := rwV) (F := rwF) ⟨hok.1, hok.2⟩ 8 (hP.2.1 8)) 11 (hP.2.1 11)) 12 (hP.2.1 12)) 13 (hP.2.1 13)) 14 (hP.2.1 14)) 15 (hP.2.1 15)) 14 (hP.2.2 14)) 10 (hP.2.2 10)) 11 (hP.2.2 11))⟩
      replace p0_7 : rep (rlN SS (((z_1 - 272), z_5) :: EE)).1 (f 14) w11_7 := p0_7
      replace p1_7 : w12_7 = cNs (rlN SS (((z_1 - 272), z_5) :: EE)).1 := p1_7
      replace p2_7 : ((v 14) < 40) → repC id (rlN SS (((z_1 - 272), z_5) :: EE)).2 a10_7 a11_7 w8_7 := p2_7
      have rw8_7 : 0 ≤ w8_7 ∧ w8_7 ≤ 40 := hP.2.1 8
      have rw11_7 : 0 ≤ w11_7 ∧ w11_7 ≤ 27 := hP.2.1 11
      have rw12_7 : 0 ≤ w12_7 ∧ w12_7 ≤ 9 := hP.2.1 12
      have hr4 := p0_7
      have hn4 := p1_7
      have hc4 := p2_7
      refine lv_iconst (v := iI 1) hx hb dX1_readFactor_62 rfl ?_
      exact g_zret hQ C hr hlocks (by decide) hP hS dX1_readFactor_63 ⟨1, w8_7, w11_7, w12_7, (v 13), ((v 14) + 1), w15_3, (f 14), a10_7, a11_7, rfl, rfl, rfl, rfl, (by first | omega | (split <;> omega)), (by first | exact (if hlt : (v 14) < 40 then Or.inl ⟨by have := hI0 hlt; omega, by omega, _, _, xX_whole (S := SS) (E := ((z_1 - 272), z_5) :: EE) hw hr4 (hc4 hlt) hn4 (by omega) (by simp only [List.length_cons]; omega) (by omega) (by omega), fun k => exF_num k (by omega) hVl (by omega)⟩ else Or.inr ⟨by have := hI3 (by omega); omega, fun k => (exF_num3 k (by omega) (by omega)).trans (Prod.ext (hI3 (by omega)).symm rfl)⟩) | exact (if hlt : (v 14) < 40 ∧ (v 12) < 8 then Or.inl ⟨by have h1 := hN0 hlt.2; have h2 := hI0 hlt.1; omega, by omega, _, _, xX_nest (x := 10) hw (by decide) hrS hcd (by omega) (by omega) (by omega) (by omega) (by omega), fun k => exF_neg k (by omega) (by omega) (by omega)⟩ else Or.inr ⟨by omega, fun k => (exF_neg3 k (by omega) (by omega)).trans (Prod.ext (by show (3 : Int) = _; omega) rfl)⟩) | exact (if hlt : (v 12) < 8 then Or.inl ⟨by have := hN0 hlt; omega, by omega, _, _, xX_nest (x := 11) hw (by decide) hrS hcd (by omega) (by omega) (by omega) (by omega) (by omega), fun k => exF_par k (by omega) (by omega)⟩ else Or.inr ⟨by have := hN3 (by omega); omega, fun k => (exF_par3 k (by omega) (by omega)).trans (Prod.ext (hN3 (by omega)).symm rfl)⟩) | exact Or.inr ⟨by split <;> omega, fun k => (exF_bad0 k (by omega)).trans (Prod.ext (by show fk _ _ _ = _; unfold fk; rw [hK]) rfl)⟩)⟩
    · refine lv_bipush (v := iI 6) hx hb dX1_readFactor_43 (by decide) ?_
      refine lv_goto (tgt := 50) hx hb dX1_readFactor_45 (by decide) ?_
      refine lv_aload_n hx hb dX1_readFactor_50 rfl (lv_at hl 3 rfl) ?_
      refine g_cv (As := []) (rest := [.int (iI 6), .ref (ad 14)]) (n := 0) C hml (e_To_value l D k A ad hD (va_up (va_up (va_up (va_up (va_up (va_up v 8 (v 8)) 11 (v 11)) 12 (v 12)) 13 (v 13)) 14 ((v 14) + 1)) 15 w15_3) (va_up (va_up (va_up f 14 (f 14)) 10 (f 10)) 11 (f 11)) g nn pp (show tAt (f 0) nn (f 6) (f 7) (f 8) (v 5) (v 6) pp from hc)) mM_X1_58 mI_X6_value mE_X6_value mN_X6 mC_X6_value (by decide +kernel) 10 (ci := 6) rfl rfl hP hS (fun _ h => h) ⟨Nat.le_of_ble_eq_true rfl, Nat.le_of_ble_eq_true rfl⟩ ⟨Nat.zero_le _, Nat.zero_le _⟩ hl.1 rfl rfl (Nat.le_of_ble_eq_true rfl) dX1_readFactor_51 (fun r_8 v_8 f_8 g_8 H locs hq_8 hP _ hS => ?_)
      obtain ⟨z_8, rfl, rfl, rfl, rfl, p0_8, p1_8⟩ := hq_8
      show W p l e (gRm 2 43) s m args below meth c _ _ 0 0 Q (F0 m 54 ls [.int (iI z_8), .int (iI 6), .ref (ad 14)])
      replace p0_8 : z_8 = (tV (f 0) nn pp) := p0_8
      replace p1_8 : 0 ≤ z_8 ∧ z_8 ≤ 999999 := p1_8
      have hz_8 : inR z_8 := (by first | omega | (rw [p0_8]; split <;> omega))
      have hVl := p0_8
      refine g_cv (As := [.int (iI 6), .int (iI z_8)]) (rest := []) (n := 2) C hml (e_La_addItem l D k A ad hD (va_up (va_up (va_up (va_up (va_up (va_up v 8 (v 8)) 11 (v 11)) 12 (v 12)) 13 (v 13)) 14 ((v 14) + 1)) 15 w15_3) (va_up (va_up (va_up f 14 (f 14)) 10 (f 10)) 11 (f 11)) g 6 z_8 (by decide) (by omega) (show 0 ≤ (6 : Int) ∧ (6 : Int) ≤ 10 from by omega) (show 0 ≤ z_8 ∧ z_8 ≤ 999999 from by omega)) mM_X1_61 mI_X4_addItem mE_X4_addItem mN_X4 mC_X4_addItem (by decide +kernel) 14 (ci := 4) rfl rfl hP hS (fun _ h => h) ⟨Nat.le_of_ble_eq_true rfl, Nat.le_of_ble_eq_true rfl⟩ ⟨Nat.zero_le _, Nat.zero_le _⟩ hl.1 rfl rfl (Nat.le_of_ble_eq_true rfl) dX1_readFactor_54 (fun r_9 v_9 f_9 g_9 H locs hq_9 hP _ hS => ?_)
      obtain ⟨w8_9, a10_9, a11_9, rfl, rfl, rfl, rfl, p0_9⟩ := hq_9
      show W p l e (gRm 2 43) s m args below meth c _ _ 0 0 Q (F0 m 57 ls [])
      have hP : gWd D (rwT k ad) (va_up (va_up (va_up (va_up (va_up (va_up v 8 w8_9) 11 (v 11)) 12 (v 12)) 13 (v 13)) 14 ((v 14) + 1)) 15 w15_3) (va_up (va_up (va_up f 14 (f 14)) 10 a10_9) 11 a11_9) g H := ⟨hP.1, (gF_up (V := rwV) (F := rwF) (gF_up (V := rwV) (F := rwF) (gF_up (V := rwV) (F := rwF) (gR_up (V := rwV) (F := rwF) (gR_up (V := rwV) (F := rwF) (gR_up (V := rwV) (F := rwF) (gR_up (V := rwV) (F := rwF) (gR_up (V := rwV) (F := rwF) (gR_up (V := rwV) (F := rwF) ⟨hok.1, hok.2⟩ 8 (hP.2.1 8)) 11 (hP.2.1 11)) 12 (hP.2.1 12)) 13 (hP.2.1 13)) 14 (hP.2.1 14)) 15 (hP.2.1 15)) 14 (hP.2.2 14)) 10 (hP.2.2 10)) 11 (hP.2.2 11))⟩
      replace p0_9 : (v 8) < 40 → w8_9 = (v 8) + 1 ∧ a10_9 = u1 (f 10) (v 8) (6 : Int) ∧ a11_9 = u1 (f 11) (v 8) z_8 := p0_9
      have rw8_9 : 0 ≤ w8_9 ∧ w8_9 ≤ 40 := hP.2.1 8
      have hAd := p0_9
      refine lv_aload_n hx hb dX1_readFactor_57 rfl (lv_at hl 2 rfl) ?_
      refine lv_aload_n hx hb dX1_readFactor_58 rfl (lv_at hl 4 rfl) ?_
      refine g_cv (As := [.ref (ad 14)]) (rest := []) (n := 1) C hml (e_Ex_releaseNegations l D k A ad hD (va_up (va_up (va_up (va_up (va_up (va_up v 8 w8_9) 11 (v 11)) 12 (v 12)) 13 (v 13)) 14 ((v 14) + 1)) 15 w15_3) (va_up (va_up (va_up f 14 (f 14)) 10 a10_9) 11 a11_9) g SS ((6, z_8) :: EE) ((v 14) < 40) (show wfS SS from hw) (show rep SS (f 14) (v 11) from hrS) (show (v 12) = cNs SS from by omega) (show ((v 14) < 40) → repC id ((6, z_8) :: EE) a10_9 a11_9 w8_9 ∧ (((6, z_8) :: EE).length : Int) + cSg SS ≤ 40 from fun hg => by have h4 := hAd (by omega); rw [h4.1, h4.2.1, h4.2.2]; exact ⟨repC_push 6 hcd rfl, by simp only [List.length_cons]; omega⟩)) mM_X1_65 mI_X1_releaseNegations mE_X1_releaseNegations mN_X1 mC_X1_releaseNegations (by decide +kernel) 21 (ci := 1) rfl rfl hP hS (fun _ h => h) ⟨Nat.le_of_ble_eq_true rfl, Nat.le_of_ble_eq_true rfl⟩ ⟨Nat.zero_le _, Nat.zero_le _⟩ hl.1 rfl rfl (Nat.le_of_ble_eq_true rfl) dX1_readFactor_59 (fun r_10 v_10 f_10 g_10 H locs hq_10 hP _ hS => ?_)
      obtain ⟨w8_10, w11_10, w12_10, a10_10, a11_10, rfl, rfl, rfl, rfl, p0_10, p1_10, p2_10⟩ := hq_10
      show W p l e (gRm 2 43) s m args below meth c _ _ 0 0 Q (F0 m 62 ls [])
      have hP : gWd D (rwT k ad) (va_up (va_up (va_up (va_up (va_up (va_up v 8 w8_10) 11 w11_10) 12 w12_10) 13 (v 13)) 14 ((v 14) + 1)) 15 w15_3) (va_up (va_up (va_up f 14 (f 14)) 10 a10_10) 11 a11_10) g H := ⟨hP.1, (gF_up (V := rwV) (F := rwF) (gF_up (V := rwV) (F := rwF) (gF_up (V := rwV) (F := rwF) (gR_up (V := rwV) (F := rwF) (gR_up (V := rwV) (F := rwF) (gR_up (V := rwV) (F := rwF) (gR_up (V := rwV) (F := rwF) (gR_up (V := rwV) (F := rwF) (gR_up (V := rwV) (F := rwF) ⟨hok.1, hok.2⟩ 8 (hP.2.1 8)) 11 (hP.2.1 11)) 12 (hP.2.1 12)) 13 (hP.2.1 13)) 14 (hP.2.1 14)) 15 (hP.2.1 15)) 14 (hP.2.2 14)) 10 (hP.2.2 10)) 11 (hP.2.2 11))⟩
      replace p0_10 : rep (rlN SS ((6, z_8) :: EE)).1 (f 14) w11_10 := p0_10
      replace p1_10 : w12_10 = cNs (rlN SS ((6, z_8) :: EE)).1 := p1_10
      replace p2_10 : ((v 14) < 40) → repC id (rlN SS ((6, z_8) :: EE)).2 a10_10 a11_10 w8_10 := p2_10
      have rw8_10 : 0 ≤ w8_10 ∧ w8_10 ≤ 40 := hP.2.1 8
      have rw11_10 : 0 ≤ w11_10 ∧ w11_10 ≤ 27 := hP.2.1 11
      have rw12_10 : 0 ≤ w12_10 ∧ w12_10 ≤ 9 := hP.2.1 12
      have hr4 := p0_10
      have hn4 := p1_10
      have hc4 := p2_10
      refine lv_iconst (v := iI 1) hx hb dX1_readFactor_62 rfl ?_
      exact g_zret hQ C hr hlocks (by decide) hP hS dX1_readFactor_63 ⟨1, w8_10, w11_10, w12_10, (v 13), ((v 14) + 1), w15_3, (f 14), a10_10, a11_10, rfl, rfl, rfl, rfl, (by first | omega | (split <;> omega)), (by first | exact (if hlt : (v 14) < 40 then Or.inl ⟨by have := hI0 hlt; omega, by omega, _, _, xX_whole (S := SS) (E := (6, z_8) :: EE) hw hr4 (hc4 hlt) hn4 (by omega) (by simp only [List.length_cons]; omega) (by omega) (by omega), fun k => exF_num k (by omega) hVl (by omega)⟩ else Or.inr ⟨by have := hI3 (by omega); omega, fun k => (exF_num3 k (by omega) (by omega)).trans (Prod.ext (hI3 (by omega)).symm rfl)⟩) | exact (if hlt : (v 14) < 40 ∧ (v 12) < 8 then Or.inl ⟨by have h1 := hN0 hlt.2; have h2 := hI0 hlt.1; omega, by omega, _, _, xX_nest (x := 10) hw (by decide) hrS hcd (by omega) (by omega) (by omega) (by omega) (by omega), fun k => exF_neg k (by omega) (by omega) (by omega)⟩ else Or.inr ⟨by omega, fun k => (exF_neg3 k (by omega) (by omega)).trans (Prod.ext (by show (3 : Int) = _; omega) rfl)⟩) | exact (if hlt : (v 12) < 8 then Or.inl ⟨by have := hN0 hlt; omega, by omega, _, _, xX_nest (x := 11) hw (by decide) hrS hcd (by omega) (by omega) (by omega) (by omega) (by omega), fun k => exF_par k (by omega) (by omega)⟩ else Or.inr ⟨by have := hN3 (by omega); omega, fun k => (exF_par3 k (by omega) (by omega)).trans (Prod.ext (hN3 (by omega)).symm rfl)⟩) | exact Or.inr ⟨by split <;> omega, fun k => (exF_bad0 k (by omega)).trans (Prod.ext (by show fk _ _ _ = _; unfold fk; rw [hK]) rfl)⟩)⟩
  · refine lv_iload hx hb dX1_readFactor_19 (lv_at hl 0 rfl) ?_
    refine gi_zlt (tgt := 64) hx hb dX1_readFactor_21 (by decide) (by omega) (fun c_11 => ?_) (fun c_11 => ?_)
    · refine lv_iload_n hx hb dX1_readFactor_64 rfl (lv_at hl 1 rfl) ?_
      refine lv_bipush (v := iI 40) hx hb dX1_readFactor_65 (by decide) ?_
      refine gi_cne (tgt := 89) hx hb dX1_readFactor_67 (by decide) (by omega) (by decide) (fun c_12 => ?_) (fun c_12 => ?_)
      · refine lv_iload_n hx hb dX1_readFactor_89 rfl (lv_at hl 1 rfl) ?_
        refine lv_bipush (v := iI 45) hx hb dX1_readFactor_90 (by decide) ?_
        refine gi_cne (tgt := 108) hx hb dX1_readFactor_92 (by decide) (by omega) (by decide) (fun c_13 => ?_) (fun c_13 => ?_)
        · refine lv_aload_n hx hb dX1_readFactor_108 rfl (lv_at hl 2 rfl) ?_
          refine lv_iload_n hx hb dX1_readFactor_109 rfl (lv_at hl 1 rfl) ?_
          refine g_cv (As := [.int (iI z_1)]) (rest := []) (n := 1) C hml (e_Ex_refuseToken l D k A ad hD (va_up (va_up (va_up (va_up (va_up (va_up v 8 (v 8)) 11 (v 11)) 12 (v 12)) 13 (v 13)) 14 (v 14)) 15 (v 15)) (va_up (va_up (va_up f 14 (f 14)) 10 (f 10)) 11 (f 11)) g z_1 (by omega)) mM_X1_73 mI_X1_refuseToken mE_X1_refuseToken mN_X1 mC_X1_refuseToken (by decide +kernel) 21 (ci := 1) rfl rfl hP hS (fun _ h => h) ⟨Nat.le_of_ble_eq_true rfl, Nat.le_of_ble_eq_true rfl⟩ ⟨Nat.zero_le _, Nat.zero_le _⟩ hl.1 rfl rfl (Nat.le_of_ble_eq_true rfl) dX1_readFactor_110 (fun r_14 v_14 f_14 g_14 H locs hq_14 hP _ hS => ?_)
          obtain ⟨rfl, rfl, rfl, rfl⟩ := hq_14
          show W p l e (gRm 2 43) s m args below meth c _ _ 0 0 Q (F0 m 113 ls [])
          have hP : gWd D (rwT k ad) (va_up (va_up (va_up (va_up (va_up (va_up v 8 (v 8)) 11 (v 11)) 12 (v 12)) 13 (v 13)) 14 (v 14)) 15 (if z_1 = 257 then 1 else 2)) (va_up (va_up (va_up f 14 (f 14)) 10 (f 10)) 11 (f 11)) g H := ⟨hP.1, (gF_up (V := rwV) (F := rwF) (gF_up (V := rwV) (F := rwF) (gF_up (V := rwV) (F := rwF) (gR_up (V := rwV) (F := rwF) (gR_up (V := rwV) (F := rwF) (gR_up (V := rwV) (F := rwF) (gR_up (V := rwV) (F := rwF) (gR_up (V := rwV) (F := rwF) (gR_up (V := rwV) (F := rwF) ⟨hok.1, hok.2⟩ 8 (hP.2.1 8)) 11 (hP.2.1 11)) 12 (hP.2.1 12)) 13 (hP.2.1 13)) 14 (hP.2.1 14)) 15 (hP.2.1 15)) 14 (hP.2.2 14)) 10 (hP.2.2 10)) 11 (hP.2.2 11))⟩
          refine lv_iconst (v := iI 0) hx hb dX1_readFactor_113 rfl ?_
          exact g_zret hQ C hr hlocks (by decide) hP hS dX1_readFactor_114 ⟨0, (v 8), (v 11), (v 12), (v 13), (v 14), (if z_1 = 257 then 1 else 2), (f 14), (f 10), (f 11), rfl, rfl, rfl, rfl, (by first | omega | (split <;> omega)), (by first | exact (if hlt : (v 14) < 40 then Or.inl ⟨by have := hI0 hlt; omega, by omega, _, _, xX_whole (S := SS) (E := (0, 0) :: EE) hw hr4 (hc4 hlt) hn4 (by omega) (by simp only [List.length_cons]; omega) (by omega) (by omega), fun k => exF_num k (by omega) hVl (by omega)⟩ else Or.inr ⟨by have := hI3 (by omega); omega, fun k => (exF_num3 k (by omega) (by omega)).trans (Prod.ext (hI3 (by omega)).symm rfl)⟩) | exact (if hlt : (v 14) < 40 ∧ (v 12) < 8 then Or.inl ⟨by have h1 := hN0 hlt.2; have h2 := hI0 hlt.1; omega, by omega, _, _, xX_nest (x := 10) hw (by decide) hrS hcd (by omega) (by omega) (by omega) (by omega) (by omega), fun k => exF_neg k (by omega) (by omega) (by omega)⟩ else Or.inr ⟨by omega, fun k => (exF_neg3 k (by omega) (by omega)).trans (Prod.ext (by show (3 : Int) = _; omega) rfl)⟩) | exact (if hlt : (v 12) < 8 then Or.inl ⟨by have := hN0 hlt; omega, by omega, _, _, xX_nest (x := 11) hw (by decide) hrS hcd (by omega) (by omega) (by omega) (by omega) (by omega), fun k => exF_par k (by omega) (by omega)⟩ else Or.inr ⟨by have := hN3 (by omega); omega, fun k => (exF_par3 k (by omega) (by omega)).trans (Prod.ext (hN3 (by omega)).symm rfl)⟩) | exact Or.inr ⟨by split <;> omega, fun k => (exF_bad0 k (by omega)).trans (Prod.ext (by show fk _ _ _ = _; unfold fk; rw [hK]) rfl)⟩)⟩
        · refine lv_aload_n hx hb dX1_readFactor_95 rfl (lv_at hl 2 rfl) ?_
          refine g_cv (As := []) (rest := []) (n := 0) C hml (e_Ex_countItem l D k A ad hD (va_up (va_up (va_up (va_up (va_up (va_up v 8 (v 8)) 11 (v 11)) 12 (v 12)) 13 (v 13)) 14 (v 14)) 15 (v 15)) (va_up (va_up (va_up f 14 (f 14)) 10 (f 10)) 11 (f 11)) g (show (v 14) ≤ 40 from by omega)) mM_X1_55 mI_X1_countItem mE_X1_countItem mN_X1 mC_X1_countItem (by decide +kernel) 21 (ci := 1) rfl rfl hP hS (fun _ h => h) ⟨Nat.le_of_ble_eq_true rfl, Nat.le_of_ble_eq_true rfl⟩ ⟨Nat.zero_le _, Nat.zero_le _⟩ hl.1 rfl rfl (Nat.le_of_ble_eq_true rfl) dX1_readFactor_96 (fun r_15 v_15 f_15 g_15 H locs hq_15 hP _ hS => ?_)
          obtain ⟨w15_15, rfl, rfl, rfl, rfl, p0_15, p1_15⟩ := hq_15
          show W p l e (gRm 2 43) s m args below meth c _ _ 0 0 Q (F0 m 99 ls [])
          have hP : gWd D (rwT k ad) (va_up (va_up (va_up (va_up (va_up (va_up v 8 (v 8)) 11 (v 11)) 12 (v 12)) 13 (v 13)) 14 ((v 14) + 1)) 15 w15_15) (va_up (va_up (va_up f 14 (f 14)) 10 (f 10)) 11 (f 11)) g H := ⟨hP.1, (gF_up (V := rwV) (F := rwF) (gF_up (V := rwV) (F := rwF) (gF_up (V := rwV) (F := rwF) (gR_up (V := rwV) (F := rwF) (gR_up (V := rwV) (F := rwF) (gR_up (V := rwV) (F := rwF) (gR_up (V := rwV) (F := rwF) (gR_up (V := rwV) (F := rwF) (gR_up (V := rwV) (F := rwF) ⟨hok.1, hok.2⟩ 8 (hP.2.1 8)) 11 (hP.2.1 11)) 12 (hP.2.1 12)) 13 (hP.2.1 13)) 14 (hP.2.1 14)) 15 (hP.2.1 15)) 14 (hP.2.2 14)) 10 (hP.2.2 10)) 11 (hP.2.2 11))⟩
          replace p0_15 : (v 14) < 40 → w15_15 = (v 15) := p0_15
          replace p1_15 : 40 ≤ (v 14) → w15_15 = 3 := p1_15
          have rw15_15 : 0 ≤ w15_15 ∧ w15_15 ≤ 5 := hP.2.1 15
          have hI0 := p0_15
          have hI3 := p1_15
          refine lv_aload_n hx hb dX1_readFactor_99 rfl (lv_at hl 2 rfl) ?_
          refine lv_bipush (v := iI 10) hx hb dX1_readFactor_100 (by decide) ?_
          refine g_cv (As := [.int (iI 10)]) (rest := []) (n := 1) C hml (e_Ex_nest l D k A ad hD (va_up (va_up (va_up (va_up (va_up (va_up v 8 (v 8)) 11 (v 11)) 12 (v 12)) 13 (v 13)) 14 ((v 14) + 1)) 15 w15_15) (va_up (va_up (va_up f 14 (f 14)) 10 (f 10)) 11 (f 11)) g 10 (by decide) (show (v 11) < 27 from by omega) (show (v 12) ≤ 8 from by omega) (show 0 ≤ (10 : Int) ∧ (10 : Int) ≤ 11 from by omega)) mM_X1_69 mI_X1_nest mE_X1_nest mN_X1 mC_X1_nest (by decide +kernel) 21 (ci := 1) rfl rfl hP hS (fun _ h => h) ⟨Nat.le_of_ble_eq_true rfl, Nat.le_of_ble_eq_true rfl⟩ ⟨Nat.zero_le _, Nat.zero_le _⟩ hl.1 rfl rfl (Nat.le_of_ble_eq_true rfl) dX1_readFactor_102 (fun r_16 v_16 f_16 g_16 H locs hq_16 hP _ hS => ?_)
          obtain ⟨w15_16, rfl, rfl, rfl, rfl, p0_16, p1_16⟩ := hq_16
          show W p l e (gRm 2 43) s m args below meth c _ _ 0 0 Q (F0 m 105 ls [])
          have hP : gWd D (rwT k ad) (va_up (va_up (va_up (va_up (va_up (va_up v 8 (v 8)) 11 ((v 11) + 1)) 12 ((v 12) + 1)) 13 (v 13)) 14 ((v 14) + 1)) 15 w15_16) (va_up (va_up (va_up f 14 (u1 (f 14) (v 11) (10 : Int))) 10 (f 10)) 11 (f 11)) g H := ⟨hP.1, (gF_up (V := rwV) (F := rwF) (gF_up (V := rwV) (F := rwF) (gF_up (V := rwV) (F := rwF) (gR_up (V := rwV) (F := rwF) (gR_up (V := rwV) (F := rwF) (gR_up (V := rwV) (F := rwF) (gR_up (V := rwV) (F := rwF) (gR_up (V := rwV) (F := rwF) (gR_up (V := rwV) (F := rwF) ⟨hok.1, hok.2⟩ 8 (hP.2.1 8)) 11 (hP.2.1 11)) 12 (hP.2.1 12)) 13 (hP.2.1 13)) 14 (hP.2.1 14)) 15 (hP.2.1 15)) 14 (hP.2.2 14)) 10 (hP.2.2 10)) 11 (hP.2.2 11))⟩
          replace p0_16 : (v 12) < 8 → w15_16 = w15_15 := p0_16
          replace p1_16 : 8 ≤ (v 12) → w15_16 = 3 := p1_16
          have rw15_16 : 0 ≤ w15_16 ∧ w15_16 ≤ 5 := hP.2.1 15
          have hN0 := p0_16
          have hN3 := p1_16
          refine lv_goto (tgt := 113) hx hb dX1_readFactor_105 (by decide) ?_
          refine lv_iconst (v := iI 0) hx hb dX1_readFactor_113 rfl ?_
          exact g_zret hQ C hr hlocks (by decide) hP hS dX1_readFactor_114 ⟨0, (v 8), ((v 11) + 1), ((v 12) + 1), (v 13), ((v 14) + 1), w15_16, (u1 (f 14) (v 11) (10 : Int)), (f 10), (f 11), rfl, rfl, rfl, rfl, (by first | omega | (split <;> omega)), (by first | exact (if hlt : (v 14) < 40 then Or.inl ⟨by have := hI0 hlt; omega, by omega, _, _, xX_whole (S := SS) (E := (0, 0) :: EE) hw hr4 (hc4 hlt) hn4 (by omega) (by simp only [List.length_cons]; omega) (by omega) (by omega), fun k => exF_num k (by omega) hVl (by omega)⟩ else Or.inr ⟨by have := hI3 (by omega); omega, fun k => (exF_num3 k (by omega) (by omega)).trans (Prod.ext (hI3 (by omega)).symm rfl)⟩) | exact (if hlt : (v 14) < 40 ∧ (v 12) < 8 then Or.inl ⟨by have h1 := hN0 hlt.2; have h2 := hI0 hlt.1; omega, by omega, _, _, xX_nest (x := 10) hw (by decide) hrS hcd (by omega) (by omega) (by omega) (by omega) (by omega), fun k => exF_neg k (by omega) (by omega) (by omega)⟩ else Or.inr ⟨by omega, fun k => (exF_neg3 k (by omega) (by omega)).trans (Prod.ext (by show (3 : Int) = _; omega) rfl)⟩) | exact (if hlt : (v 12) < 8 then Or.inl ⟨by have := hN0 hlt; omega, by omega, _, _, xX_nest (x := 11) hw (by decide) hrS hcd (by omega) (by omega) (by omega) (by omega) (by omega), fun k => exF_par k (by omega) (by omega)⟩ else Or.inr ⟨by have := hN3 (by omega); omega, fun k => (exF_par3 k (by omega) (by omega)).trans (Prod.ext (hN3 (by omega)).symm rfl)⟩) | exact Or.inr ⟨by split <;> omega, fun k => (exF_bad0 k (by omega)).trans (Prod.ext (by show fk _ _ _ = _; unfold fk; rw [hK]) rfl)⟩)⟩
      · refine lv_aload_n hx hb dX1_readFactor_70 rfl (lv_at hl 2 rfl) ?_
        refine lv_bipush (v := iI 11) hx hb dX1_readFactor_71 (by decide) ?_
        refine g_cv (As := [.int (iI 11)]) (rest := []) (n := 1) C hml (e_Ex_nest l D k A ad hD (va_up (va_up (va_up (va_up (va_up (va_up v 8 (v 8)) 11 (v 11)) 12 (v 12)) 13 (v 13)) 14 (v 14)) 15 (v 15)) (va_up (va_up (va_up f 14 (f 14)) 10 (f 10)) 11 (f 11)) g 11 (by decide) (show (v 11) < 27 from by omega) (show (v 12) ≤ 8 from by omega) (show 0 ≤ (11 : Int) ∧ (11 : Int) ≤ 11 from by omega)) mM_X1_69 mI_X1_nest mE_X1_nest mN_X1 mC_X1_nest (by decide +kernel) 21 (ci := 1) rfl rfl hP hS (fun _ h => h) ⟨Nat.le_of_ble_eq_true rfl, Nat.le_of_ble_eq_true rfl⟩ ⟨Nat.zero_le _, Nat.zero_le _⟩ hl.1 rfl rfl (Nat.le_of_ble_eq_true rfl) dX1_readFactor_73 (fun r_17 v_17 f_17 g_17 H locs hq_17 hP _ hS => ?_)
        obtain ⟨w15_17, rfl, rfl, rfl, rfl, p0_17, p1_17⟩ := hq_17
        show W p l e (gRm 2 43) s m args below meth c _ _ 0 0 Q (F0 m 76 ls [])
        have hP : gWd D (rwT k ad) (va_up (va_up (va_up (va_up (va_up (va_up v 8 (v 8)) 11 ((v 11) + 1)) 12 ((v 12) + 1)) 13 (v 13)) 14 (v 14)) 15 w15_17) (va_up (va_up (va_up f 14 (u1 (f 14) (v 11) (11 : Int))) 10 (f 10)) 11 (f 11)) g H := ⟨hP.1, (gF_up (V := rwV) (F := rwF) (gF_up (V := rwV) (F := rwF) (gF_up (V := rwV) (F := rwF) (gR_up (V := rwV) (F := rwF) (gR_up (V := rwV) (F := rwF) (gR_up (V := rwV) (F := rwF) (gR_up (V := rwV) (F := rwF) (gR_up (V := rwV) (F := rwF) (gR_up (V := rwV) (F := rwF) ⟨hok.1, hok.2⟩ 8 (hP.2.1 8)) 11 (hP.2.1 11)) 12 (hP.2.1 12)) 13 (hP.2.1 13)) 14 (hP.2.1 14)) 15 (hP.2.1 15)) 14 (hP.2.2 14)) 10 (hP.2.2 10)) 11 (hP.2.2 11))⟩
        replace p0_17 : (v 12) < 8 → w15_17 = (v 15) := p0_17
        replace p1_17 : 8 ≤ (v 12) → w15_17 = 3 := p1_17
        have rw15_17 : 0 ≤ w15_17 ∧ w15_17 ≤ 5 := hP.2.1 15
        have hN0 := p0_17
        have hN3 := p1_17
        refine lv_aload_n hx hb dX1_readFactor_76 rfl (lv_at hl 2 rfl) ?_
        refine lv_dup hx hb dX1_readFactor_77 rfl ?_
        refine rwG_reader_expression_parens C hP mF_X1_27 dX1_readFactor_78 ?_
        show W p l e (gRm 2 43) s m args below meth c _ _ 0 0 Q (F0 m 81 ls [.int (iI (v 13)), .ref (ad 21)])
        have r_18 : 0 ≤ (v 13) ∧ (v 13) ≤ 9 := hok.1 13
        refine lv_iconst (v := iI 1) hx hb dX1_readFactor_81 rfl ?_
        refine gi_add (z := ((v 13) + 1)) hx hb dX1_readFactor_82 rfl ?_
        refine rwP_reader_expression_parens (v1 := (va_up (va_up (va_up (va_up (va_up (va_up v 8 (v 8)) 11 ((v 11) + 1)) 12 ((v 12) + 1)) 13 ((v 13) + 1)) 14 (v 14)) 15 w15_17)) C hP hD hS mF_X1_27 (by omega) rfl (Or.inr (gF_up (V := rwV) (F := rwF) (gF_up (V := rwV) (F := rwF) (gF_up (V := rwV) (F := rwF) (gR_up (V := rwV) (F := rwF) (gR_up (V := rwV) (F := rwF) (gR_up (V := rwV) (F := rwF) (gR_up (V := rwV) (F := rwF) (gR_up (V := rwV) (F := rwF) (gR_up (V := rwV) (F := rwF) ⟨hok.1, hok.2⟩ 8 (hP.2.1 8)) 11 (hP.2.1 11)) 12 (hP.2.1 12)) 13 (show 0 ≤ ((v 13) + 1) ∧ ((v 13) + 1) ≤ 9 from by omega)) 14 (hP.2.1 14)) 15 (hP.2.1 15)) 14 (hP.2.2 14)) 10 (hP.2.2 10)) 11 (hP.2.2 11))) dX1_readFactor_83 (fun H locs hP hS => ?_)
        refine lv_goto (tgt := 113) hx hb dX1_readFactor_86 (by decide) ?_
        refine lv_iconst (v := iI 0) hx hb dX1_readFactor_113 rfl ?_
        exact g_zret hQ C hr hlocks (by decide) hP hS dX1_readFactor_114 ⟨0, (v 8), ((v 11) + 1), ((v 12) + 1), ((v 13) + 1), (v 14), w15_17, (u1 (f 14) (v 11) (11 : Int)), (f 10), (f 11), rfl, rfl, rfl, rfl, (by first | omega | (split <;> omega)), (by first | exact (if hlt : (v 14) < 40 then Or.inl ⟨by have := hI0 hlt; omega, by omega, _, _, xX_whole (S := SS) (E := (0, 0) :: EE) hw hr4 (hc4 hlt) hn4 (by omega) (by simp only [List.length_cons]; omega) (by omega) (by omega), fun k => exF_num k (by omega) hVl (by omega)⟩ else Or.inr ⟨by have := hI3 (by omega); omega, fun k => (exF_num3 k (by omega) (by omega)).trans (Prod.ext (hI3 (by omega)).symm rfl)⟩) | exact (if hlt : (v 14) < 40 ∧ (v 12) < 8 then Or.inl ⟨by have h1 := hN0 hlt.2; have h2 := hI0 hlt.1; omega, by omega, _, _, xX_nest (x := 10) hw (by decide) hrS hcd (by omega) (by omega) (by omega) (by omega) (by omega), fun k => exF_neg k (by omega) (by omega) (by omega)⟩ else Or.inr ⟨by omega, fun k => (exF_neg3 k (by omega) (by omega)).trans (Prod.ext (by show (3 : Int) = _; omega) rfl)⟩) | exact (if hlt : (v 12) < 8 then Or.inl ⟨by have := hN0 hlt; omega, by omega, _, _, xX_nest (x := 11) hw (by decide) hrS hcd (by omega) (by omega) (by omega) (by omega) (by omega), fun k => exF_par k (by omega) (by omega)⟩ else Or.inr ⟨by have := hN3 (by omega); omega, fun k => (exF_par3 k (by omega) (by omega)).trans (Prod.ext (hN3 (by omega)).symm rfl)⟩) | exact Or.inr ⟨by split <;> omega, fun k => (exF_bad0 k (by omega)).trans (Prod.ext (by show fk _ _ _ = _; unfold fk; rw [hK]) rfl)⟩)⟩
    · refine lv_iload hx hb dX1_readFactor_24 (lv_at hl 0 rfl) ?_
      refine lv_bipush (v := iI 6) hx hb dX1_readFactor_26 (by decide) ?_
      refine gi_cge (tgt := 64) hx hb dX1_readFactor_28 (by decide) (by omega) (by decide) (fun c_19 => ?_) (fun c_19 => ?_)
      · refine lv_iload_n hx hb dX1_readFactor_64 rfl (lv_at hl 1 rfl) ?_
        refine lv_bipush (v := iI 40) hx hb dX1_readFactor_65 (by decide) ?_
        refine gi_cne (tgt := 89) hx hb dX1_readFactor_67 (by decide) (by omega) (by decide) (fun c_20 => ?_) (fun c_20 => ?_)
        · refine lv_iload_n hx hb dX1_readFactor_89 rfl (lv_at hl 1 rfl) ?_
          refine lv_bipush (v := iI 45) hx hb dX1_readFactor_90 (by decide) ?_
          refine gi_cne (tgt := 108) hx hb dX1_readFactor_92 (by decide) (by omega) (by decide) (fun c_21 => ?_) (fun c_21 => ?_)
          · refine lv_aload_n hx hb dX1_readFactor_108 rfl (lv_at hl 2 rfl) ?_
            refine lv_iload_n hx hb dX1_readFactor_109 rfl (lv_at hl 1 rfl) ?_
            refine g_cv (As := [.int (iI z_1)]) (rest := []) (n := 1) C hml (e_Ex_refuseToken l D k A ad hD (va_up (va_up (va_up (va_up (va_up (va_up v 8 (v 8)) 11 (v 11)) 12 (v 12)) 13 (v 13)) 14 (v 14)) 15 (v 15)) (va_up (va_up (va_up f 14 (f 14)) 10 (f 10)) 11 (f 11)) g z_1 (by omega)) mM_X1_73 mI_X1_refuseToken mE_X1_refuseToken mN_X1 mC_X1_refuseToken (by decide +kernel) 21 (ci := 1) rfl rfl hP hS (fun _ h => h) ⟨Nat.le_of_ble_eq_true rfl, Nat.le_of_ble_eq_true rfl⟩ ⟨Nat.zero_le _, Nat.zero_le _⟩ hl.1 rfl rfl (Nat.le_of_ble_eq_true rfl) dX1_readFactor_110 (fun r_22 v_22 f_22 g_22 H locs hq_22 hP _ hS => ?_)
            obtain ⟨rfl, rfl, rfl, rfl⟩ := hq_22
            show W p l e (gRm 2 43) s m args below meth c _ _ 0 0 Q (F0 m 113 ls [])
            have hP : gWd D (rwT k ad) (va_up (va_up (va_up (va_up (va_up (va_up v 8 (v 8)) 11 (v 11)) 12 (v 12)) 13 (v 13)) 14 (v 14)) 15 (if z_1 = 257 then 1 else 2)) (va_up (va_up (va_up f 14 (f 14)) 10 (f 10)) 11 (f 11)) g H := ⟨hP.1, (gF_up (V := rwV) (F := rwF) (gF_up (V := rwV) (F := rwF) (gF_up (V := rwV) (F := rwF) (gR_up (V := rwV) (F := rwF) (gR_up (V := rwV) (F := rwF) (gR_up (V := rwV) (F := rwF) (gR_up (V := rwV) (F := rwF) (gR_up (V := rwV) (F := rwF) (gR_up (V := rwV) (F := rwF) ⟨hok.1, hok.2⟩ 8 (hP.2.1 8)) 11 (hP.2.1 11)) 12 (hP.2.1 12)) 13 (hP.2.1 13)) 14 (hP.2.1 14)) 15 (hP.2.1 15)) 14 (hP.2.2 14)) 10 (hP.2.2 10)) 11 (hP.2.2 11))⟩
            refine lv_iconst (v := iI 0) hx hb dX1_readFactor_113 rfl ?_
            exact g_zret hQ C hr hlocks (by decide) hP hS dX1_readFactor_114 ⟨0, (v 8), (v 11), (v 12), (v 13), (v 14), (if z_1 = 257 then 1 else 2), (f 14), (f 10), (f 11), rfl, rfl, rfl, rfl, (by first | omega | (split <;> omega)), (by first | exact (if hlt : (v 14) < 40 then Or.inl ⟨by have := hI0 hlt; omega, by omega, _, _, xX_whole (S := SS) (E := (0, 0) :: EE) hw hr4 (hc4 hlt) hn4 (by omega) (by simp only [List.length_cons]; omega) (by omega) (by omega), fun k => exF_num k (by omega) hVl (by omega)⟩ else Or.inr ⟨by have := hI3 (by omega); omega, fun k => (exF_num3 k (by omega) (by omega)).trans (Prod.ext (hI3 (by omega)).symm rfl)⟩) | exact (if hlt : (v 14) < 40 ∧ (v 12) < 8 then Or.inl ⟨by have h1 := hN0 hlt.2; have h2 := hI0 hlt.1; omega, by omega, _, _, xX_nest (x := 10) hw (by decide) hrS hcd (by omega) (by omega) (by omega) (by omega) (by omega), fun k => exF_neg k (by omega) (by omega) (by omega)⟩ else Or.inr ⟨by omega, fun k => (exF_neg3 k (by omega) (by omega)).trans (Prod.ext (by show (3 : Int) = _; omega) rfl)⟩) | exact (if hlt : (v 12) < 8 then Or.inl ⟨by have := hN0 hlt; omega, by omega, _, _, xX_nest (x := 11) hw (by decide) hrS hcd (by omega) (by omega) (by omega) (by omega) (by omega), fun k => exF_par k (by omega) (by omega)⟩ else Or.inr ⟨by have := hN3 (by omega); omega, fun k => (exF_par3 k (by omega) (by omega)).trans (Prod.ext (hN3 (by omega)).symm rfl)⟩) | exact Or.inr ⟨by split <;> omega, fun k => (exF_bad0 k (by omega)).trans (Prod.ext (by show fk _ _ _ = _; unfold fk; rw [hK]) rfl)⟩)⟩
          · refine lv_aload_n hx hb dX1_readFactor_95 rfl (lv_at hl 2 rfl) ?_
            refine g_cv (As := []) (rest := []) (n := 0) C hml (e_Ex_countItem l D k A ad hD (va_up (va_up (va_up (va_up (va_up (va_up v 8 (v 8)) 11 (v 11)) 12 (v 12)) 13 (v 13)) 14 (v 14)) 15 (v 15)) (va_up (va_up (va_up f 14 (f 14)) 10 (f 10)) 11 (f 11)) g (show (v 14) ≤ 40 from by omega)) mM_X1_55 mI_X1_countItem mE_X1_countItem mN_X1 mC_X1_countItem (by decide +kernel) 21 (ci := 1) rfl rfl hP hS (fun _ h => h) ⟨Nat.le_of_ble_eq_true rfl, Nat.le_of_ble_eq_true rfl⟩ ⟨Nat.zero_le _, Nat.zero_le _⟩ hl.1 rfl rfl (Nat.le_of_ble_eq_true rfl) dX1_readFactor_96 (fun r_23 v_23 f_23 g_23 H locs hq_23 hP _ hS => ?_)
            obtain ⟨w15_23, rfl, rfl, rfl, rfl, p0_23, p1_23⟩ := hq_23
            show W p l e (gRm 2 43) s m args below meth c _ _ 0 0 Q (F0 m 99 ls [])
            have hP : gWd D (rwT k ad) (va_up (va_up (va_up (va_up (va_up (va_up v 8 (v 8)) 11 (v 11)) 12 (v 12)) 13 (v 13)) 14 ((v 14) + 1)) 15 w15_23) (va_up (va_up (va_up f 14 (f 14)) 10 (f 10)) 11 (f 11)) g H := ⟨hP.1, (gF_up (V := rwV) (F := rwF) (gF_up (V := rwV) (F := rwF) (gF_up (V := rwV) (F := rwF) (gR_up (V := rwV) (F := rwF) (gR_up (V := rwV) (F := rwF) (gR_up (V := rwV) (F := rwF) (gR_up (V := rwV) (F := rwF) (gR_up (V := rwV) (F := rwF) (gR_up (V := rwV) (F := rwF) ⟨hok.1, hok.2⟩ 8 (hP.2.1 8)) 11 (hP.2.1 11)) 12 (hP.2.1 12)) 13 (hP.2.1 13)) 14 (hP.2.1 14)) 15 (hP.2.1 15)) 14 (hP.2.2 14)) 10 (hP.2.2 10)) 11 (hP.2.2 11))⟩
            replace p0_23 : (v 14) < 40 → w15_23 = (v 15) := p0_23
            replace p1_23 : 40 ≤ (v 14) → w15_23 = 3 := p1_23
            have rw15_23 : 0 ≤ w15_23 ∧ w15_23 ≤ 5 := hP.2.1 15
            have hI0 := p0_23
            have hI3 := p1_23
            refine lv_aload_n hx hb dX1_readFactor_99 rfl (lv_at hl 2 rfl) ?_
            refine lv_bipush (v := iI 10) hx hb dX1_readFactor_100 (by decide) ?_
            refine g_cv (As := [.int (iI 10)]) (rest := []) (n := 1) C hml (e_Ex_nest l D k A ad hD (va_up (va_up (va_up (va_up (va_up (va_up v 8 (v 8)) 11 (v 11)) 12 (v 12)) 13 (v 13)) 14 ((v 14) + 1)) 15 w15_23) (va_up (va_up (va_up f 14 (f 14)) 10 (f 10)) 11 (f 11)) g 10 (by decide) (show (v 11) < 27 from by omega) (show (v 12) ≤ 8 from by omega) (show 0 ≤ (10 : Int) ∧ (10 : Int) ≤ 11 from by omega)) mM_X1_69 mI_X1_nest mE_X1_nest mN_X1 mC_X1_nest (by decide +kernel) 21 (ci := 1) rfl rfl hP hS (fun _ h => h) ⟨Nat.le_of_ble_eq_true rfl, Nat.le_of_ble_eq_true rfl⟩ ⟨Nat.zero_le _, Nat.zero_le _⟩ hl.1 rfl rfl (Nat.le_of_ble_eq_true rfl) dX1_readFactor_102 (fun r_24 v_24 f_24 g_24 H locs hq_24 hP _ hS => ?_)
            obtain ⟨w15_24, rfl, rfl, rfl, rfl, p0_24, p1_24⟩ := hq_24
            show W p l e (gRm 2 43) s m args below meth c _ _ 0 0 Q (F0 m 105 ls [])
            have hP : gWd D (rwT k ad) (va_up (va_up (va_up (va_up (va_up (va_up v 8 (v 8)) 11 ((v 11) + 1)) 12 ((v 12) + 1)) 13 (v 13)) 14 ((v 14) + 1)) 15 w15_24) (va_up (va_up (va_up f 14 (u1 (f 14) (v 11) (10 : Int))) 10 (f 10)) 11 (f 11)) g H := ⟨hP.1, (gF_up (V := rwV) (F := rwF) (gF_up (V := rwV) (F := rwF) (gF_up (V := rwV) (F := rwF) (gR_up (V := rwV) (F := rwF) (gR_up (V := rwV) (F := rwF) (gR_up (V := rwV) (F := rwF) (gR_up (V := rwV) (F := rwF) (gR_up (V := rwV) (F := rwF) (gR_up (V := rwV) (F := rwF) ⟨hok.1, hok.2⟩ 8 (hP.2.1 8)) 11 (hP.2.1 11)) 12 (hP.2.1 12)) 13 (hP.2.1 13)) 14 (hP.2.1 14)) 15 (hP.2.1 15)) 14 (hP.2.2 14)) 10 (hP.2.2 10)) 11 (hP.2.2 11))⟩
            replace p0_24 : (v 12) < 8 → w15_24 = w15_23 := p0_24
            replace p1_24 : 8 ≤ (v 12) → w15_24 = 3 := p1_24
            have rw15_24 : 0 ≤ w15_24 ∧ w15_24 ≤ 5 := hP.2.1 15
            have hN0 := p0_24
            have hN3 := p1_24
            refine lv_goto (tgt := 113) hx hb dX1_readFactor_105 (by decide) ?_
            refine lv_iconst (v := iI 0) hx hb dX1_readFactor_113 rfl ?_
            exact g_zret hQ C hr hlocks (by decide) hP hS dX1_readFactor_114 ⟨0, (v 8), ((v 11) + 1), ((v 12) + 1), (v 13), ((v 14) + 1), w15_24, (u1 (f 14) (v 11) (10 : Int)), (f 10), (f 11), rfl, rfl, rfl, rfl, (by first | omega | (split <;> omega)), (by first | exact (if hlt : (v 14) < 40 then Or.inl ⟨by have := hI0 hlt; omega, by omega, _, _, xX_whole (S := SS) (E := (0, 0) :: EE) hw hr4 (hc4 hlt) hn4 (by omega) (by simp only [List.length_cons]; omega) (by omega) (by omega), fun k => exF_num k (by omega) hVl (by omega)⟩ else Or.inr ⟨by have := hI3 (by omega); omega, fun k => (exF_num3 k (by omega) (by omega)).trans (Prod.ext (hI3 (by omega)).symm rfl)⟩) | exact (if hlt : (v 14) < 40 ∧ (v 12) < 8 then Or.inl ⟨by have h1 := hN0 hlt.2; have h2 := hI0 hlt.1; omega, by omega, _, _, xX_nest (x := 10) hw (by decide) hrS hcd (by omega) (by omega) (by omega) (by omega) (by omega), fun k => exF_neg k (by omega) (by omega) (by omega)⟩ else Or.inr ⟨by omega, fun k => (exF_neg3 k (by omega) (by omega)).trans (Prod.ext (by show (3 : Int) = _; omega) rfl)⟩) | exact (if hlt : (v 12) < 8 then Or.inl ⟨by have := hN0 hlt; omega, by omega, _, _, xX_nest (x := 11) hw (by decide) hrS hcd (by omega) (by omega) (by omega) (by omega) (by omega), fun k => exF_par k (by omega) (by omega)⟩ else Or.inr ⟨by have := hN3 (by omega); omega, fun k => (exF_par3 k (by omega) (by omega)).trans (Prod.ext (hN3 (by omega)).symm rfl)⟩) | exact Or.inr ⟨by split <;> omega, fun k => (exF_bad0 k (by omega)).trans (Prod.ext (by show fk _ _ _ = _; unfold fk; rw [hK]) rfl)⟩)⟩
        · refine lv_aload_n hx hb dX1_readFactor_70 rfl (lv_at hl 2 rfl) ?_
          refine lv_bipush (v := iI 11) hx hb dX1_readFactor_71 (by decide) ?_
          refine g_cv (As := [.int (iI 11)]) (rest := []) (n := 1) C hml (e_Ex_nest l D k A ad hD (va_up (va_up (va_up (va_up (va_up (va_up v 8 (v 8)) 11 (v 11)) 12 (v 12)) 13 (v 13)) 14 (v 14)) 15 (v 15)) (va_up (va_up (va_up f 14 (f 14)) 10 (f 10)) 11 (f 11)) g 11 (by decide) (show (v 11) < 27 from by omega) (show (v 12) ≤ 8 from by omega) (show 0 ≤ (11 : Int) ∧ (11 : Int) ≤ 11 from by omega)) mM_X1_69 mI_X1_nest mE_X1_nest mN_X1 mC_X1_nest (by decide +kernel) 21 (ci := 1) rfl rfl hP hS (fun _ h => h) ⟨Nat.le_of_ble_eq_true rfl, Nat.le_of_ble_eq_true rfl⟩ ⟨Nat.zero_le _, Nat.zero_le _⟩ hl.1 rfl rfl (Nat.le_of_ble_eq_true rfl) dX1_readFactor_73 (fun r_25 v_25 f_25 g_25 H locs hq_25 hP _ hS => ?_)
          obtain ⟨w15_25, rfl, rfl, rfl, rfl, p0_25, p1_25⟩ := hq_25
          show W p l e (gRm 2 43) s m args below meth c _ _ 0 0 Q (F0 m 76 ls [])
          have hP : gWd D (rwT k ad) (va_up (va_up (va_up (va_up (va_up (va_up v 8 (v 8)) 11 ((v 11) + 1)) 12 ((v 12) + 1)) 13 (v 13)) 14 (v 14)) 15 w15_25) (va_up (va_up (va_up f 14 (u1 (f 14) (v 11) (11 : Int))) 10 (f 10)) 11 (f 11)) g H := ⟨hP.1, (gF_up (V := rwV) (F := rwF) (gF_up (V := rwV) (F := rwF) (gF_up (V := rwV) (F := rwF) (gR_up (V := rwV) (F := rwF) (gR_up (V := rwV) (F := rwF) (gR_up (V := rwV) (F := rwF) (gR_up (V := rwV) (F := rwF) (gR_up (V := rwV) (F := rwF) (gR_up (V := rwV) (F := rwF) ⟨hok.1, hok.2⟩ 8 (hP.2.1 8)) 11 (hP.2.1 11)) 12 (hP.2.1 12)) 13 (hP.2.1 13)) 14 (hP.2.1 14)) 15 (hP.2.1 15)) 14 (hP.2.2 14)) 10 (hP.2.2 10)) 11 (hP.2.2 11))⟩
          replace p0_25 : (v 12) < 8 → w15_25 = (v 15) := p0_25
          replace p1_25 : 8 ≤ (v 12) → w15_25 = 3 := p1_25
          have rw15_25 : 0 ≤ w15_25 ∧ w15_25 ≤ 5 := hP.2.1 15
          have hN0 := p0_25
          have hN3 := p1_25
          refine lv_aload_n hx hb dX1_readFactor_76 rfl (lv_at hl 2 rfl) ?_
          refine lv_dup hx hb dX1_readFactor_77 rfl ?_
          refine rwG_reader_expression_parens C hP mF_X1_27 dX1_readFactor_78 ?_
          show W p l e (gRm 2 43) s m args below meth c _ _ 0 0 Q (F0 m 81 ls [.int (iI (v 13)), .ref (ad 21)])
          have r_26 : 0 ≤ (v 13) ∧ (v 13) ≤ 9 := hok.1 13
          refine lv_iconst (v := iI 1) hx hb dX1_readFactor_81 rfl ?_
          refine gi_add (z := ((v 13) + 1)) hx hb dX1_readFactor_82 rfl ?_
          refine rwP_reader_expression_parens (v1 := (va_up (va_up (va_up (va_up (va_up (va_up v 8 (v 8)) 11 ((v 11) + 1)) 12 ((v 12) + 1)) 13 ((v 13) + 1)) 14 (v 14)) 15 w15_25)) C hP hD hS mF_X1_27 (by omega) rfl (Or.inr (gF_up (V := rwV) (F := rwF) (gF_up (V := rwV) (F := rwF) (gF_up (V := rwV) (F := rwF) (gR_up (V := rwV) (F := rwF) (gR_up (V := rwV) (F := rwF) (gR_up (V := rwV) (F := rwF) (gR_up (V := rwV) (F := rwF) (gR_up (V := rwV) (F := rwF) (gR_up (V := rwV) (F := rwF) ⟨hok.1, hok.2⟩ 8 (hP.2.1 8)) 11 (hP.2.1 11)) 12 (hP.2.1 12)) 13 (show 0 ≤ ((v 13) + 1) ∧ ((v 13) + 1) ≤ 9 from by omega)) 14 (hP.2.1 14)) 15 (hP.2.1 15)) 14 (hP.2.2 14)) 10 (hP.2.2 10)) 11 (hP.2.2 11))) dX1_readFactor_83 (fun H locs hP hS => ?_)
          refine lv_goto (tgt := 113) hx hb dX1_readFactor_86 (by decide) ?_
          refine lv_iconst (v := iI 0) hx hb dX1_readFactor_113 rfl ?_
          exact g_zret hQ C hr hlocks (by decide) hP hS dX1_readFactor_114 ⟨0, (v 8), ((v 11) + 1), ((v 12) + 1), ((v 13) + 1), (v 14), w15_25, (u1 (f 14) (v 11) (11 : Int)), (f 10), (f 11), rfl, rfl, rfl, rfl, (by first | omega | (split <;> omega)), (by first | exact (if hlt : (v 14) < 40 then Or.inl ⟨by have := hI0 hlt; omega, by omega, _, _, xX_whole (S := SS) (E := (0, 0) :: EE) hw hr4 (hc4 hlt) hn4 (by omega) (by simp only [List.length_cons]; omega) (by omega) (by omega), fun k => exF_num k (by omega) hVl (by omega)⟩ else Or.inr ⟨by have := hI3 (by omega); omega, fun k => (exF_num3 k (by omega) (by omega)).trans (Prod.ext (hI3 (by omega)).symm rfl)⟩) | exact (if hlt : (v 14) < 40 ∧ (v 12) < 8 then Or.inl ⟨by have h1 := hN0 hlt.2; have h2 := hI0 hlt.1; omega, by omega, _, _, xX_nest (x := 10) hw (by decide) hrS hcd (by omega) (by omega) (by omega) (by omega) (by omega), fun k => exF_neg k (by omega) (by omega) (by omega)⟩ else Or.inr ⟨by omega, fun k => (exF_neg3 k (by omega) (by omega)).trans (Prod.ext (by show (3 : Int) = _; omega) rfl)⟩) | exact (if hlt : (v 12) < 8 then Or.inl ⟨by have := hN0 hlt; omega, by omega, _, _, xX_nest (x := 11) hw (by decide) hrS hcd (by omega) (by omega) (by omega) (by omega) (by omega), fun k => exF_par k (by omega) (by omega)⟩ else Or.inr ⟨by have := hN3 (by omega); omega, fun k => (exF_par3 k (by omega) (by omega)).trans (Prod.ext (hN3 (by omega)).symm rfl)⟩) | exact Or.inr ⟨by split <;> omega, fun k => (exF_bad0 k (by omega)).trans (Prod.ext (by show fk _ _ _ = _; unfold fk; rw [hK]) rfl)⟩)⟩
      · refine lv_aload_n hx hb dX1_readFactor_31 rfl (lv_at hl 2 rfl) ?_
        refine g_cv (As := []) (rest := []) (n := 0) C hml (e_Ex_countItem l D k A ad hD (va_up (va_up (va_up (va_up (va_up (va_up v 8 (v 8)) 11 (v 11)) 12 (v 12)) 13 (v 13)) 14 (v 14)) 15 (v 15)) (va_up (va_up (va_up f 14 (f 14)) 10 (f 10)) 11 (f 11)) g (show (v 14) ≤ 40 from by omega)) mM_X1_55 mI_X1_countItem mE_X1_countItem mN_X1 mC_X1_countItem (by decide +kernel) 21 (ci := 1) rfl rfl hP hS (fun _ h => h) ⟨Nat.le_of_ble_eq_true rfl, Nat.le_of_ble_eq_true rfl⟩ ⟨Nat.zero_le _, Nat.zero_le _⟩ hl.1 rfl rfl (Nat.le_of_ble_eq_true rfl) dX1_readFactor_32 (fun r_27 v_27 f_27 g_27 H locs hq_27 hP _ hS => ?_)
        obtain ⟨w15_27, rfl, rfl, rfl, rfl, p0_27, p1_27⟩ := hq_27
        show W p l e (gRm 2 43) s m args below meth c _ _ 0 0 Q (F0 m 35 ls [])
        have hP : gWd D (rwT k ad) (va_up (va_up (va_up (va_up (va_up (va_up v 8 (v 8)) 11 (v 11)) 12 (v 12)) 13 (v 13)) 14 ((v 14) + 1)) 15 w15_27) (va_up (va_up (va_up f 14 (f 14)) 10 (f 10)) 11 (f 11)) g H := ⟨hP.1, (gF_up (V := rwV) (F := rwF) (gF_up (V := rwV) (F := rwF) (gF_up (V := rwV) (F := rwF) (gR_up (V := rwV) (F := rwF) (gR_up (V := rwV) (F := rwF) (gR_up (V := rwV) (F := rwF) (gR_up (V := rwV) (F := rwF) (gR_up (V := rwV) (F := rwF) (gR_up (V := rwV) (F := rwF) ⟨hok.1, hok.2⟩ 8 (hP.2.1 8)) 11 (hP.2.1 11)) 12 (hP.2.1 12)) 13 (hP.2.1 13)) 14 (hP.2.1 14)) 15 (hP.2.1 15)) 14 (hP.2.2 14)) 10 (hP.2.2 10)) 11 (hP.2.2 11))⟩
        replace p0_27 : (v 14) < 40 → w15_27 = (v 15) := p0_27
        replace p1_27 : 40 ≤ (v 14) → w15_27 = 3 := p1_27
        have rw15_27 : 0 ≤ w15_27 ∧ w15_27 ≤ 5 := hP.2.1 15
        have hI0 := p0_27
        have hI3 := p1_27
        refine lv_aload_n hx hb dX1_readFactor_35 rfl (lv_at hl 4 rfl) ?_
        refine lv_iload_n hx hb dX1_readFactor_36 rfl (lv_at hl 1 rfl) ?_
        refine lv_sipush (v := iI 258) hx hb dX1_readFactor_37 (by decide) ?_
        refine gi_cne (tgt := 48) hx hb dX1_readFactor_40 (by decide) (by omega) (by decide) (fun c_28 => ?_) (fun c_28 => ?_)
        · refine lv_iload hx hb dX1_readFactor_48 (lv_at hl 0 rfl) ?_
          refine lv_aload_n hx hb dX1_readFactor_50 rfl (lv_at hl 3 rfl) ?_
          refine g_cv (As := []) (rest := [.int (iI (z_1 - 272)), .ref (ad 14)]) (n := 0) C hml (e_To_value l D k A ad hD (va_up (va_up (va_up (va_up (va_up (va_up v 8 (v 8)) 11 (v 11)) 12 (v 12)) 13 (v 13)) 14 ((v 14) + 1)) 15 w15_27) (va_up (va_up (va_up f 14 (f 14)) 10 (f 10)) 11 (f 11)) g nn pp (show tAt (f 0) nn (f 6) (f 7) (f 8) (v 5) (v 6) pp from hc)) mM_X1_58 mI_X6_value mE_X6_value mN_X6 mC_X6_value (by decide +kernel) 10 (ci := 6) rfl rfl hP hS (fun _ h => h) ⟨Nat.le_of_ble_eq_true rfl, Nat.le_of_ble_eq_true rfl⟩ ⟨Nat.zero_le _, Nat.zero_le _⟩ hl.1 rfl rfl (Nat.le_of_ble_eq_true rfl) dX1_readFactor_51 (fun r_29 v_29 f_29 g_29 H locs hq_29 hP _ hS => ?_)
          obtain ⟨z_29, rfl, rfl, rfl, rfl, p0_29, p1_29⟩ := hq_29
          show W p l e (gRm 2 43) s m args below meth c _ _ 0 0 Q (F0 m 54 ls [.int (iI z_29), .int (iI (z_1 - 272)), .ref (ad 14)])
          replace p0_29 : z_29 = (tV (f 0) nn pp) := p0_29
          replace p1_29 : 0 ≤ z_29 ∧ z_29 ≤ 999999 := p1_29
          have hz_29 : inR z_29 := (by first | omega | (rw [p0_29]; split <;> omega))
          have hVl := p0_29
          refine g_cv (As := [.int (iI (z_1 - 272)), .int (iI z_29)]) (rest := []) (n := 2) C hml (e_La_addItem l D k A ad hD (va_up (va_up (va_up (va_up (va_up (va_up v 8 (v 8)) 11 (v 11)) 12 (v 12)) 13 (v 13)) 14 ((v 14) + 1)) 15 w15_27) (va_up (va_up (va_up f 14 (f 14)) 10 (f 10)) 11 (f 11)) g (z_1 - 272) z_29 (by omega) (by omega) (show 0 ≤ (z_1 - 272) ∧ (z_1 - 272) ≤ 10 from by omega) (show 0 ≤ z_29 ∧ z_29 ≤ 999999 from by omega)) mM_X1_61 mI_X4_addItem mE_X4_addItem mN_X4 mC_X4_addItem (by decide +kernel) 14 (ci := 4) rfl rfl hP hS (fun _ h => h) ⟨Nat.le_of_ble_eq_true rfl, Nat.le_of_ble_eq_true rfl⟩ ⟨Nat.zero_le _, Nat.zero_le _⟩ hl.1 rfl rfl (Nat.le_of_ble_eq_true rfl) dX1_readFactor_54 (fun r_30 v_30 f_30 g_30 H locs hq_30 hP _ hS => ?_)
          obtain ⟨w8_30, a10_30, a11_30, rfl, rfl, rfl, rfl, p0_30⟩ := hq_30
          show W p l e (gRm 2 43) s m args below meth c _ _ 0 0 Q (F0 m 57 ls [])
          have hP : gWd D (rwT k ad) (va_up (va_up (va_up (va_up (va_up (va_up v 8 w8_30) 11 (v 11)) 12 (v 12)) 13 (v 13)) 14 ((v 14) + 1)) 15 w15_27) (va_up (va_up (va_up f 14 (f 14)) 10 a10_30) 11 a11_30) g H := ⟨hP.1, (gF_up (V := rwV) (F := rwF) (gF_up (V := rwV) (F := rwF) (gF_up (V := rwV) (F := rwF) (gR_up (V := rwV) (F := rwF) (gR_up (V := rwV) (F := rwF) (gR_up (V := rwV) (F := rwF) (gR_up (V := rwV) (F := rwF) (gR_up (V := rwV) (F := rwF) (gR_up (V := rwV) (F := rwF) ⟨hok.1, hok.2⟩ 8 (hP.2.1 8)) 11 (hP.2.1 11)) 12 (hP.2.1 12)) 13 (hP.2.1 13)) 14 (hP.2.1 14)) 15 (hP.2.1 15)) 14 (hP.2.2 14)) 10 (hP.2.2 10)) 11 (hP.2.2 11))⟩
          replace p0_30 : (v 8) < 40 → w8_30 = (v 8) + 1 ∧ a10_30 = u1 (f 10) (v 8) (z_1 - 272) ∧ a11_30 = u1 (f 11) (v 8) z_29 := p0_30
          have rw8_30 : 0 ≤ w8_30 ∧ w8_30 ≤ 40 := hP.2.1 8
          have hAd := p0_30
          refine lv_aload_n hx hb dX1_readFactor_57 rfl (lv_at hl 2 rfl) ?_
          refine lv_aload_n hx hb dX1_readFactor_58 rfl (lv_at hl 4 rfl) ?_
          refine g_cv (As := [.ref (ad 14)]) (rest := []) (n := 1) C hml (e_Ex_releaseNegations l D k A ad hD (va_up (va_up (va_up (va_up (va_up (va_up v 8 w8_30) 11 (v 11)) 12 (v 12)) 13 (v 13)) 14 ((v 14) + 1)) 15 w15_27) (va_up (va_up (va_up f 14 (f 14)) 10 a10_30) 11 a11_30) g SS (((z_1 - 272), z_29) :: EE) ((v 14) < 40) (show wfS SS from hw) (show rep SS (f 14) (v 11) from hrS) (show (v 12) = cNs SS from by omega) (show ((v 14) < 40) → repC id (((z_1 - 272), z_29) :: EE) a10_30 a11_30 w8_30 ∧ ((((z_1 - 272), z_29) :: EE).length : Int) + cSg SS ≤ 40 from fun hg => by have h4 := hAd (by omega); rw [h4.1, h4.2.1, h4.2.2]; exact ⟨repC_push (z_1 - 272) hcd rfl, by simp only [List.length_cons]; omega⟩)) mM_X1_65 mI_X1_releaseNegations mE_X1_releaseNegations mN_X1 mC_X1_releaseNegations (by decide +kernel) 21 (ci := 1) rfl rfl hP hS (fun _ h => h) ⟨Nat.le_of_ble_eq_true rfl, Nat.le_of_ble_eq_true rfl⟩ ⟨Nat.zero_le _, Nat.zero_le _⟩ hl.1 rfl rfl (Nat.le_of_ble_eq_true rfl) dX1_readFactor_59 (fun r_31 v_31 f_31 g_31 H locs hq_31 hP _ hS => ?_)
          obtain ⟨w8_31, w11_31, w12_31, a10_31, a11_31, rfl, rfl, rfl, rfl, p0_31, p1_31, p2_31⟩ := hq_31
          show W p l e (gRm 2 43) s m args below meth c _ _ 0 0 Q (F0 m 62 ls [])
          have hP : gWd D (rwT k ad) (va_up (va_up (va_up (va_up (va_up (va_up v 8 w8_31) 11 w11_31) 12 w12_31) 13 (v 13)) 14 ((v 14) + 1)) 15 w15_27) (va_up (va_up (va_up f 14 (f 14)) 10 a10_31) 11 a11_31) g H := ⟨hP.1, (gF_up (V := rwV) (F := rwF) (gF_up (V := rwV) (F := rwF) (gF_up (V := rwV) (F := rwF) (gR_up (V := rwV) (F := rwF) (gR_up (V := rwV) (F := rwF) (gR_up (V := rwV) (F := rwF) (gR_up (V := rwV) (F := rwF) (gR_up (V := rwV) (F := rwF) (gR_up (V := rwV) (F := rwF) ⟨hok.1, hok.2⟩ 8 (hP.2.1 8)) 11 (hP.2.1 11)) 12 (hP.2.1 12)) 13 (hP.2.1 13)) 14 (hP.2.1 14)) 15 (hP.2.1 15)) 14 (hP.2.2 14)) 10 (hP.2.2 10)) 11 (hP.2.2 11))⟩
          replace p0_31 : rep (rlN SS (((z_1 - 272), z_29) :: EE)).1 (f 14) w11_31 := p0_31
          replace p1_31 : w12_31 = cNs (rlN SS (((z_1 - 272), z_29) :: EE)).1 := p1_31
          replace p2_31 : ((v 14) < 40) → repC id (rlN SS (((z_1 - 272), z_29) :: EE)).2 a10_31 a11_31 w8_31 := p2_31
          have rw8_31 : 0 ≤ w8_31 ∧ w8_31 ≤ 40 := hP.2.1 8
          have rw11_31 : 0 ≤ w11_31 ∧ w11_31 ≤ 27 := hP.2.1 11
          have rw12_31 : 0 ≤ w12_31 ∧ w12_31 ≤ 9 := hP.2.1 12
          have hr4 := p0_31
          have hn4 := p1_31
          have hc4 := p2_31
          refine lv_iconst (v := iI 1) hx hb dX1_readFactor_62 rfl ?_
          exact g_zret hQ C hr hlocks (by decide) hP hS dX1_readFactor_63 ⟨1, w8_31, w11_31, w12_31, (v 13), ((v 14) + 1), w15_27, (f 14), a10_31, a11_31, rfl, rfl, rfl, rfl, (by first | omega | (split <;> omega)), (by first | exact (if hlt : (v 14) < 40 then Or.inl ⟨by have := hI0 hlt; omega, by omega, _, _, xX_whole (S := SS) (E := ((z_1 - 272), z_29) :: EE) hw hr4 (hc4 hlt) hn4 (by omega) (by simp only [List.length_cons]; omega) (by omega) (by omega), fun k => exF_num k (by omega) hVl (by omega)⟩ else Or.inr ⟨by have := hI3 (by omega); omega, fun k => (exF_num3 k (by omega) (by omega)).trans (Prod.ext (hI3 (by omega)).symm rfl)⟩) | exact (if hlt : (v 14) < 40 ∧ (v 12) < 8 then Or.inl ⟨by have h1 := hN0 hlt.2; have h2 := hI0 hlt.1; omega, by omega, _, _, xX_nest (x := 10) hw (by decide) hrS hcd (by omega) (by omega) (by omega) (by omega) (by omega), fun k => exF_neg k (by omega) (by omega) (by omega)⟩ else Or.inr ⟨by omega, fun k => (exF_neg3 k (by omega) (by omega)).trans (Prod.ext (by show (3 : Int) = _; omega) rfl)⟩) | exact (if hlt : (v 12) < 8 then Or.inl ⟨by have := hN0 hlt; omega, by omega, _, _, xX_nest (x := 11) hw (by decide) hrS hcd (by omega) (by omega) (by omega) (by omega) (by omega), fun k => exF_par k (by omega) (by omega)⟩ else Or.inr ⟨by have := hN3 (by omega); omega, fun k => (exF_par3 k (by omega) (by omega)).trans (Prod.ext (hN3 (by omega)).symm rfl)⟩) | exact Or.inr ⟨by split <;> omega, fun k => (exF_bad0 k (by omega)).trans (Prod.ext (by show fk _ _ _ = _; unfold fk; rw [hK]) rfl)⟩)⟩
        · refine lv_bipush (v := iI 6) hx hb dX1_readFactor_43 (by decide) ?_
          refine lv_goto (tgt := 50) hx hb dX1_readFactor_45 (by decide) ?_
          refine lv_aload_n hx hb dX1_readFactor_50 rfl (lv_at hl 3 rfl) ?_
          refine g_cv (As := []) (rest := [.int (iI 6), .ref (ad 14)]) (n := 0) C hml (e_To_value l D k A ad hD (va_up (va_up (va_up (va_up (va_up (va_up v 8 (v 8)) 11 (v 11)) 12 (v 12)) 13 (v 13)) 14 ((v 14) + 1)) 15 w15_27) (va_up (va_up (va_up f 14 (f 14)) 10 (f 10)) 11 (f 11)) g nn pp (show tAt (f 0) nn (f 6) (f 7) (f 8) (v 5) (v 6) pp from hc)) mM_X1_58 mI_X6_value mE_X6_value mN_X6 mC_X6_value (by decide +kernel) 10 (ci := 6) rfl rfl hP hS (fun _ h => h) ⟨Nat.le_of_ble_eq_true rfl, Nat.le_of_ble_eq_true rfl⟩ ⟨Nat.zero_le _, Nat.zero_le _⟩ hl.1 rfl rfl (Nat.le_of_ble_eq_true rfl) dX1_readFactor_51 (fun r_32 v_32 f_32 g_32 H locs hq_32 hP _ hS => ?_)
          obtain ⟨z_32, rfl, rfl, rfl, rfl, p0_32, p1_32⟩ := hq_32
          show W p l e (gRm 2 43) s m args below meth c _ _ 0 0 Q (F0 m 54 ls [.int (iI z_32), .int (iI 6), .ref (ad 14)])
          replace p0_32 : z_32 = (tV (f 0) nn pp) := p0_32
          replace p1_32 : 0 ≤ z_32 ∧ z_32 ≤ 999999 := p1_32
          have hz_32 : inR z_32 := (by first | omega | (rw [p0_32]; split <;> omega))
          have hVl := p0_32
          refine g_cv (As := [.int (iI 6), .int (iI z_32)]) (rest := []) (n := 2) C hml (e_La_addItem l D k A ad hD (va_up (va_up (va_up (va_up (va_up (va_up v 8 (v 8)) 11 (v 11)) 12 (v 12)) 13 (v 13)) 14 ((v 14) + 1)) 15 w15_27) (va_up (va_up (va_up f 14 (f 14)) 10 (f 10)) 11 (f 11)) g 6 z_32 (by decide) (by omega) (show 0 ≤ (6 : Int) ∧ (6 : Int) ≤ 10 from by omega) (show 0 ≤ z_32 ∧ z_32 ≤ 999999 from by omega)) mM_X1_61 mI_X4_addItem mE_X4_addItem mN_X4 mC_X4_addItem (by decide +kernel) 14 (ci := 4) rfl rfl hP hS (fun _ h => h) ⟨Nat.le_of_ble_eq_true rfl, Nat.le_of_ble_eq_true rfl⟩ ⟨Nat.zero_le _, Nat.zero_le _⟩ hl.1 rfl rfl (Nat.le_of_ble_eq_true rfl) dX1_readFactor_54 (fun r_33 v_33 f_33 g_33 H locs hq_33 hP _ hS => ?_)
          obtain ⟨w8_33, a10_33, a11_33, rfl, rfl, rfl, rfl, p0_33⟩ := hq_33
          show W p l e (gRm 2 43) s m args below meth c _ _ 0 0 Q (F0 m 57 ls [])
          have hP : gWd D (rwT k ad) (va_up (va_up (va_up (va_up (va_up (va_up v 8 w8_33) 11 (v 11)) 12 (v 12)) 13 (v 13)) 14 ((v 14) + 1)) 15 w15_27) (va_up (va_up (va_up f 14 (f 14)) 10 a10_33) 11 a11_33) g H := ⟨hP.1, (gF_up (V := rwV) (F := rwF) (gF_up (V := rwV) (F := rwF) (gF_up (V := rwV) (F := rwF) (gR_up (V := rwV) (F := rwF) (gR_up (V := rwV) (F := rwF) (gR_up (V := rwV) (F := rwF) (gR_up (V := rwV) (F := rwF) (gR_up (V := rwV) (F := rwF) (gR_up (V := rwV) (F := rwF) ⟨hok.1, hok.2⟩ 8 (hP.2.1 8)) 11 (hP.2.1 11)) 12 (hP.2.1 12)) 13 (hP.2.1 13)) 14 (hP.2.1 14)) 15 (hP.2.1 15)) 14 (hP.2.2 14)) 10 (hP.2.2 10)) 11 (hP.2.2 11))⟩
          replace p0_33 : (v 8) < 40 → w8_33 = (v 8) + 1 ∧ a10_33 = u1 (f 10) (v 8) (6 : Int) ∧ a11_33 = u1 (f 11) (v 8) z_32 := p0_33
          have rw8_33 : 0 ≤ w8_33 ∧ w8_33 ≤ 40 := hP.2.1 8
          have hAd := p0_33
          refine lv_aload_n hx hb dX1_readFactor_57 rfl (lv_at hl 2 rfl) ?_
          refine lv_aload_n hx hb dX1_readFactor_58 rfl (lv_at hl 4 rfl) ?_
          refine g_cv (As := [.ref (ad 14)]) (rest := []) (n := 1) C hml (e_Ex_releaseNegations l D k A ad hD (va_up (va_up (va_up (va_up (va_up (va_up v 8 w8_33) 11 (v 11)) 12 (v 12)) 13 (v 13)) 14 ((v 14) + 1)) 15 w15_27) (va_up (va_up (va_up f 14 (f 14)) 10 a10_33) 11 a11_33) g SS ((6, z_32) :: EE) ((v 14) < 40) (show wfS SS from hw) (show rep SS (f 14) (v 11) from hrS) (show (v 12) = cNs SS from by omega) (show ((v 14) < 40) → repC id ((6, z_32) :: EE) a10_33 a11_33 w8_33 ∧ (((6, z_32) :: EE).length : Int) + cSg SS ≤ 40 from fun hg => by have h4 := hAd (by omega); rw [h4.1, h4.2.1, h4.2.2]; exact ⟨repC_push 6 hcd rfl, by simp only [List.length_cons]; omega⟩)) mM_X1_65 mI_X1_releaseNegations mE_X1_releaseNegations mN_X1 mC_X1_releaseNegations (by decide +kernel) 21 (ci := 1) rfl rfl hP hS (fun _ h => h) ⟨Nat.le_of_ble_eq_true rfl, Nat.le_of_ble_eq_true rfl⟩ ⟨Nat.zero_le _, Nat.zero_le _⟩ hl.1 rfl rfl (Nat.le_of_ble_eq_true rfl) dX1_readFactor_59 (fun r_34 v_34 f_34 g_34 H locs hq_34 hP _ hS => ?_)
          obtain ⟨w8_34, w11_34, w12_34, a10_34, a11_34, rfl, rfl, rfl, rfl, p0_34, p1_34, p2_34⟩ := hq_34
          show W p l e (gRm 2 43) s m args below meth c _ _ 0 0 Q (F0 m 62 ls [])
          have hP : gWd D (rwT k ad) (va_up (va_up (va_up (va_up (va_up (va_up v 8 w8_34) 11 w11_34) 12 w12_34) 13 (v 13)) 14 ((v 14) + 1)) 15 w15_27) (va_up (va_up (va_up f 14 (f 14)) 10 a10_34) 11 a11_34) g H := ⟨hP.1, (gF_up (V := rwV) (F := rwF) (gF_up (V := rwV) (F := rwF) (gF_up (V := rwV) (F := rwF) (gR_up (V := rwV) (F := rwF) (gR_up (V := rwV) (F := rwF) (gR_up (V := rwV) (F := rwF) (gR_up (V := rwV) (F := rwF) (gR_up (V := rwV) (F := rwF) (gR_up (V := rwV) (F := rwF) ⟨hok.1, hok.2⟩ 8 (hP.2.1 8)) 11 (hP.2.1 11)) 12 (hP.2.1 12)) 13 (hP.2.1 13)) 14 (hP.2.1 14)) 15 (hP.2.1 15)) 14 (hP.2.2 14)) 10 (hP.2.2 10)) 11 (hP.2.2 11))⟩
          replace p0_34 : rep (rlN SS ((6, z_32) :: EE)).1 (f 14) w11_34 := p0_34
          replace p1_34 : w12_34 = cNs (rlN SS ((6, z_32) :: EE)).1 := p1_34
          replace p2_34 : ((v 14) < 40) → repC id (rlN SS ((6, z_32) :: EE)).2 a10_34 a11_34 w8_34 := p2_34
          have rw8_34 : 0 ≤ w8_34 ∧ w8_34 ≤ 40 := hP.2.1 8
          have rw11_34 : 0 ≤ w11_34 ∧ w11_34 ≤ 27 := hP.2.1 11
          have rw12_34 : 0 ≤ w12_34 ∧ w12_34 ≤ 9 := hP.2.1 12
          have hr4 := p0_34
          have hn4 := p1_34
          have hc4 := p2_34
          refine lv_iconst (v := iI 1) hx hb dX1_readFactor_62 rfl ?_
          exact g_zret hQ C hr hlocks (by decide) hP hS dX1_readFactor_63 ⟨1, w8_34, w11_34, w12_34, (v 13), ((v 14) + 1), w15_27, (f 14), a10_34, a11_34, rfl, rfl, rfl, rfl, (by first | omega | (split <;> omega)), (by first | exact (if hlt : (v 14) < 40 then Or.inl ⟨by have := hI0 hlt; omega, by omega, _, _, xX_whole (S := SS) (E := (6, z_32) :: EE) hw hr4 (hc4 hlt) hn4 (by omega) (by simp only [List.length_cons]; omega) (by omega) (by omega), fun k => exF_num k (by omega) hVl (by omega)⟩ else Or.inr ⟨by have := hI3 (by omega); omega, fun k => (exF_num3 k (by omega) (by omega)).trans (Prod.ext (hI3 (by omega)).symm rfl)⟩) | exact (if hlt : (v 14) < 40 ∧ (v 12) < 8 then Or.inl ⟨by have h1 := hN0 hlt.2; have h2 := hI0 hlt.1; omega, by omega, _, _, xX_nest (x := 10) hw (by decide) hrS hcd (by omega) (by omega) (by omega) (by omega) (by omega), fun k => exF_neg k (by omega) (by omega) (by omega)⟩ else Or.inr ⟨by omega, fun k => (exF_neg3 k (by omega) (by omega)).trans (Prod.ext (by show (3 : Int) = _; omega) rfl)⟩) | exact (if hlt : (v 12) < 8 then Or.inl ⟨by have := hN0 hlt; omega, by omega, _, _, xX_nest (x := 11) hw (by decide) hrS hcd (by omega) (by omega) (by omega) (by omega) (by omega), fun k => exF_par k (by omega) (by omega)⟩ else Or.inr ⟨by have := hN3 (by omega); omega, fun k => (exF_par3 k (by omega) (by omega)).trans (Prod.ext (hN3 (by omega)).symm rfl)⟩) | exact Or.inr ⟨by split <;> omega, fun k => (exF_bad0 k (by omega)).trans (Prod.ext (by show fk _ _ _ = _; unfold fk; rw [hK]) rfl)⟩)⟩

set_option maxHeartbeats 4000000 in
set_option maxRecDepth 100000 in
theorem e_Ex_read (l : Launch) (D : va_G) (k : Nat → ClassId) (A : Nat → Prop) (ad : Nat → Nat) (hD : rwD A k ad) (v : gV) (f g : gF) (nn : Int) (pp : Int) (hc : tAt (f 0) nn (f 6) (f 7) (f 8) (v 5) (v 6) pp) (hnn : nn ≤ 700) : GM l D k A (rwT k ad) yX1_read cX1_read 5 (some .int) 4 88 [.ref (ad 21), .ref (ad 10), .ref (ad 14)] v f g (fun r v1 f1 g1 => ∃ (z : Int) (w6 : Int) (w8 : Int) (w11 : Int) (w12 : Int) (w13 : Int) (w14 : Int) (w15 : Int) (a14_ : Int → Int) (a10_ : Int → Int) (a11_ : Int → Int), r = some (.int (iI z)) ∧ (va_up (va_up (va_up (va_up (va_up (va_up (va_up v 6 w6) 8 w8) 11 w11) 12 w12) 13 w13) 14 w14) 15 w15) = v1 ∧ (va_up (va_up (va_up f 14 a14_) 10 a10_) 11 a11_) = f1 ∧ g = g1 ∧ (0 ≤ z ∧ z ≤ 5) ∧ (z = (exF (f 0) nn 702 pp 0 [] []).1) ∧ (tAt (f 0) nn (f 6) (f 7) (f 8) (v 5) w6 (exF (f 0) nn 702 pp 0 [] []).2.1) ∧ (z = 0 → repC id (exF (f 0) nn 702 pp 0 [] []).2.2 a10_ a11_ w8)) := by
  refine GM.of (by decide) (Nat.le_of_ble_eq_true rfl) ?_
  intro p e s m args below meth c Q ls hQ C hml hr hlocks hP hl
  have hx := C.1
  have hb := C.2.1
  have hok := hP.2
  have hS : va_S A s.heap s.heap [] := va_S.rf
  have hl : lv_has ls 5 [(0, .ref (ad 21)), (1, .ref (ad 10)), (2, .ref (ad 14))] := hl
  have hP : gWd D (rwT k ad) (va_up (va_up (va_up (va_up (va_up (va_up (va_up v 6 (v 6)) 8 (v 8)) 11 (v 11)) 12 (v 12)) 13 (v 13)) 14 (v 14)) 15 (v 15)) (va_up (va_up (va_up f 14 (f 14)) 10 (f 10)) 11 (f 11)) g s.heap := by rw [va_id, va_id, va_id, va_id, va_id, va_id, va_id, va_id, va_id, va_id]; exact hP
  refine lv_aload_n hx hb dX1_read_0 rfl (lv_at hl 2 rfl) ?_
  refine lv_iconst (v := iI 0) hx hb dX1_read_1 rfl ?_
  refine rwP_reader_draft_items (v1 := (va_up (va_up (va_up (va_up (va_up (va_up (va_up v 6 (v 6)) 8 0) 11 (v 11)) 12 (v 12)) 13 (v 13)) 14 (v 14)) 15 (v 15))) C hP hD hS mF_X1_15 (by decide) rfl (Or.inr (gF_up (V := rwV) (F := rwF) (gF_up (V := rwV) (F := rwF) (gF_up (V := rwV) (F := rwF) (gR_up (V := rwV) (F := rwF) (gR_up (V := rwV) (F := rwF) (gR_up (V := rwV) (F := rwF) (gR_up (V := rwV) (F := rwF) (gR_up (V := rwV) (F := rwF) (gR_up (V := rwV) (F := rwF) (gR_up (V := rwV) (F := rwF) ⟨hok.1, hok.2⟩ 6 (hP.2.1 6)) 8 (show 0 ≤ 0 ∧ 0 ≤ 40 from by decide)) 11 (hP.2.1 11)) 12 (hP.2.1 12)) 13 (hP.2.1 13)) 14 (hP.2.1 14)) 15 (hP.2.1 15)) 14 (hP.2.2 14)) 10 (hP.2.2 10)) 11 (hP.2.2 11))) dX1_read_2 (fun H locs hP hS => ?_)
  refine lv_aload_n hx hb dX1_read_5 rfl (lv_at hl 0 rfl) ?_
  refine lv_iconst (v := iI 0) hx hb dX1_read_6 rfl ?_
  refine rwP_reader_expression_waits (v1 := (va_up (va_up (va_up (va_up (va_up (va_up (va_up v 6 (v 6)) 8 0) 11 0) 12 (v 12)) 13 (v 13)) 14 (v 14)) 15 (v 15))) C hP hD hS mF_X1_21 (by decide) rfl (Or.inr (gF_up (V := rwV) (F := rwF) (gF_up (V := rwV) (F := rwF) (gF_up (V := rwV) (F := rwF) (gR_up (V := rwV) (F := rwF) (gR_up (V := rwV) (F := rwF) (gR_up (V := rwV) (F := rwF) (gR_up (V := rwV) (F := rwF) (gR_up (V := rwV) (F := rwF) (gR_up (V := rwV) (F := rwF) (gR_up (V := rwV) (F := rwF) ⟨hok.1, hok.2⟩ 6 (hP.2.1 6)) 8 (hP.2.1 8)) 11 (show 0 ≤ 0 ∧ 0 ≤ 27 from by decide)) 12 (hP.2.1 12)) 13 (hP.2.1 13)) 14 (hP.2.1 14)) 15 (hP.2.1 15)) 14 (hP.2.2 14)) 10 (hP.2.2 10)) 11 (hP.2.2 11))) dX1_read_7 (fun H locs hP hS => ?_)
  refine lv_aload_n hx hb dX1_read_10 rfl (lv_at hl 0 rfl) ?_
  refine lv_iconst (v := iI 0) hx hb dX1_read_11 rfl ?_
  refine rwP_reader_expression_nested (v1 := (va_up (va_up (va_up (va_up (va_up (va_up (va_up v 6 (v 6)) 8 0) 11 0) 12 0) 13 (v 13)) 14 (v 14)) 15 (v 15))) C hP hD hS mF_X1_24 (by decide) rfl (Or.inr (gF_up (V := rwV) (F := rwF) (gF_up (V := rwV) (F := rwF) (gF_up (V := rwV) (F := rwF) (gR_up (V := rwV) (F := rwF) (gR_up (V := rwV) (F := rwF) (gR_up (V := rwV) (F := rwF) (gR_up (V := rwV) (F := rwF) (gR_up (V := rwV) (F := rwF) (gR_up (V := rwV) (F := rwF) (gR_up (V := rwV) (F := rwF) ⟨hok.1, hok.2⟩ 6 (hP.2.1 6)) 8 (hP.2.1 8)) 11 (hP.2.1 11)) 12 (show 0 ≤ 0 ∧ 0 ≤ 9 from by decide)) 13 (hP.2.1 13)) 14 (hP.2.1 14)) 15 (hP.2.1 15)) 14 (hP.2.2 14)) 10 (hP.2.2 10)) 11 (hP.2.2 11))) dX1_read_12 (fun H locs hP hS => ?_)
  refine lv_aload_n hx hb dX1_read_15 rfl (lv_at hl 0 rfl) ?_
  refine lv_iconst (v := iI 0) hx hb dX1_read_16 rfl ?_
  refine rwP_reader_expression_parens (v1 := (va_up (va_up (va_up (va_up (va_up (va_up (va_up v 6 (v 6)) 8 0) 11 0) 12 0) 13 0) 14 (v 14)) 15 (v 15))) C hP hD hS mF_X1_27 (by decide) rfl (Or.inr (gF_up (V := rwV) (F := rwF) (gF_up (V := rwV) (F := rwF) (gF_up (V := rwV) (F := rwF) (gR_up (V := rwV) (F := rwF) (gR_up (V := rwV) (F := rwF) (gR_up (V := rwV) (F := rwF) (gR_up (V := rwV) (F := rwF) (gR_up (V := rwV) (F := rwF) (gR_up (V := rwV) (F := rwF) (gR_up (V := rwV) (F := rwF) ⟨hok.1, hok.2⟩ 6 (hP.2.1 6)) 8 (hP.2.1 8)) 11 (hP.2.1 11)) 12 (hP.2.1 12)) 13 (show 0 ≤ 0 ∧ 0 ≤ 9 from by decide)) 14 (hP.2.1 14)) 15 (hP.2.1 15)) 14 (hP.2.2 14)) 10 (hP.2.2 10)) 11 (hP.2.2 11))) dX1_read_17 (fun H locs hP hS => ?_)
  refine lv_aload_n hx hb dX1_read_20 rfl (lv_at hl 0 rfl) ?_
  refine lv_iconst (v := iI 0) hx hb dX1_read_21 rfl ?_
  refine rwP_reader_expression_items (v1 := (va_up (va_up (va_up (va_up (va_up (va_up (va_up v 6 (v 6)) 8 0) 11 0) 12 0) 13 0) 14 0) 15 (v 15))) C hP hD hS mF_X1_30 (by decide) rfl (Or.inr (gF_up (V := rwV) (F := rwF) (gF_up (V := rwV) (F := rwF) (gF_up (V := rwV) (F := rwF) (gR_up (V := rwV) (F := rwF) (gR_up (V := rwV) (F := rwF) (gR_up (V := rwV) (F := rwF) (gR_up (V := rwV) (F := rwF) (gR_up (V := rwV) (F := rwF) (gR_up (V := rwV) (F := rwF) (gR_up (V := rwV) (F := rwF) ⟨hok.1, hok.2⟩ 6 (hP.2.1 6)) 8 (hP.2.1 8)) 11 (hP.2.1 11)) 12 (hP.2.1 12)) 13 (hP.2.1 13)) 14 (show 0 ≤ 0 ∧ 0 ≤ 41 from by decide)) 15 (hP.2.1 15)) 14 (hP.2.2 14)) 10 (hP.2.2 10)) 11 (hP.2.2 11))) dX1_read_22 (fun H locs hP hS => ?_)
  refine lv_aload_n hx hb dX1_read_25 rfl (lv_at hl 0 rfl) ?_
  refine lv_iconst (v := iI 0) hx hb dX1_read_26 rfl ?_
  refine rwP_reader_expression_fault (v1 := (va_up (va_up (va_up (va_up (va_up (va_up (va_up v 6 (v 6)) 8 0) 11 0) 12 0) 13 0) 14 0) 15 0)) C hP hD hS mF_X1_31 (by decide) rfl (Or.inr (gF_up (V := rwV) (F := rwF) (gF_up (V := rwV) (F := rwF) (gF_up (V := rwV) (F := rwF) (gR_up (V := rwV) (F := rwF) (gR_up (V := rwV) (F := rwF) (gR_up (V := rwV) (F := rwF) (gR_up (V := rwV) (F := rwF) (gR_up (V := rwV) (F := rwF) (gR_up (V := rwV) (F := rwF) (gR_up (V := rwV) (F := rwF) ⟨hok.1, hok.2⟩ 6 (hP.2.1 6)) 8 (hP.2.1 8)) 11 (hP.2.1 11)) 12 (hP.2.1 12)) 13 (hP.2.1 13)) 14 (hP.2.1 14)) 15 (show 0 ≤ 0 ∧ 0 ≤ 5 from by decide)) 14 (hP.2.2 14)) 10 (hP.2.2 10)) 11 (hP.2.2 11))) dX1_read_27 (fun H locs hP hS => ?_)
  refine lv_iconst (v := iI 0) hx hb dX1_read_30 rfl ?_
  refine lv_istore_n (lv' := [(3, .int (iI 0)), (0, .ref (ad 21)), (1, .ref (ad 10)), (2, .ref (ad 14))]) hx hb dX1_read_31 rfl hl (by decide) rfl (fun ls hl => ?_)
  refine lv_iconst (v := iI 0) hx hb dX1_read_32 rfl ?_
  refine lv_istore (lv' := [(4, .int (iI 0)), (3, .int (iI 0)), (0, .ref (ad 21)), (1, .ref (ad 10)), (2, .ref (ad 14))]) hx hb dX1_read_33 hl (by decide) rfl (fun ls hl => ?_)
  have L_1 : ∀ (n : Nat) (x3 : Int) (x4 : Int) (qq : Int) (S1 : List Int) (E1 : List (Int × Int)) (y6_1 : Int) (y8_1 : Int) (y11_1 : Int) (y12_1 : Int) (y13_1 : Int) (y14_1 : Int) (y15_1 : Int) (c14_1 : Int → Int) (c10_1 : Int → Int) (c11_1 : Int → Int) (H : Heap) (locs : List Loc) (ls : Array Slot), 701 - x4 < (n : Int) → (0 ≤ x4 ∧ x4 ≤ 701) → (0 ≤ x3 ∧ x3 ≤ 1) → (y15_1 = 0 → (tAt (f 0) nn (f 6) (f 7) (f 8) (v 5) y6_1 qq ∧ xX x3 S1 E1 c14_1 y11_1 c10_1 c11_1 y8_1 y12_1 y13_1 y14_1 ∧ x4 ≤ qq ∧ exF (f 0) nn (702 - x4).toNat qq x3 S1 E1 = (exF (f 0) nn 702 pp 0 [] []))) → (y15_1 ≠ 0 → (tAt (f 0) nn (f 6) (f 7) (f 8) (v 5) y6_1 (exF (f 0) nn 702 pp 0 [] []).2.1 ∧ y15_1 = (exF (f 0) nn 702 pp 0 [] []).1)) → gWd D (rwT k ad) (va_up (va_up (va_up (va_up (va_up (va_up (va_up v 6 y6_1) 8 y8_1) 11 y11_1) 12 y12_1) 13 y13_1) 14 y14_1) 15 y15_1) (va_up (va_up (va_up f 14 c14_1) 10 c10_1) 11 c11_1) g H → va_S A s.heap H locs → lv_has ls 5 [(0, .ref (ad 21)), (1, .ref (ad 10)), (2, .ref (ad 14)), (3, .int (iI x3)), (4, .int (iI x4))] → W p l e (gRm 4 88) s m args below meth c H locs 0 0 Q (F0 m 35 ls []) := by
    intro n
    induction n with
    | zero =>
      intro x3 x4 qq S1 E1 y6_1 y8_1 y11_1 y12_1 y13_1 y14_1 y15_1 c14_1 c10_1 c11_1 H locs ls hn_1 i1_0 i1_1 i1_2 i1_3 hP hS hl
      have ry6_1 : 0 ≤ y6_1 ∧ y6_1 ≤ 700 := hP.2.1 6
      have ry8_1 : 0 ≤ y8_1 ∧ y8_1 ≤ 40 := hP.2.1 8
      have ry11_1 : 0 ≤ y11_1 ∧ y11_1 ≤ 27 := hP.2.1 11
      have ry12_1 : 0 ≤ y12_1 ∧ y12_1 ≤ 9 := hP.2.1 12
      have ry13_1 : 0 ≤ y13_1 ∧ y13_1 ≤ 9 := hP.2.1 13
      have ry14_1 : 0 ≤ y14_1 ∧ y14_1 ≤ 41 := hP.2.1 14
      have ry15_1 : 0 ≤ y15_1 ∧ y15_1 ≤ 5 := hP.2.1 15
      exfalso; omega
    | succ n ih_35 =>
      intro x3 x4 qq S1 E1 y6_1 y8_1 y11_1 y12_1 y13_1 y14_1 y15_1 c14_1 c10_1 c11_1 H locs ls hn_1 i1_0 i1_1 i1_2 i1_3 hP hS hl
      have ry6_1 : 0 ≤ y6_1 ∧ y6_1 ≤ 700 := hP.2.1 6
      have ry8_1 : 0 ≤ y8_1 ∧ y8_1 ≤ 40 := hP.2.1 8
      have ry11_1 : 0 ≤ y11_1 ∧ y11_1 ≤ 27 := hP.2.1 11
      have ry12_1 : 0 ≤ y12_1 ∧ y12_1 ≤ 9 := hP.2.1 12
      have ry13_1 : 0 ≤ y13_1 ∧ y13_1 ≤ 9 := hP.2.1 13
      have ry14_1 : 0 ≤ y14_1 ∧ y14_1 ≤ 41 := hP.2.1 14
      have ry15_1 : 0 ≤ y15_1 ∧ y15_1 ≤ 5 := hP.2.1 15
      have hI2 := i1_2
      have hI3 := i1_3
      refine lv_iload hx hb dX1_read_35 (lv_at hl 4 rfl) ?_
      refine lv_sipush (v := iI 700) hx hb dX1_read_37 (by decide) ?_
      refine gi_cgt (tgt := 119) hx hb dX1_read_40 (by decide) (by omega) (by decide) (fun c_2 => ?_) (fun c_2 => ?_)
      · refine lv_aload_n hx hb dX1_read_119 rfl (lv_at hl 0 rfl) ?_
        refine rwG_reader_expression_fault C hP mF_X1_31 dX1_read_120 ?_
        show W p l e (gRm 4 88) s m args below meth c _ _ 0 0 Q (F0 m 123 ls [.int (iI y15_1)])
        have r_3 : 0 ≤ y15_1 ∧ y15_1 ≤ 5 := hP.2.1 15
        exact g_iret hQ C hr hlocks hP hS dX1_read_123 ⟨y15_1, y6_1, y8_1, y11_1, y12_1, y13_1, y14_1, y15_1, c14_1, c10_1, c11_1, rfl, rfl, rfl, rfl, (by first | omega | (split <;> omega)), (by first | (rw [hOE]) | exact (if h0 : y15_1 = 0 then (by exfalso; have h := hI2 h0; have h2 := h.1.p; omega) else (hI3 h0).2)), (by first | (rw [hOE]; exact hAt) | exact (if h0 : y15_1 = 0 then (by exfalso; have h := hI2 h0; have h2 := h.1.p; omega) else (hI3 h0).1)), (by first | (rw [hOE]; exact fun _ => hcE) | (intro h; exfalso; have h := hI2 (by omega); have h2 := h.1.p; omega))⟩
      · refine lv_aload_n hx hb dX1_read_43 rfl (lv_at hl 0 rfl) ?_
        refine rwG_reader_expression_fault C hP mF_X1_31 dX1_read_44 ?_
        show W p l e (gRm 4 88) s m args below meth c _ _ 0 0 Q (F0 m 47 ls [.int (iI y15_1)])
        have r_4 : 0 ≤ y15_1 ∧ y15_1 ≤ 5 := hP.2.1 15
        refine gi_zne (tgt := 119) hx hb dX1_read_47 (by decide) (by omega) (fun c_5 => ?_) (fun c_5 => ?_)
        · refine lv_aload_n hx hb dX1_read_119 rfl (lv_at hl 0 rfl) ?_
          refine rwG_reader_expression_fault C hP mF_X1_31 dX1_read_120 ?_
          show W p l e (gRm 4 88) s m args below meth c _ _ 0 0 Q (F0 m 123 ls [.int (iI y15_1)])
          exact g_iret hQ C hr hlocks hP hS dX1_read_123 ⟨y15_1, y6_1, y8_1, y11_1, y12_1, y13_1, y14_1, y15_1, c14_1, c10_1, c11_1, rfl, rfl, rfl, rfl, (by first | omega | (split <;> omega)), (by first | (rw [hOE]) | exact (if h0 : y15_1 = 0 then (by exfalso; have h := hI2 h0; have h2 := h.1.p; omega) else (hI3 h0).2)), (by first | (rw [hOE]; exact hAt) | exact (if h0 : y15_1 = 0 then (by exfalso; have h := hI2 h0; have h2 := h.1.p; omega) else (hI3 h0).1)), (by first | (rw [hOE]; exact fun _ => hcE) | (intro h; exfalso; have h := hI2 (by omega); have h2 := h.1.p; omega))⟩
        · have hAt := (hI2 (by omega)).1
          have hXX := (hI2 (by omega)).2.1
          have hle4 := (hI2 (by omega)).2.2.1
          have hO0 := (hI2 (by omega)).2.2.2
          have hpq := hAt.p
          refine lv_iload_n hx hb dX1_read_50 rfl (lv_at hl 3 rfl) ?_
          refine gi_zeq (tgt := 79) hx hb dX1_read_51 (by decide) (by omega) (fun c_6 => ?_) (fun c_6 => ?_)
          · refine lv_iload_n hx hb dX1_read_79 rfl (lv_at hl 3 rfl) ?_
            refine gi_zeq (tgt := 95) hx hb dX1_read_80 (by decide) (by omega) (fun c_7 => ?_) (fun c_7 => ?_)
            · have hO : exF (f 0) nn (702 - x4).toNat qq 0 S1 E1 = (exF (f 0) nn 702 pp 0 [] []) := by have h := hO0; rw [show x3 = 0 by omega] at h; exact h
              have hX1 : xX 0 S1 E1 c14_1 y11_1 c10_1 c11_1 y8_1 y12_1 y13_1 y14_1 := by have h := hXX; rw [show x3 = 0 by omega] at h; exact h
              refine lv_aload_n hx hb dX1_read_95 rfl (lv_at hl 0 rfl) ?_
              refine lv_aload_n hx hb dX1_read_96 rfl (lv_at hl 1 rfl) ?_
              refine lv_aload_n hx hb dX1_read_97 rfl (lv_at hl 2 rfl) ?_
              refine g_cv (As := [.ref (ad 10), .ref (ad 14)]) (rest := []) (n := 2) C hml (e_Ex_readFactor l D k A ad hD (va_up (va_up (va_up (va_up (va_up (va_up (va_up v 6 y6_1) 8 y8_1) 11 y11_1) 12 y12_1) 13 y13_1) 14 y14_1) 15 y15_1) (va_up (va_up (va_up f 14 c14_1) 10 c10_1) 11 c11_1) g nn qq S1 E1 (show tAt (f 0) nn (f 6) (f 7) (f 8) (v 5) y6_1 qq from hAt) (show y15_1 = 0 from by omega) (show xX 0 S1 E1 c14_1 y11_1 c10_1 c11_1 y8_1 y12_1 y13_1 y14_1 from hX1)) mM_X1_48 mI_X1_readFactor mE_X1_readFactor mN_X1 mC_X1_readFactor (by decide +kernel) 21 (ci := 1) rfl rfl hP hS (fun _ h => h) ⟨Nat.le_of_ble_eq_true rfl, Nat.le_of_ble_eq_true rfl⟩ ⟨Nat.zero_le _, Nat.zero_le _⟩ hl.1 rfl rfl (Nat.le_of_ble_eq_true rfl) dX1_read_98 (fun r_8 v_8 f_8 g_8 H locs hq_8 hP _ hS => ?_)
              obtain ⟨z_8, w8_8, w11_8, w12_8, w13_8, w14_8, w15_8, a14_8, a10_8, a11_8, rfl, rfl, rfl, rfl, p0_8, p1_8⟩ := hq_8
              show W p l e (gRm 4 88) s m args below meth c _ _ 0 0 Q (F0 m 101 ls [.int (iI z_8)])
              have hP : gWd D (rwT k ad) (va_up (va_up (va_up (va_up (va_up (va_up (va_up v 6 y6_1) 8 w8_8) 11 w11_8) 12 w12_8) 13 w13_8) 14 w14_8) 15 w15_8) (va_up (va_up (va_up f 14 a14_8) 10 a10_8) 11 a11_8) g H := ⟨hP.1, (gF_up (V := rwV) (F := rwF) (gF_up (V := rwV) (F := rwF) (gF_up (V := rwV) (F := rwF) (gR_up (V := rwV) (F := rwF) (gR_up (V := rwV) (F := rwF) (gR_up (V := rwV) (F := rwF) (gR_up (V := rwV) (F := rwF) (gR_up (V := rwV) (F := rwF) (gR_up (V := rwV) (F := rwF) (gR_up (V := rwV) (F := rwF) ⟨hok.1, hok.2⟩ 6 (hP.2.1 6)) 8 (hP.2.1 8)) 11 (hP.2.1 11)) 12 (hP.2.1 12)) 13 (hP.2.1 13)) 14 (hP.2.1 14)) 15 (hP.2.1 15)) 14 (hP.2.2 14)) 10 (hP.2.2 10)) 11 (hP.2.2 11))⟩
              replace p0_8 : 0 ≤ z_8 ∧ z_8 ≤ 1 := p0_8
              replace p1_8 : (w15_8 = 0 ∧ ((tK (f 0) nn qq) ≠ 256 ∧ (tK (f 0) nn qq) ≠ 257) ∧ ∃ Sx Ex, xX z_8 Sx Ex a14_8 w11_8 a10_8 a11_8 w8_8 w12_8 w13_8 w14_8 ∧ ∀ k : Nat, exF (f 0) nn (k + 1) qq 0 S1 E1 = exF (f 0) nn k (tX (f 0) nn qq) z_8 Sx Ex) ∨ (w15_8 ≠ 0 ∧ ∀ k : Nat, exF (f 0) nn (k + 1) qq 0 S1 E1 = (w15_8, qq, E1)) := p1_8
              have rw8_8 : 0 ≤ w8_8 ∧ w8_8 ≤ 40 := hP.2.1 8
              have rw11_8 : 0 ≤ w11_8 ∧ w11_8 ≤ 27 := hP.2.1 11
              have rw12_8 : 0 ≤ w12_8 ∧ w12_8 ≤ 9 := hP.2.1 12
              have rw13_8 : 0 ≤ w13_8 ∧ w13_8 ≤ 9 := hP.2.1 13
              have rw14_8 : 0 ≤ w14_8 ∧ w14_8 ≤ 41 := hP.2.1 14
              have rw15_8 : 0 ≤ w15_8 ∧ w15_8 ≤ 5 := hP.2.1 15
              have hRF := p1_8
              refine lv_istore_n (lv' := [(3, .int (iI z_8)), (0, .ref (ad 21)), (1, .ref (ad 10)), (2, .ref (ad 14)), (4, .int (iI x4))]) hx hb dX1_read_101 rfl hl (by decide) rfl (fun ls hl => ?_)
              refine lv_aload_n hx hb dX1_read_102 rfl (lv_at hl 1 rfl) ?_
              refine rwG_reader_expression_fault C hP mF_X1_31 dX1_read_103 ?_
              show W p l e (gRm 4 88) s m args below meth c _ _ 0 0 Q (F0 m 106 ls [.int (iI w15_8)])
              have r_9 : 0 ≤ w15_8 ∧ w15_8 ≤ 5 := hP.2.1 15
              refine gi_zne (tgt := 113) hx hb dX1_read_106 (by decide) (by omega) (fun c_10 => ?_) (fun c_10 => ?_)
              · refine lv_iinc (v := iI (x4 + 1)) (lv' := [(4, .int (iI (x4 + 1))), (3, .int (iI z_8)), (0, .ref (ad 21)), (1, .ref (ad 10)), (2, .ref (ad 14))]) hx hb dX1_read_113 hl (k := 4) rfl (by show iI _ + iI 1 = _; rw [iI_add]) (by decide) rfl (fun ls hl => ?_)
                refine lv_goto (tgt := 35) hx hb dX1_read_116 (by decide) ?_
                exact ih_35 z_8 (x4 + 1) ((tX (f 0) nn qq)) (S1) (E1) y6_1 w8_8 w11_8 w12_8 w13_8 w14_8 w15_8 a14_8 a10_8 a11_8 _ _ _ (by omega) (by omega) (by omega) (by first | (intro h; exfalso; omega) | exact fun _ => ⟨hSt hKK.1 hKK.2, hX2, by have := tX_up (B := (f 0)) (n := nn) (q := qq) (by have := hAt.p; have := (not_congr (tK_end (B := (f 0)) (n := nn) (q := qq))).mp hKK.1; omega); omega, by rw [← hO, show (702 - x4).toNat = (702 - (x4 + 1)).toNat + 1 by omega]; exact (hEX _).symm⟩) (by first | (intro h; exfalso; omega) | exact fun h => (by have hRr := hRF.resolve_left (fun h2 => h h2.1); have hOE := hO; rw [show (702 - x4).toNat = (702 - (x4 + 1)).toNat + 1 by omega, hRr.2 _] at hOE; rw [← hOE]; exact ⟨hAt, rfl⟩)) hP hS (lv_sub hl [2, 3, 4, 1, 0] rfl)
              · obtain ⟨hF0, hKK, S2, E2, hX2, hEX⟩ := hRF.resolve_right (fun h => h.1 (by omega))
                refine lv_aload_n hx hb dX1_read_109 rfl (lv_at hl 2 rfl) ?_
                refine g_cv (As := []) (rest := []) (n := 0) C hml (e_To_step l D k A ad hD (va_up (va_up (va_up (va_up (va_up (va_up (va_up v 6 y6_1) 8 w8_8) 11 w11_8) 12 w12_8) 13 w13_8) 14 w14_8) 15 w15_8) (va_up (va_up (va_up f 14 a14_8) 10 a10_8) 11 a11_8) g nn qq (show tAt (f 0) nn (f 6) (f 7) (f 8) (v 5) y6_1 qq from hAt)) mM_X1_52 mI_X6_step mE_X6_step mN_X6 mC_X6_step (by decide +kernel) 10 (ci := 6) rfl rfl hP hS (fun _ h => h) ⟨Nat.le_of_ble_eq_true rfl, Nat.le_of_ble_eq_true rfl⟩ ⟨Nat.zero_le _, Nat.zero_le _⟩ hl.1 rfl rfl (Nat.le_of_ble_eq_true rfl) dX1_read_110 (fun r_11 v_11 f_11 g_11 H locs hq_11 hP _ hS => ?_)
                obtain ⟨w6_11, rfl, rfl, rfl, rfl, p0_11⟩ := hq_11
                show W p l e (gRm 4 88) s m args below meth c _ _ 0 0 Q (F0 m 113 ls [])
                have hP : gWd D (rwT k ad) (va_up (va_up (va_up (va_up (va_up (va_up (va_up v 6 w6_11) 8 w8_8) 11 w11_8) 12 w12_8) 13 w13_8) 14 w14_8) 15 w15_8) (va_up (va_up (va_up f 14 a14_8) 10 a10_8) 11 a11_8) g H := ⟨hP.1, (gF_up (V := rwV) (F := rwF) (gF_up (V := rwV) (F := rwF) (gF_up (V := rwV) (F := rwF) (gR_up (V := rwV) (F := rwF) (gR_up (V := rwV) (F := rwF) (gR_up (V := rwV) (F := rwF) (gR_up (V := rwV) (F := rwF) (gR_up (V := rwV) (F := rwF) (gR_up (V := rwV) (F := rwF) (gR_up (V := rwV) (F := rwF) ⟨hok.1, hok.2⟩ 6 (hP.2.1 6)) 8 (hP.2.1 8)) 11 (hP.2.1 11)) 12 (hP.2.1 12)) 13 (hP.2.1 13)) 14 (hP.2.1 14)) 15 (hP.2.1 15)) 14 (hP.2.2 14)) 10 (hP.2.2 10)) 11 (hP.2.2 11))⟩
                replace p0_11 : (tK (f 0) nn qq) ≠ 256 → (tK (f 0) nn qq) ≠ 257 → tAt (f 0) nn (f 6) (f 7) (f 8) (v 5) w6_11 (tX (f 0) nn qq) := p0_11
                have rw6_11 : 0 ≤ w6_11 ∧ w6_11 ≤ 700 := hP.2.1 6
                have hSt := p0_11
                refine lv_iinc (v := iI (x4 + 1)) (lv' := [(4, .int (iI (x4 + 1))), (3, .int (iI z_8)), (0, .ref (ad 21)), (1, .ref (ad 10)), (2, .ref (ad 14))]) hx hb dX1_read_113 hl (k := 4) rfl (by show iI _ + iI 1 = _; rw [iI_add]) (by decide) rfl (fun ls hl => ?_)
                refine lv_goto (tgt := 35) hx hb dX1_read_116 (by decide) ?_
                exact ih_35 z_8 (x4 + 1) ((tX (f 0) nn qq)) (S2) (E2) w6_11 w8_8 w11_8 w12_8 w13_8 w14_8 w15_8 a14_8 a10_8 a11_8 _ _ _ (by omega) (by omega) (by omega) (by first | (intro h; exfalso; omega) | exact fun _ => ⟨hSt hKK.1 hKK.2, hX2, by have := tX_up (B := (f 0)) (n := nn) (q := qq) (by have := hAt.p; have := (not_congr (tK_end (B := (f 0)) (n := nn) (q := qq))).mp hKK.1; omega); omega, by rw [← hO, show (702 - x4).toNat = (702 - (x4 + 1)).toNat + 1 by omega]; exact (hEX _).symm⟩) (by first | (intro h; exfalso; omega) | exact fun h => (by have hRr := hRF.resolve_left (fun h2 => h h2.1); have hOE := hO; rw [show (702 - x4).toNat = (702 - (x4 + 1)).toNat + 1 by omega, hRr.2 _] at hOE; rw [← hOE]; exact ⟨hAt, rfl⟩)) hP hS (lv_sub hl [2, 3, 4, 1, 0] rfl)
            · have hO : exF (f 0) nn (702 - x4).toNat qq 1 S1 E1 = (exF (f 0) nn 702 pp 0 [] []) := by have h := hO0; rw [show x3 = 1 by omega] at h; exact h
              have hX1 : xX 1 S1 E1 c14_1 y11_1 c10_1 c11_1 y8_1 y12_1 y13_1 y14_1 := by have h := hXX; rw [show x3 = 1 by omega] at h; exact h
              refine lv_aload_n hx hb dX1_read_83 rfl (lv_at hl 0 rfl) ?_
              refine lv_aload_n hx hb dX1_read_84 rfl (lv_at hl 1 rfl) ?_
              refine g_cv (As := []) (rest := [.ref (ad 21)]) (n := 0) C hml (e_To_kind l D k A ad hD (va_up (va_up (va_up (va_up (va_up (va_up (va_up v 6 y6_1) 8 y8_1) 11 y11_1) 12 y12_1) 13 y13_1) 14 y14_1) 15 y15_1) (va_up (va_up (va_up f 14 c14_1) 10 c10_1) 11 c11_1) g nn qq (show tAt (f 0) nn (f 6) (f 7) (f 8) (v 5) y6_1 qq from hAt)) mM_X1_34 mI_X6_kind mE_X6_kind mN_X6 mC_X6_kind (by decide +kernel) 10 (ci := 6) rfl rfl hP hS (fun _ h => h) ⟨Nat.le_of_ble_eq_true rfl, Nat.le_of_ble_eq_true rfl⟩ ⟨Nat.zero_le _, Nat.zero_le _⟩ hl.1 rfl rfl (Nat.le_of_ble_eq_true rfl) dX1_read_85 (fun r_12 v_12 f_12 g_12 H locs hq_12 hP _ hS => ?_)
              obtain ⟨z_12, rfl, rfl, rfl, rfl, p0_12, p1_12⟩ := hq_12
              show W p l e (gRm 4 88) s m args below meth c _ _ 0 0 Q (F0 m 88 ls [.int (iI z_12), .ref (ad 21)])
              replace p0_12 : z_12 = (tK (f 0) nn qq) := p0_12
              replace p1_12 : 40 ≤ z_12 ∧ z_12 ≤ 277 := p1_12
              have hz_12 : inR z_12 := (by first | omega | (rw [p0_12]; split <;> omega))
              have hK := p0_12
              refine lv_aload_n hx hb dX1_read_88 rfl (lv_at hl 2 rfl) ?_
              refine g_cv (As := [.int (iI z_12), .ref (ad 14)]) (rest := []) (n := 2) C hml (e_Ex_readBehindFactor l D k A ad hD (va_up (va_up (va_up (va_up (va_up (va_up (va_up v 6 y6_1) 8 y8_1) 11 y11_1) 12 y12_1) 13 y13_1) 14 y14_1) 15 y15_1) (va_up (va_up (va_up f 14 c14_1) 10 c10_1) 11 c11_1) g z_12 nn qq S1 E1 (by omega) (show z_12 = (tK (f 0) nn qq) from hK) (show y15_1 = 0 from by omega) (show xX 1 S1 E1 c14_1 y11_1 c10_1 c11_1 y8_1 y12_1 y13_1 y14_1 from hX1) (show ¬ (z_12 = 59 ∧ y13_1 = 0) from by have hpp : y13_1 = cPa S1 := hX1.2.2.2.2.2.1; omega)) mM_X1_44 mI_X1_readBehindFactor mE_X1_readBehindFactor mN_X1 mC_X1_readBehindFactor (by decide +kernel) 21 (ci := 1) rfl rfl hP hS (fun _ h => h) ⟨Nat.le_of_ble_eq_true rfl, Nat.le_of_ble_eq_true rfl⟩ ⟨Nat.zero_le _, Nat.zero_le _⟩ hl.1 rfl rfl (Nat.le_of_ble_eq_true rfl) dX1_read_89 (fun r_13 v_13 f_13 g_13 H locs hq_13 hP _ hS => ?_)
              obtain ⟨z_13, w8_13, w11_13, w12_13, w13_13, w14_13, w15_13, a14_13, a10_13, a11_13, rfl, rfl, rfl, rfl, p0_13, p1_13⟩ := hq_13
              show W p l e (gRm 4 88) s m args below meth c _ _ 0 0 Q (F0 m 92 ls [.int (iI z_13)])
              have hP : gWd D (rwT k ad) (va_up (va_up (va_up (va_up (va_up (va_up (va_up v 6 y6_1) 8 w8_13) 11 w11_13) 12 w12_13) 13 w13_13) 14 w14_13) 15 w15_13) (va_up (va_up (va_up f 14 a14_13) 10 a10_13) 11 a11_13) g H := ⟨hP.1, (gF_up (V := rwV) (F := rwF) (gF_up (V := rwV) (F := rwF) (gF_up (V := rwV) (F := rwF) (gR_up (V := rwV) (F := rwF) (gR_up (V := rwV) (F := rwF) (gR_up (V := rwV) (F := rwF) (gR_up (V := rwV) (F := rwF) (gR_up (V := rwV) (F := rwF) (gR_up (V := rwV) (F := rwF) (gR_up (V := rwV) (F := rwF) ⟨hok.1, hok.2⟩ 6 (hP.2.1 6)) 8 (hP.2.1 8)) 11 (hP.2.1 11)) 12 (hP.2.1 12)) 13 (hP.2.1 13)) 14 (hP.2.1 14)) 15 (hP.2.1 15)) 14 (hP.2.2 14)) 10 (hP.2.2 10)) 11 (hP.2.2 11))⟩
              replace p0_13 : 0 ≤ z_13 ∧ z_13 ≤ 1 := p0_13
              replace p1_13 : (w15_13 = 0 ∧ ((tK (f 0) nn qq) ≠ 256 ∧ (tK (f 0) nn qq) ≠ 257) ∧ ∃ Sx Ex, xX z_13 Sx Ex a14_13 w11_13 a10_13 a11_13 w8_13 w12_13 w13_13 w14_13 ∧ ∀ k : Nat, exF (f 0) nn (k + 1) qq 1 S1 E1 = exF (f 0) nn k (tX (f 0) nn qq) z_13 Sx Ex) ∨ (w15_13 ≠ 0 ∧ ∀ k : Nat, exF (f 0) nn (k + 1) qq 1 S1 E1 = (w15_13, qq, E1)) := p1_13
              have rw8_13 : 0 ≤ w8_13 ∧ w8_13 ≤ 40 := hP.2.1 8
              have rw11_13 : 0 ≤ w11_13 ∧ w11_13 ≤ 27 := hP.2.1 11
              have rw12_13 : 0 ≤ w12_13 ∧ w12_13 ≤ 9 := hP.2.1 12
              have rw13_13 : 0 ≤ w13_13 ∧ w13_13 ≤ 9 := hP.2.1 13
              have rw14_13 : 0 ≤ w14_13 ∧ w14_13 ≤ 41 := hP.2.1 14
              have rw15_13 : 0 ≤ w15_13 ∧ w15_13 ≤ 5 := hP.2.1 15
              have hRF := p1_13
              refine lv_goto (tgt := 101) hx hb dX1_read_92 (by decide) ?_
              refine lv_istore_n (lv' := [(3, .int (iI z_13)), (0, .ref (ad 21)), (1, .ref (ad 10)), (2, .ref (ad 14)), (4, .int (iI x4))]) hx hb dX1_read_101 rfl hl (by decide) rfl (fun ls hl => ?_)
              refine lv_aload_n hx hb dX1_read_102 rfl (lv_at hl 1 rfl) ?_
              refine rwG_reader_expression_fault C hP mF_X1_31 dX1_read_103 ?_
              show W p l e (gRm 4 88) s m args below meth c _ _ 0 0 Q (F0 m 106 ls [.int (iI w15_13)])
              have r_14 : 0 ≤ w15_13 ∧ w15_13 ≤ 5 := hP.2.1 15
              refine gi_zne (tgt := 113) hx hb dX1_read_106 (by decide) (by omega) (fun c_15 => ?_) (fun c_15 => ?_)
              · refine lv_iinc (v := iI (x4 + 1)) (lv' := [(4, .int (iI (x4 + 1))), (3, .int (iI z_13)), (0, .ref (ad 21)), (1, .ref (ad 10)), (2, .ref (ad 14))]) hx hb dX1_read_113 hl (k := 4) rfl (by show iI _ + iI 1 = _; rw [iI_add]) (by decide) rfl (fun ls hl => ?_)
                refine lv_goto (tgt := 35) hx hb dX1_read_116 (by decide) ?_
                exact ih_35 z_13 (x4 + 1) ((tX (f 0) nn qq)) (S1) (E1) y6_1 w8_13 w11_13 w12_13 w13_13 w14_13 w15_13 a14_13 a10_13 a11_13 _ _ _ (by omega) (by omega) (by omega) (by first | (intro h; exfalso; omega) | exact fun _ => ⟨hSt hKK.1 hKK.2, hX2, by have := tX_up (B := (f 0)) (n := nn) (q := qq) (by have := hAt.p; have := (not_congr (tK_end (B := (f 0)) (n := nn) (q := qq))).mp hKK.1; omega); omega, by rw [← hO, show (702 - x4).toNat = (702 - (x4 + 1)).toNat + 1 by omega]; exact (hEX _).symm⟩) (by first | (intro h; exfalso; omega) | exact fun h => (by have hRr := hRF.resolve_left (fun h2 => h h2.1); have hOE := hO; rw [show (702 - x4).toNat = (702 - (x4 + 1)).toNat + 1 by omega, hRr.2 _] at hOE; rw [← hOE]; exact ⟨hAt, rfl⟩)) hP hS (lv_sub hl [2, 3, 4, 1, 0] rfl)
              · obtain ⟨hF0, hKK, S2, E2, hX2, hEX⟩ := hRF.resolve_right (fun h => h.1 (by omega))
                refine lv_aload_n hx hb dX1_read_109 rfl (lv_at hl 2 rfl) ?_
                refine g_cv (As := []) (rest := []) (n := 0) C hml (e_To_step l D k A ad hD (va_up (va_up (va_up (va_up (va_up (va_up (va_up v 6 y6_1) 8 w8_13) 11 w11_13) 12 w12_13) 13 w13_13) 14 w14_13) 15 w15_13) (va_up (va_up (va_up f 14 a14_13) 10 a10_13) 11 a11_13) g nn qq (show tAt (f 0) nn (f 6) (f 7) (f 8) (v 5) y6_1 qq from hAt)) mM_X1_52 mI_X6_step mE_X6_step mN_X6 mC_X6_step (by decide +kernel) 10 (ci := 6) rfl rfl hP hS (fun _ h => h) ⟨Nat.le_of_ble_eq_true rfl, Nat.le_of_ble_eq_true rfl⟩ ⟨Nat.zero_le _, Nat.zero_le _⟩ hl.1 rfl rfl (Nat.le_of_ble_eq_true rfl) dX1_read_110 (fun r_16 v_16 f_16 g_16 H locs hq_16 hP _ hS => ?_)
                obtain ⟨w6_16, rfl, rfl, rfl, rfl, p0_16⟩ := hq_16
                show W p l e (gRm 4 88) s m args below meth c _ _ 0 0 Q (F0 m 113 ls [])
                have hP : gWd D (rwT k ad) (va_up (va_up (va_up (va_up (va_up (va_up (va_up v 6 w6_16) 8 w8_13) 11 w11_13) 12 w12_13) 13 w13_13) 14 w14_13) 15 w15_13) (va_up (va_up (va_up f 14 a14_13) 10 a10_13) 11 a11_13) g H := ⟨hP.1, (gF_up (V := rwV) (F := rwF) (gF_up (V := rwV) (F := rwF) (gF_up (V := rwV) (F := rwF) (gR_up (V := rwV) (F := rwF) (gR_up (V := rwV) (F := rwF) (gR_up (V := rwV) (F := rwF) (gR_up (V := rwV) (F := rwF) (gR_up (V := rwV) (F := rwF) (gR_up (V := rwV) (F := rwF) (gR_up (V := rwV) (F := rwF) ⟨hok.1, hok.2⟩ 6 (hP.2.1 6)) 8 (hP.2.1 8)) 11 (hP.2.1 11)) 12 (hP.2.1 12)) 13 (hP.2.1 13)) 14 (hP.2.1 14)) 15 (hP.2.1 15)) 14 (hP.2.2 14)) 10 (hP.2.2 10)) 11 (hP.2.2 11))⟩
                replace p0_16 : (tK (f 0) nn qq) ≠ 256 → (tK (f 0) nn qq) ≠ 257 → tAt (f 0) nn (f 6) (f 7) (f 8) (v 5) w6_16 (tX (f 0) nn qq) := p0_16
                have rw6_16 : 0 ≤ w6_16 ∧ w6_16 ≤ 700 := hP.2.1 6
                have hSt := p0_16
                refine lv_iinc (v := iI (x4 + 1)) (lv' := [(4, .int (iI (x4 + 1))), (3, .int (iI z_13)), (0, .ref (ad 21)), (1, .ref (ad 10)), (2, .ref (ad 14))]) hx hb dX1_read_113 hl (k := 4) rfl (by show iI _ + iI 1 = _; rw [iI_add]) (by decide) rfl (fun ls hl => ?_)
                refine lv_goto (tgt := 35) hx hb dX1_read_116 (by decide) ?_
                exact ih_35 z_13 (x4 + 1) ((tX (f 0) nn qq)) (S2) (E2) w6_16 w8_13 w11_13 w12_13 w13_13 w14_13 w15_13 a14_13 a10_13 a11_13 _ _ _ (by omega) (by omega) (by omega) (by first | (intro h; exfalso; omega) | exact fun _ => ⟨hSt hKK.1 hKK.2, hX2, by have := tX_up (B := (f 0)) (n := nn) (q := qq) (by have := hAt.p; have := (not_congr (tK_end (B := (f 0)) (n := nn) (q := qq))).mp hKK.1; omega); omega, by rw [← hO, show (702 - x4).toNat = (702 - (x4 + 1)).toNat + 1 by omega]; exact (hEX _).symm⟩) (by first | (intro h; exfalso; omega) | exact fun h => (by have hRr := hRF.resolve_left (fun h2 => h h2.1); have hOE := hO; rw [show (702 - x4).toNat = (702 - (x4 + 1)).toNat + 1 by omega, hRr.2 _] at hOE; rw [← hOE]; exact ⟨hAt, rfl⟩)) hP hS (lv_sub hl [2, 3, 4, 1, 0] rfl)
          · refine lv_aload_n hx hb dX1_read_54 rfl (lv_at hl 1 rfl) ?_
            refine g_cv (As := []) (rest := []) (n := 0) C hml (e_To_kind l D k A ad hD (va_up (va_up (va_up (va_up (va_up (va_up (va_up v 6 y6_1) 8 y8_1) 11 y11_1) 12 y12_1) 13 y13_1) 14 y14_1) 15 y15_1) (va_up (va_up (va_up f 14 c14_1) 10 c10_1) 11 c11_1) g nn qq (show tAt (f 0) nn (f 6) (f 7) (f 8) (v 5) y6_1 qq from hAt)) mM_X1_34 mI_X6_kind mE_X6_kind mN_X6 mC_X6_kind (by decide +kernel) 10 (ci := 6) rfl rfl hP hS (fun _ h => h) ⟨Nat.le_of_ble_eq_true rfl, Nat.le_of_ble_eq_true rfl⟩ ⟨Nat.zero_le _, Nat.zero_le _⟩ hl.1 rfl rfl (Nat.le_of_ble_eq_true rfl) dX1_read_55 (fun r_17 v_17 f_17 g_17 H locs hq_17 hP _ hS => ?_)
            obtain ⟨z_17, rfl, rfl, rfl, rfl, p0_17, p1_17⟩ := hq_17
            show W p l e (gRm 4 88) s m args below meth c _ _ 0 0 Q (F0 m 58 ls [.int (iI z_17)])
            replace p0_17 : z_17 = (tK (f 0) nn qq) := p0_17
            replace p1_17 : 40 ≤ z_17 ∧ z_17 ≤ 277 := p1_17
            have hz_17 : inR z_17 := (by first | omega | (rw [p0_17]; split <;> omega))
            have hK := p0_17
            refine lv_bipush (v := iI 59) hx hb dX1_read_58 (by decide) ?_
            refine gi_cne (tgt := 79) hx hb dX1_read_60 (by decide) (by omega) (by decide) (fun c_18 => ?_) (fun c_18 => ?_)
            · refine lv_iload_n hx hb dX1_read_79 rfl (lv_at hl 3 rfl) ?_
              refine gi_zeq (tgt := 95) hx hb dX1_read_80 (by decide) (by omega) (fun c_19 => ?_) (fun c_19 => ?_)
              · have hO : exF (f 0) nn (702 - x4).toNat qq 0 S1 E1 = (exF (f 0) nn 702 pp 0 [] []) := by have h := hO0; rw [show x3 = 0 by omega] at h; exact h
                have hX1 : xX 0 S1 E1 c14_1 y11_1 c10_1 c11_1 y8_1 y12_1 y13_1 y14_1 := by have h := hXX; rw [show x3 = 0 by omega] at h; exact h
                refine lv_aload_n hx hb dX1_read_95 rfl (lv_at hl 0 rfl) ?_
                refine lv_aload_n hx hb dX1_read_96 rfl (lv_at hl 1 rfl) ?_
                refine lv_aload_n hx hb dX1_read_97 rfl (lv_at hl 2 rfl) ?_
                refine g_cv (As := [.ref (ad 10), .ref (ad 14)]) (rest := []) (n := 2) C hml (e_Ex_readFactor l D k A ad hD (va_up (va_up (va_up (va_up (va_up (va_up (va_up v 6 y6_1) 8 y8_1) 11 y11_1) 12 y12_1) 13 y13_1) 14 y14_1) 15 y15_1) (va_up (va_up (va_up f 14 c14_1) 10 c10_1) 11 c11_1) g nn qq S1 E1 (show tAt (f 0) nn (f 6) (f 7) (f 8) (v 5) y6_1 qq from hAt) (show y15_1 = 0 from by omega) (show xX 0 S1 E1 c14_1 y11_1 c10_1 c11_1 y8_1 y12_1 y13_1 y14_1 from hX1)) mM_X1_48 mI_X1_readFactor mE_X1_readFactor mN_X1 mC_X1_readFactor (by decide +kernel) 21 (ci := 1) rfl rfl hP hS (fun _ h => h) ⟨Nat.le_of_ble_eq_true rfl, Nat.le_of_ble_eq_true rfl⟩ ⟨Nat.zero_le _, Nat.zero_le _⟩ hl.1 rfl rfl (Nat.le_of_ble_eq_true rfl) dX1_read_98 (fun r_20 v_20 f_20 g_20 H locs hq_20 hP _ hS => ?_)
                obtain ⟨z_20, w8_20, w11_20, w12_20, w13_20, w14_20, w15_20, a14_20, a10_20, a11_20, rfl, rfl, rfl, rfl, p0_20, p1_20⟩ := hq_20
                show W p l e (gRm 4 88) s m args below meth c _ _ 0 0 Q (F0 m 101 ls [.int (iI z_20)])
                have hP : gWd D (rwT k ad) (va_up (va_up (va_up (va_up (va_up (va_up (va_up v 6 y6_1) 8 w8_20) 11 w11_20) 12 w12_20) 13 w13_20) 14 w14_20) 15 w15_20) (va_up (va_up (va_up f 14 a14_20) 10 a10_20) 11 a11_20) g H := ⟨hP.1, (gF_up (V := rwV) (F := rwF) (gF_up (V := rwV) (F := rwF) (gF_up (V := rwV) (F := rwF) (gR_up (V := rwV) (F := rwF) (gR_up (V := rwV) (F := rwF) (gR_up (V := rwV) (F := rwF) (gR_up (V := rwV) (F := rwF) (gR_up (V := rwV) (F := rwF) (gR_up (V := rwV) (F := rwF) (gR_up (V := rwV) (F := rwF) ⟨hok.1, hok.2⟩ 6 (hP.2.1 6)) 8 (hP.2.1 8)) 11 (hP.2.1 11)) 12 (hP.2.1 12)) 13 (hP.2.1 13)) 14 (hP.2.1 14)) 15 (hP.2.1 15)) 14 (hP.2.2 14)) 10 (hP.2.2 10)) 11 (hP.2.2 11))⟩
                replace p0_20 : 0 ≤ z_20 ∧ z_20 ≤ 1 := p0_20
                replace p1_20 : (w15_20 = 0 ∧ ((tK (f 0) nn qq) ≠ 256 ∧ (tK (f 0) nn qq) ≠ 257) ∧ ∃ Sx Ex, xX z_20 Sx Ex a14_20 w11_20 a10_20 a11_20 w8_20 w12_20 w13_20 w14_20 ∧ ∀ k : Nat, exF (f 0) nn (k + 1) qq 0 S1 E1 = exF (f 0) nn k (tX (f 0) nn qq) z_20 Sx Ex) ∨ (w15_20 ≠ 0 ∧ ∀ k : Nat, exF (f 0) nn (k + 1) qq 0 S1 E1 = (w15_20, qq, E1)) := p1_20
                have rw8_20 : 0 ≤ w8_20 ∧ w8_20 ≤ 40 := hP.2.1 8
                have rw11_20 : 0 ≤ w11_20 ∧ w11_20 ≤ 27 := hP.2.1 11
                have rw12_20 : 0 ≤ w12_20 ∧ w12_20 ≤ 9 := hP.2.1 12
                have rw13_20 : 0 ≤ w13_20 ∧ w13_20 ≤ 9 := hP.2.1 13
                have rw14_20 : 0 ≤ w14_20 ∧ w14_20 ≤ 41 := hP.2.1 14
                have rw15_20 : 0 ≤ w15_20 ∧ w15_20 ≤ 5 := hP.2.1 15
                have hRF := p1_20
                refine lv_istore_n (lv' := [(3, .int (iI z_20)), (0, .ref (ad 21)), (1, .ref (ad 10)), (2, .ref (ad 14)), (4, .int (iI x4))]) hx hb dX1_read_101 rfl hl (by decide) rfl (fun ls hl => ?_)
                refine lv_aload_n hx hb dX1_read_102 rfl (lv_at hl 1 rfl) ?_
                refine rwG_reader_expression_fault C hP mF_X1_31 dX1_read_103 ?_
                show W p l e (gRm 4 88) s m args below meth c _ _ 0 0 Q (F0 m 106 ls [.int (iI w15_20)])
                have r_21 : 0 ≤ w15_20 ∧ w15_20 ≤ 5 := hP.2.1 15
                refine gi_zne (tgt := 113) hx hb dX1_read_106 (by decide) (by omega) (fun c_22 => ?_) (fun c_22 => ?_)
                · refine lv_iinc (v := iI (x4 + 1)) (lv' := [(4, .int (iI (x4 + 1))), (3, .int (iI z_20)), (0, .ref (ad 21)), (1, .ref (ad 10)), (2, .ref (ad 14))]) hx hb dX1_read_113 hl (k := 4) rfl (by show iI _ + iI 1 = _; rw [iI_add]) (by decide) rfl (fun ls hl => ?_)
                  refine lv_goto (tgt := 35) hx hb dX1_read_116 (by decide) ?_
                  exact ih_35 z_20 (x4 + 1) ((tX (f 0) nn qq)) (S1) (E1) y6_1 w8_20 w11_20 w12_20 w13_20 w14_20 w15_20 a14_20 a10_20 a11_20 _ _ _ (by omega) (by omega) (by omega) (by first | (intro h; exfalso; omega) | exact fun _ => ⟨hSt hKK.1 hKK.2, hX2, by have := tX_up (B := (f 0)) (n := nn) (q := qq) (by have := hAt.p; have := (not_congr (tK_end (B := (f 0)) (n := nn) (q := qq))).mp hKK.1; omega); omega, by rw [← hO, show (702 - x4).toNat = (702 - (x4 + 1)).toNat + 1 by omega]; exact (hEX _).symm⟩) (by first | (intro h; exfalso; omega) | exact fun h => (by have hRr := hRF.resolve_left (fun h2 => h h2.1); have hOE := hO; rw [show (702 - x4).toNat = (702 - (x4 + 1)).toNat + 1 by omega, hRr.2 _] at hOE; rw [← hOE]; exact ⟨hAt, rfl⟩)) hP hS (lv_sub hl [2, 3, 4, 1, 0] rfl)
                · obtain ⟨hF0, hKK, S2, E2, hX2, hEX⟩ := hRF.resolve_right (fun h => h.1 (by omega))
                  refine lv_aload_n hx hb dX1_read_109 rfl (lv_at hl 2 rfl) ?_
                  refine g_cv (As := []) (rest := []) (n := 0) C hml (e_To_step l D k A ad hD (va_up (va_up (va_up (va_up (va_up (va_up (va_up v 6 y6_1) 8 w8_20) 11 w11_20) 12 w12_20) 13 w13_20) 14 w14_20) 15 w15_20) (va_up (va_up (va_up f 14 a14_20) 10 a10_20) 11 a11_20) g nn qq (show tAt (f 0) nn (f 6) (f 7) (f 8) (v 5) y6_1 qq from hAt)) mM_X1_52 mI_X6_step mE_X6_step mN_X6 mC_X6_step (by decide +kernel) 10 (ci := 6) rfl rfl hP hS (fun _ h => h) ⟨Nat.le_of_ble_eq_true rfl, Nat.le_of_ble_eq_true rfl⟩ ⟨Nat.zero_le _, Nat.zero_le _⟩ hl.1 rfl rfl (Nat.le_of_ble_eq_true rfl) dX1_read_110 (fun r_23 v_23 f_23 g_23 H locs hq_23 hP _ hS => ?_)
                  obtain ⟨w6_23, rfl, rfl, rfl, rfl, p0_23⟩ := hq_23
                  show W p l e (gRm 4 88) s m args below meth c _ _ 0 0 Q (F0 m 113 ls [])
                  have hP : gWd D (rwT k ad) (va_up (va_up (va_up (va_up (va_up (va_up (va_up v 6 w6_23) 8 w8_20) 11 w11_20) 12 w12_20) 13 w13_20) 14 w14_20) 15 w15_20) (va_up (va_up (va_up f 14 a14_20) 10 a10_20) 11 a11_20) g H := ⟨hP.1, (gF_up (V := rwV) (F := rwF) (gF_up (V := rwV) (F := rwF) (gF_up (V := rwV) (F := rwF) (gR_up (V := rwV) (F := rwF) (gR_up (V := rwV) (F := rwF) (gR_up (V := rwV) (F := rwF) (gR_up (V := rwV) (F := rwF) (gR_up (V := rwV) (F := rwF) (gR_up (V := rwV) (F := rwF) (gR_up (V := rwV) (F := rwF) ⟨hok.1, hok.2⟩ 6 (hP.2.1 6)) 8 (hP.2.1 8)) 11 (hP.2.1 11)) 12 (hP.2.1 12)) 13 (hP.2.1 13)) 14 (hP.2.1 14)) 15 (hP.2.1 15)) 14 (hP.2.2 14)) 10 (hP.2.2 10)) 11 (hP.2.2 11))⟩
                  replace p0_23 : (tK (f 0) nn qq) ≠ 256 → (tK (f 0) nn qq) ≠ 257 → tAt (f 0) nn (f 6) (f 7) (f 8) (v 5) w6_23 (tX (f 0) nn qq) := p0_23
                  have rw6_23 : 0 ≤ w6_23 ∧ w6_23 ≤ 700 := hP.2.1 6
                  have hSt := p0_23
                  refine lv_iinc (v := iI (x4 + 1)) (lv' := [(4, .int (iI (x4 + 1))), (3, .int (iI z_20)), (0, .ref (ad 21)), (1, .ref (ad 10)), (2, .ref (ad 14))]) hx hb dX1_read_113 hl (k := 4) rfl (by show iI _ + iI 1 = _; rw [iI_add]) (by decide) rfl (fun ls hl => ?_)
                  refine lv_goto (tgt := 35) hx hb dX1_read_116 (by decide) ?_
                  exact ih_35 z_20 (x4 + 1) ((tX (f 0) nn qq)) (S2) (E2) w6_23 w8_20 w11_20 w12_20 w13_20 w14_20 w15_20 a14_20 a10_20 a11_20 _ _ _ (by omega) (by omega) (by omega) (by first | (intro h; exfalso; omega) | exact fun _ => ⟨hSt hKK.1 hKK.2, hX2, by have := tX_up (B := (f 0)) (n := nn) (q := qq) (by have := hAt.p; have := (not_congr (tK_end (B := (f 0)) (n := nn) (q := qq))).mp hKK.1; omega); omega, by rw [← hO, show (702 - x4).toNat = (702 - (x4 + 1)).toNat + 1 by omega]; exact (hEX _).symm⟩) (by first | (intro h; exfalso; omega) | exact fun h => (by have hRr := hRF.resolve_left (fun h2 => h h2.1); have hOE := hO; rw [show (702 - x4).toNat = (702 - (x4 + 1)).toNat + 1 by omega, hRr.2 _] at hOE; rw [← hOE]; exact ⟨hAt, rfl⟩)) hP hS (lv_sub hl [2, 3, 4, 1, 0] rfl)
              · have hO : exF (f 0) nn (702 - x4).toNat qq 1 S1 E1 = (exF (f 0) nn 702 pp 0 [] []) := by have h := hO0; rw [show x3 = 1 by omega] at h; exact h
                have hX1 : xX 1 S1 E1 c14_1 y11_1 c10_1 c11_1 y8_1 y12_1 y13_1 y14_1 := by have h := hXX; rw [show x3 = 1 by omega] at h; exact h
                refine lv_aload_n hx hb dX1_read_83 rfl (lv_at hl 0 rfl) ?_
                refine lv_aload_n hx hb dX1_read_84 rfl (lv_at hl 1 rfl) ?_
                refine g_cv (As := []) (rest := [.ref (ad 21)]) (n := 0) C hml (e_To_kind l D k A ad hD (va_up (va_up (va_up (va_up (va_up (va_up (va_up v 6 y6_1) 8 y8_1) 11 y11_1) 12 y12_1) 13 y13_1) 14 y14_1) 15 y15_1) (va_up (va_up (va_up f 14 c14_1) 10 c10_1) 11 c11_1) g nn qq (show tAt (f 0) nn (f 6) (f 7) (f 8) (v 5) y6_1 qq from hAt)) mM_X1_34 mI_X6_kind mE_X6_kind mN_X6 mC_X6_kind (by decide +kernel) 10 (ci := 6) rfl rfl hP hS (fun _ h => h) ⟨Nat.le_of_ble_eq_true rfl, Nat.le_of_ble_eq_true rfl⟩ ⟨Nat.zero_le _, Nat.zero_le _⟩ hl.1 rfl rfl (Nat.le_of_ble_eq_true rfl) dX1_read_85 (fun r_24 v_24 f_24 g_24 H locs hq_24 hP _ hS => ?_)
                obtain ⟨z_24, rfl, rfl, rfl, rfl, p0_24, p1_24⟩ := hq_24
                show W p l e (gRm 4 88) s m args below meth c _ _ 0 0 Q (F0 m 88 ls [.int (iI z_24), .ref (ad 21)])
                replace p0_24 : z_24 = (tK (f 0) nn qq) := p0_24
                replace p1_24 : 40 ≤ z_24 ∧ z_24 ≤ 277 := p1_24
                have hz_24 : inR z_24 := (by first | omega | (rw [p0_24]; split <;> omega))
                have hK := p0_24
                refine lv_aload_n hx hb dX1_read_88 rfl (lv_at hl 2 rfl) ?_
                refine g_cv (As := [.int (iI z_24), .ref (ad 14)]) (rest := []) (n := 2) C hml (e_Ex_readBehindFactor l D k A ad hD (va_up (va_up (va_up (va_up (va_up (va_up (va_up v 6 y6_1) 8 y8_1) 11 y11_1) 12 y12_1) 13 y13_1) 14 y14_1) 15 y15_1) (va_up (va_up (va_up f 14 c14_1) 10 c10_1) 11 c11_1) g z_24 nn qq S1 E1 (by omega) (show z_24 = (tK (f 0) nn qq) from hK) (show y15_1 = 0 from by omega) (show xX 1 S1 E1 c14_1 y11_1 c10_1 c11_1 y8_1 y12_1 y13_1 y14_1 from hX1) (show ¬ (z_24 = 59 ∧ y13_1 = 0) from by have hpp : y13_1 = cPa S1 := hX1.2.2.2.2.2.1; omega)) mM_X1_44 mI_X1_readBehindFactor mE_X1_readBehindFactor mN_X1 mC_X1_readBehindFactor (by decide +kernel) 21 (ci := 1) rfl rfl hP hS (fun _ h => h) ⟨Nat.le_of_ble_eq_true rfl, Nat.le_of_ble_eq_true rfl⟩ ⟨Nat.zero_le _, Nat.zero_le _⟩ hl.1 rfl rfl (Nat.le_of_ble_eq_true rfl) dX1_read_89 (fun r_25 v_25 f_25 g_25 H locs hq_25 hP _ hS => ?_)
                obtain ⟨z_25, w8_25, w11_25, w12_25, w13_25, w14_25, w15_25, a14_25, a10_25, a11_25, rfl, rfl, rfl, rfl, p0_25, p1_25⟩ := hq_25
                show W p l e (gRm 4 88) s m args below meth c _ _ 0 0 Q (F0 m 92 ls [.int (iI z_25)])
                have hP : gWd D (rwT k ad) (va_up (va_up (va_up (va_up (va_up (va_up (va_up v 6 y6_1) 8 w8_25) 11 w11_25) 12 w12_25) 13 w13_25) 14 w14_25) 15 w15_25) (va_up (va_up (va_up f 14 a14_25) 10 a10_25) 11 a11_25) g H := ⟨hP.1, (gF_up (V := rwV) (F := rwF) (gF_up (V := rwV) (F := rwF) (gF_up (V := rwV) (F := rwF) (gR_up (V := rwV) (F := rwF) (gR_up (V := rwV) (F := rwF) (gR_up (V := rwV) (F := rwF) (gR_up (V := rwV) (F := rwF) (gR_up (V := rwV) (F := rwF) (gR_up (V := rwV) (F := rwF) (gR_up (V := rwV) (F := rwF) ⟨hok.1, hok.2⟩ 6 (hP.2.1 6)) 8 (hP.2.1 8)) 11 (hP.2.1 11)) 12 (hP.2.1 12)) 13 (hP.2.1 13)) 14 (hP.2.1 14)) 15 (hP.2.1 15)) 14 (hP.2.2 14)) 10 (hP.2.2 10)) 11 (hP.2.2 11))⟩
                replace p0_25 : 0 ≤ z_25 ∧ z_25 ≤ 1 := p0_25
                replace p1_25 : (w15_25 = 0 ∧ ((tK (f 0) nn qq) ≠ 256 ∧ (tK (f 0) nn qq) ≠ 257) ∧ ∃ Sx Ex, xX z_25 Sx Ex a14_25 w11_25 a10_25 a11_25 w8_25 w12_25 w13_25 w14_25 ∧ ∀ k : Nat, exF (f 0) nn (k + 1) qq 1 S1 E1 = exF (f 0) nn k (tX (f 0) nn qq) z_25 Sx Ex) ∨ (w15_25 ≠ 0 ∧ ∀ k : Nat, exF (f 0) nn (k + 1) qq 1 S1 E1 = (w15_25, qq, E1)) := p1_25
                have rw8_25 : 0 ≤ w8_25 ∧ w8_25 ≤ 40 := hP.2.1 8
                have rw11_25 : 0 ≤ w11_25 ∧ w11_25 ≤ 27 := hP.2.1 11
                have rw12_25 : 0 ≤ w12_25 ∧ w12_25 ≤ 9 := hP.2.1 12
                have rw13_25 : 0 ≤ w13_25 ∧ w13_25 ≤ 9 := hP.2.1 13
                have rw14_25 : 0 ≤ w14_25 ∧ w14_25 ≤ 41 := hP.2.1 14
                have rw15_25 : 0 ≤ w15_25 ∧ w15_25 ≤ 5 := hP.2.1 15
                have hRF := p1_25
                refine lv_goto (tgt := 101) hx hb dX1_read_92 (by decide) ?_
                refine lv_istore_n (lv' := [(3, .int (iI z_25)), (0, .ref (ad 21)), (1, .ref (ad 10)), (2, .ref (ad 14)), (4, .int (iI x4))]) hx hb dX1_read_101 rfl hl (by decide) rfl (fun ls hl => ?_)
                refine lv_aload_n hx hb dX1_read_102 rfl (lv_at hl 1 rfl) ?_
                refine rwG_reader_expression_fault C hP mF_X1_31 dX1_read_103 ?_
                show W p l e (gRm 4 88) s m args below meth c _ _ 0 0 Q (F0 m 106 ls [.int (iI w15_25)])
                have r_26 : 0 ≤ w15_25 ∧ w15_25 ≤ 5 := hP.2.1 15
                refine gi_zne (tgt := 113) hx hb dX1_read_106 (by decide) (by omega) (fun c_27 => ?_) (fun c_27 => ?_)
                · refine lv_iinc (v := iI (x4 + 1)) (lv' := [(4, .int (iI (x4 + 1))), (3, .int (iI z_25)), (0, .ref (ad 21)), (1, .ref (ad 10)), (2, .ref (ad 14))]) hx hb dX1_read_113 hl (k := 4) rfl (by show iI _ + iI 1 = _; rw [iI_add]) (by decide) rfl (fun ls hl => ?_)
                  refine lv_goto (tgt := 35) hx hb dX1_read_116 (by decide) ?_
                  exact ih_35 z_25 (x4 + 1) ((tX (f 0) nn qq)) (S1) (E1) y6_1 w8_25 w11_25 w12_25 w13_25 w14_25 w15_25 a14_25 a10_25 a11_25 _ _ _ (by omega) (by omega) (by omega) (by first | (intro h; exfalso; omega) | exact fun _ => ⟨hSt hKK.1 hKK.2, hX2, by have := tX_up (B := (f 0)) (n := nn) (q := qq) (by have := hAt.p; have := (not_congr (tK_end (B := (f 0)) (n := nn) (q := qq))).mp hKK.1; omega); omega, by rw [← hO, show (702 - x4).toNat = (702 - (x4 + 1)).toNat + 1 by omega]; exact (hEX _).symm⟩) (by first | (intro h; exfalso; omega) | exact fun h => (by have hRr := hRF.resolve_left (fun h2 => h h2.1); have hOE := hO; rw [show (702 - x4).toNat = (702 - (x4 + 1)).toNat + 1 by omega, hRr.2 _] at hOE; rw [← hOE]; exact ⟨hAt, rfl⟩)) hP hS (lv_sub hl [2, 3, 4, 1, 0] rfl)
                · obtain ⟨hF0, hKK, S2, E2, hX2, hEX⟩ := hRF.resolve_right (fun h => h.1 (by omega))
                  refine lv_aload_n hx hb dX1_read_109 rfl (lv_at hl 2 rfl) ?_
                  refine g_cv (As := []) (rest := []) (n := 0) C hml (e_To_step l D k A ad hD (va_up (va_up (va_up (va_up (va_up (va_up (va_up v 6 y6_1) 8 w8_25) 11 w11_25) 12 w12_25) 13 w13_25) 14 w14_25) 15 w15_25) (va_up (va_up (va_up f 14 a14_25) 10 a10_25) 11 a11_25) g nn qq (show tAt (f 0) nn (f 6) (f 7) (f 8) (v 5) y6_1 qq from hAt)) mM_X1_52 mI_X6_step mE_X6_step mN_X6 mC_X6_step (by decide +kernel) 10 (ci := 6) rfl rfl hP hS (fun _ h => h) ⟨Nat.le_of_ble_eq_true rfl, Nat.le_of_ble_eq_true rfl⟩ ⟨Nat.zero_le _, Nat.zero_le _⟩ hl.1 rfl rfl (Nat.le_of_ble_eq_true rfl) dX1_read_110 (fun r_28 v_28 f_28 g_28 H locs hq_28 hP _ hS => ?_)
                  obtain ⟨w6_28, rfl, rfl, rfl, rfl, p0_28⟩ := hq_28
                  show W p l e (gRm 4 88) s m args below meth c _ _ 0 0 Q (F0 m 113 ls [])
                  have hP : gWd D (rwT k ad) (va_up (va_up (va_up (va_up (va_up (va_up (va_up v 6 w6_28) 8 w8_25) 11 w11_25) 12 w12_25) 13 w13_25) 14 w14_25) 15 w15_25) (va_up (va_up (va_up f 14 a14_25) 10 a10_25) 11 a11_25) g H := ⟨hP.1, (gF_up (V := rwV) (F := rwF) (gF_up (V := rwV) (F := rwF) (gF_up (V := rwV) (F := rwF) (gR_up (V := rwV) (F := rwF) (gR_up (V := rwV) (F := rwF) (gR_up (V := rwV) (F := rwF) (gR_up (V := rwV) (F := rwF) (gR_up (V := rwV) (F := rwF) (gR_up (V := rwV) (F := rwF) (gR_up (V := rwV) (F := rwF) ⟨hok.1, hok.2⟩ 6 (hP.2.1 6)) 8 (hP.2.1 8)) 11 (hP.2.1 11)) 12 (hP.2.1 12)) 13 (hP.2.1 13)) 14 (hP.2.1 14)) 15 (hP.2.1 15)) 14 (hP.2.2 14)) 10 (hP.2.2 10)) 11 (hP.2.2 11))⟩
                  replace p0_28 : (tK (f 0) nn qq) ≠ 256 → (tK (f 0) nn qq) ≠ 257 → tAt (f 0) nn (f 6) (f 7) (f 8) (v 5) w6_28 (tX (f 0) nn qq) := p0_28
                  have rw6_28 : 0 ≤ w6_28 ∧ w6_28 ≤ 700 := hP.2.1 6
                  have hSt := p0_28
                  refine lv_iinc (v := iI (x4 + 1)) (lv' := [(4, .int (iI (x4 + 1))), (3, .int (iI z_25)), (0, .ref (ad 21)), (1, .ref (ad 10)), (2, .ref (ad 14))]) hx hb dX1_read_113 hl (k := 4) rfl (by show iI _ + iI 1 = _; rw [iI_add]) (by decide) rfl (fun ls hl => ?_)
                  refine lv_goto (tgt := 35) hx hb dX1_read_116 (by decide) ?_
                  exact ih_35 z_25 (x4 + 1) ((tX (f 0) nn qq)) (S2) (E2) w6_28 w8_25 w11_25 w12_25 w13_25 w14_25 w15_25 a14_25 a10_25 a11_25 _ _ _ (by omega) (by omega) (by omega) (by first | (intro h; exfalso; omega) | exact fun _ => ⟨hSt hKK.1 hKK.2, hX2, by have := tX_up (B := (f 0)) (n := nn) (q := qq) (by have := hAt.p; have := (not_congr (tK_end (B := (f 0)) (n := nn) (q := qq))).mp hKK.1; omega); omega, by rw [← hO, show (702 - x4).toNat = (702 - (x4 + 1)).toNat + 1 by omega]; exact (hEX _).symm⟩) (by first | (intro h; exfalso; omega) | exact fun h => (by have hRr := hRF.resolve_left (fun h2 => h h2.1); have hOE := hO; rw [show (702 - x4).toNat = (702 - (x4 + 1)).toNat + 1 by omega, hRr.2 _] at hOE; rw [← hOE]; exact ⟨hAt, rfl⟩)) hP hS (lv_sub hl [2, 3, 4, 1, 0] rfl)
            · refine lv_aload_n hx hb dX1_read_63 rfl (lv_at hl 0 rfl) ?_
              refine rwG_reader_expression_parens C hP mF_X1_27 dX1_read_64 ?_
              show W p l e (gRm 4 88) s m args below meth c _ _ 0 0 Q (F0 m 67 ls [.int (iI y13_1)])
              have r_29 : 0 ≤ y13_1 ∧ y13_1 ≤ 9 := hP.2.1 13
              refine gi_zne (tgt := 79) hx hb dX1_read_67 (by decide) (by omega) (fun c_30 => ?_) (fun c_30 => ?_)
              · refine lv_iload_n hx hb dX1_read_79 rfl (lv_at hl 3 rfl) ?_
                refine gi_zeq (tgt := 95) hx hb dX1_read_80 (by decide) (by omega) (fun c_31 => ?_) (fun c_31 => ?_)
                · have hO : exF (f 0) nn (702 - x4).toNat qq 0 S1 E1 = (exF (f 0) nn 702 pp 0 [] []) := by have h := hO0; rw [show x3 = 0 by omega] at h; exact h
                  have hX1 : xX 0 S1 E1 c14_1 y11_1 c10_1 c11_1 y8_1 y12_1 y13_1 y14_1 := by have h := hXX; rw [show x3 = 0 by omega] at h; exact h
                  refine lv_aload_n hx hb dX1_read_95 rfl (lv_at hl 0 rfl) ?_
                  refine lv_aload_n hx hb dX1_read_96 rfl (lv_at hl 1 rfl) ?_
                  refine lv_aload_n hx hb dX1_read_97 rfl (lv_at hl 2 rfl) ?_
                  refine g_cv (As := [.ref (ad 10), .ref (ad 14)]) (rest := []) (n := 2) C hml (e_Ex_readFactor l D k A ad hD (va_up (va_up (va_up (va_up (va_up (va_up (va_up v 6 y6_1) 8 y8_1) 11 y11_1) 12 y12_1) 13 y13_1) 14 y14_1) 15 y15_1) (va_up (va_up (va_up f 14 c14_1) 10 c10_1) 11 c11_1) g nn qq S1 E1 (show tAt (f 0) nn (f 6) (f 7) (f 8) (v 5) y6_1 qq from hAt) (show y15_1 = 0 from by omega) (show xX 0 S1 E1 c14_1 y11_1 c10_1 c11_1 y8_1 y12_1 y13_1 y14_1 from hX1)) mM_X1_48 mI_X1_readFactor mE_X1_readFactor mN_X1 mC_X1_readFactor (by decide +kernel) 21 (ci := 1) rfl rfl hP hS (fun _ h => h) ⟨Nat.le_of_ble_eq_true rfl, Nat.le_of_ble_eq_true rfl⟩ ⟨Nat.zero_le _, Nat.zero_le _⟩ hl.1 rfl rfl (Nat.le_of_ble_eq_true rfl) dX1_read_98 (fun r_32 v_32 f_32 g_32 H locs hq_32 hP _ hS => ?_)
                  obtain ⟨z_32, w8_32, w11_32, w12_32, w13_32, w14_32, w15_32, a14_32, a10_32, a11_32, rfl, rfl, rfl, rfl, p0_32, p1_32⟩ := hq_32
                  show W p l e (gRm 4 88) s m args below meth c _ _ 0 0 Q (F0 m 101 ls [.int (iI z_32)])
                  have hP : gWd D (rwT k ad) (va_up (va_up (va_up (va_up (va_up (va_up (va_up v 6 y6_1) 8 w8_32) 11 w11_32) 12 w12_32) 13 w13_32) 14 w14_32) 15 w15_32) (va_up (va_up (va_up f 14 a14_32) 10 a10_32) 11 a11_32) g H := ⟨hP.1, (gF_up (V := rwV) (F := rwF) (gF_up (V := rwV) (F := rwF) (gF_up (V := rwV) (F := rwF) (gR_up (V := rwV) (F := rwF) (gR_up (V := rwV) (F := rwF) (gR_up (V := rwV) (F := rwF) (gR_up (V := rwV) (F := rwF) (gR_up (V := rwV) (F := rwF) (gR_up (V := rwV) (F := rwF) (gR_up (V := rwV) (F := rwF) ⟨hok.1, hok.2⟩ 6 (hP.2.1 6)) 8 (hP.2.1 8)) 11 (hP.2.1 11)) 12 (hP.2.1 12)) 13 (hP.2.1 13)) 14 (hP.2.1 14)) 15 (hP.2.1 15)) 14 (hP.2.2 14)) 10 (hP.2.2 10)) 11 (hP.2.2 11))⟩
                  replace p0_32 : 0 ≤ z_32 ∧ z_32 ≤ 1 := p0_32
                  replace p1_32 : (w15_32 = 0 ∧ ((tK (f 0) nn qq) ≠ 256 ∧ (tK (f 0) nn qq) ≠ 257) ∧ ∃ Sx Ex, xX z_32 Sx Ex a14_32 w11_32 a10_32 a11_32 w8_32 w12_32 w13_32 w14_32 ∧ ∀ k : Nat, exF (f 0) nn (k + 1) qq 0 S1 E1 = exF (f 0) nn k (tX (f 0) nn qq) z_32 Sx Ex) ∨ (w15_32 ≠ 0 ∧ ∀ k : Nat, exF (f 0) nn (k + 1) qq 0 S1 E1 = (w15_32, qq, E1)) := p1_32
                  have rw8_32 : 0 ≤ w8_32 ∧ w8_32 ≤ 40 := hP.2.1 8
                  have rw11_32 : 0 ≤ w11_32 ∧ w11_32 ≤ 27 := hP.2.1 11
                  have rw12_32 : 0 ≤ w12_32 ∧ w12_32 ≤ 9 := hP.2.1 12
                  have rw13_32 : 0 ≤ w13_32 ∧ w13_32 ≤ 9 := hP.2.1 13
                  have rw14_32 : 0 ≤ w14_32 ∧ w14_32 ≤ 41 := hP.2.1 14
                  have rw15_32 : 0 ≤ w15_32 ∧ w15_32 ≤ 5 := hP.2.1 15
                  have hRF := p1_32
                  refine lv_istore_n (lv' := [(3, .int (iI z_32)), (0, .ref (ad 21)), (1, .ref (ad 10)), (2, .ref (ad 14)), (4, .int (iI x4))]) hx hb dX1_read_101 rfl hl (by decide) rfl (fun ls hl => ?_)
                  refine lv_aload_n hx hb dX1_read_102 rfl (lv_at hl 1 rfl) ?_
                  refine rwG_reader_expression_fault C hP mF_X1_31 dX1_read_103 ?_
                  show W p l e (gRm 4 88) s m args below meth c _ _ 0 0 Q (F0 m 106 ls [.int (iI w15_32)])
                  have r_33 : 0 ≤ w15_32 ∧ w15_32 ≤ 5 := hP.2.1 15
                  refine gi_zne (tgt := 113) hx hb dX1_read_106 (by decide) (by omega) (fun c_34 => ?_) (fun c_34 => ?_)
                  · refine lv_iinc (v := iI (x4 + 1)) (lv' := [(4, .int (iI (x4 + 1))), (3, .int (iI z_32)), (0, .ref (ad 21)), (1, .ref (ad 10)), (2, .ref (ad 14))]) hx hb dX1_read_113 hl (k := 4) rfl (by show iI _ + iI 1 = _; rw [iI_add]) (by decide) rfl (fun ls hl => ?_)
                    refine lv_goto (tgt := 35) hx hb dX1_read_116 (by decide) ?_
                    exact ih_35 z_32 (x4 + 1) ((tX (f 0) nn qq)) (S1) (E1) y6_1 w8_32 w11_32 w12_32 w13_32 w14_32 w15_32 a14_32 a10_32 a11_32 _ _ _ (by omega) (by omega) (by omega) (by first | (intro h; exfalso; omega) | exact fun _ => ⟨hSt hKK.1 hKK.2, hX2, by have := tX_up (B := (f 0)) (n := nn) (q := qq) (by have := hAt.p; have := (not_congr (tK_end (B := (f 0)) (n := nn) (q := qq))).mp hKK.1; omega); omega, by rw [← hO, show (702 - x4).toNat = (702 - (x4 + 1)).toNat + 1 by omega]; exact (hEX _).symm⟩) (by first | (intro h; exfalso; omega) | exact fun h => (by have hRr := hRF.resolve_left (fun h2 => h h2.1); have hOE := hO; rw [show (702 - x4).toNat = (702 - (x4 + 1)).toNat + 1 by omega, hRr.2 _] at hOE; rw [← hOE]; exact ⟨hAt, rfl⟩)) hP hS (lv_sub hl [2, 3, 4, 1, 0] rfl)
                  · obtain ⟨hF0, hKK, S2, E2, hX2, hEX⟩ := hRF.resolve_right (fun h => h.1 (by omega))
                    refine lv_aload_n hx hb dX1_read_109 rfl (lv_at hl 2 rfl) ?_
                    refine g_cv (As := []) (rest := []) (n := 0) C hml (e_To_step l D k A ad hD (va_up (va_up (va_up (va_up (va_up (va_up (va_up v 6 y6_1) 8 w8_32) 11 w11_32) 12 w12_32) 13 w13_32) 14 w14_32) 15 w15_32) (va_up (va_up (va_up f 14 a14_32) 10 a10_32) 11 a11_32) g nn qq (show tAt (f 0) nn (f 6) (f 7) (f 8) (v 5) y6_1 qq from hAt)) mM_X1_52 mI_X6_step mE_X6_step mN_X6 mC_X6_step (by decide +kernel) 10 (ci := 6) rfl rfl hP hS (fun _ h => h) ⟨Nat.le_of_ble_eq_true rfl, Nat.le_of_ble_eq_true rfl⟩ ⟨Nat.zero_le _, Nat.zero_le _⟩ hl.1 rfl rfl (Nat.le_of_ble_eq_true rfl) dX1_read_110 (fun r_35 v_35 f_35 g_35 H locs hq_35 hP _ hS => ?_)
                    obtain ⟨w6_35, rfl, rfl, rfl, rfl, p0_35⟩ := hq_35
                    show W p l e (gRm 4 88) s m args below meth c _ _ 0 0 Q (F0 m 113 ls [])
                    have hP : gWd D (rwT k ad) (va_up (va_up (va_up (va_up (va_up (va_up (va_up v 6 w6_35) 8 w8_32) 11 w11_32) 12 w12_32) 13 w13_32) 14 w14_32) 15 w15_32) (va_up (va_up (va_up f 14 a14_32) 10 a10_32) 11 a11_32) g H := ⟨hP.1, (gF_up (V := rwV) (F := rwF) (gF_up (V := rwV) (F := rwF) (gF_up (V := rwV) (F := rwF) (gR_up (V := rwV) (F := rwF) (gR_up (V := rwV) (F := rwF) (gR_up (V := rwV) (F := rwF) (gR_up (V := rwV) (F := rwF) (gR_up (V := rwV) (F := rwF) (gR_up (V := rwV) (F := rwF) (gR_up (V := rwV) (F := rwF) ⟨hok.1, hok.2⟩ 6 (hP.2.1 6)) 8 (hP.2.1 8)) 11 (hP.2.1 11)) 12 (hP.2.1 12)) 13 (hP.2.1 13)) 14 (hP.2.1 14)) 15 (hP.2.1 15)) 14 (hP.2.2 14)) 10 (hP.2.2 10)) 11 (hP.2.2 11))⟩
                    replace p0_35 : (tK (f 0) nn qq) ≠ 256 → (tK (f 0) nn qq) ≠ 257 → tAt (f 0) nn (f 6) (f 7) (f 8) (v 5) w6_35 (tX (f 0) nn qq) := p0_35
                    have rw6_35 : 0 ≤ w6_35 ∧ w6_35 ≤ 700 := hP.2.1 6
                    have hSt := p0_35
                    refine lv_iinc (v := iI (x4 + 1)) (lv' := [(4, .int (iI (x4 + 1))), (3, .int (iI z_32)), (0, .ref (ad 21)), (1, .ref (ad 10)), (2, .ref (ad 14))]) hx hb dX1_read_113 hl (k := 4) rfl (by show iI _ + iI 1 = _; rw [iI_add]) (by decide) rfl (fun ls hl => ?_)
                    refine lv_goto (tgt := 35) hx hb dX1_read_116 (by decide) ?_
                    exact ih_35 z_32 (x4 + 1) ((tX (f 0) nn qq)) (S2) (E2) w6_35 w8_32 w11_32 w12_32 w13_32 w14_32 w15_32 a14_32 a10_32 a11_32 _ _ _ (by omega) (by omega) (by omega) (by first | (intro h; exfalso; omega) | exact fun _ => ⟨hSt hKK.1 hKK.2, hX2, by have := tX_up (B := (f 0)) (n := nn) (q := qq) (by have := hAt.p; have := (not_congr (tK_end (B := (f 0)) (n := nn) (q := qq))).mp hKK.1; omega); omega, by rw [← hO, show (702 - x4).toNat = (702 - (x4 + 1)).toNat + 1 by omega]; exact (hEX _).symm⟩) (by first | (intro h; exfalso; omega) | exact fun h => (by have hRr := hRF.resolve_left (fun h2 => h h2.1); have hOE := hO; rw [show (702 - x4).toNat = (702 - (x4 + 1)).toNat + 1 by omega, hRr.2 _] at hOE; rw [← hOE]; exact ⟨hAt, rfl⟩)) hP hS (lv_sub hl [2, 3, 4, 1, 0] rfl)
                · have hO : exF (f 0) nn (702 - x4).toNat qq 1 S1 E1 = (exF (f 0) nn 702 pp 0 [] []) := by have h := hO0; rw [show x3 = 1 by omega] at h; exact h
                  have hX1 : xX 1 S1 E1 c14_1 y11_1 c10_1 c11_1 y8_1 y12_1 y13_1 y14_1 := by have h := hXX; rw [show x3 = 1 by omega] at h; exact h
                  refine lv_aload_n hx hb dX1_read_83 rfl (lv_at hl 0 rfl) ?_
                  refine lv_aload_n hx hb dX1_read_84 rfl (lv_at hl 1 rfl) ?_
                  refine g_cv (As := []) (rest := [.ref (ad 21)]) (n := 0) C hml (e_To_kind l D k A ad hD (va_up (va_up (va_up (va_up (va_up (va_up (va_up v 6 y6_1) 8 y8_1) 11 y11_1) 12 y12_1) 13 y13_1) 14 y14_1) 15 y15_1) (va_up (va_up (va_up f 14 c14_1) 10 c10_1) 11 c11_1) g nn qq (show tAt (f 0) nn (f 6) (f 7) (f 8) (v 5) y6_1 qq from hAt)) mM_X1_34 mI_X6_kind mE_X6_kind mN_X6 mC_X6_kind (by decide +kernel) 10 (ci := 6) rfl rfl hP hS (fun _ h => h) ⟨Nat.le_of_ble_eq_true rfl, Nat.le_of_ble_eq_true rfl⟩ ⟨Nat.zero_le _, Nat.zero_le _⟩ hl.1 rfl rfl (Nat.le_of_ble_eq_true rfl) dX1_read_85 (fun r_36 v_36 f_36 g_36 H locs hq_36 hP _ hS => ?_)
                  obtain ⟨z_36, rfl, rfl, rfl, rfl, p0_36, p1_36⟩ := hq_36
                  show W p l e (gRm 4 88) s m args below meth c _ _ 0 0 Q (F0 m 88 ls [.int (iI z_36), .ref (ad 21)])
                  replace p0_36 : z_36 = (tK (f 0) nn qq) := p0_36
                  replace p1_36 : 40 ≤ z_36 ∧ z_36 ≤ 277 := p1_36
                  have hz_36 : inR z_36 := (by first | omega | (rw [p0_36]; split <;> omega))
                  have hK := p0_36
                  refine lv_aload_n hx hb dX1_read_88 rfl (lv_at hl 2 rfl) ?_
                  refine g_cv (As := [.int (iI z_36), .ref (ad 14)]) (rest := []) (n := 2) C hml (e_Ex_readBehindFactor l D k A ad hD (va_up (va_up (va_up (va_up (va_up (va_up (va_up v 6 y6_1) 8 y8_1) 11 y11_1) 12 y12_1) 13 y13_1) 14 y14_1) 15 y15_1) (va_up (va_up (va_up f 14 c14_1) 10 c10_1) 11 c11_1) g z_36 nn qq S1 E1 (by omega) (show z_36 = (tK (f 0) nn qq) from hK) (show y15_1 = 0 from by omega) (show xX 1 S1 E1 c14_1 y11_1 c10_1 c11_1 y8_1 y12_1 y13_1 y14_1 from hX1) (show ¬ (z_36 = 59 ∧ y13_1 = 0) from by have hpp : y13_1 = cPa S1 := hX1.2.2.2.2.2.1; omega)) mM_X1_44 mI_X1_readBehindFactor mE_X1_readBehindFactor mN_X1 mC_X1_readBehindFactor (by decide +kernel) 21 (ci := 1) rfl rfl hP hS (fun _ h => h) ⟨Nat.le_of_ble_eq_true rfl, Nat.le_of_ble_eq_true rfl⟩ ⟨Nat.zero_le _, Nat.zero_le _⟩ hl.1 rfl rfl (Nat.le_of_ble_eq_true rfl) dX1_read_89 (fun r_37 v_37 f_37 g_37 H locs hq_37 hP _ hS => ?_)
                  obtain ⟨z_37, w8_37, w11_37, w12_37, w13_37, w14_37, w15_37, a14_37, a10_37, a11_37, rfl, rfl, rfl, rfl, p0_37, p1_37⟩ := hq_37
                  show W p l e (gRm 4 88) s m args below meth c _ _ 0 0 Q (F0 m 92 ls [.int (iI z_37)])
                  have hP : gWd D (rwT k ad) (va_up (va_up (va_up (va_up (va_up (va_up (va_up v 6 y6_1) 8 w8_37) 11 w11_37) 12 w12_37) 13 w13_37) 14 w14_37) 15 w15_37) (va_up (va_up (va_up f 14 a14_37) 10 a10_37) 11 a11_37) g H := ⟨hP.1, (gF_up (V := rwV) (F := rwF) (gF_up (V := rwV) (F := rwF) (gF_up (V := rwV) (F := rwF) (gR_up (V := rwV) (F := rwF) (gR_up (V := rwV) (F := rwF) (gR_up (V := rwV) (F := rwF) (gR_up (V := rwV) (F := rwF) (gR_up (V := rwV) (F := rwF) (gR_up (V := rwV) (F := rwF) (gR_up (V := rwV) (F := rwF) ⟨hok.1, hok.2⟩ 6 (hP.2.1 6)) 8 (hP.2.1 8)) 11 (hP.2.1 11)) 12 (hP.2.1 12)) 13 (hP.2.1 13)) 14 (hP.2.1 14)) 15 (hP.2.1 15)) 14 (hP.2.2 14)) 10 (hP.2.2 10)) 11 (hP.2.2 11))⟩
                  replace p0_37 : 0 ≤ z_37 ∧ z_37 ≤ 1 := p0_37
                  replace p1_37 : (w15_37 = 0 ∧ ((tK (f 0) nn qq) ≠ 256 ∧ (tK (f 0) nn qq) ≠ 257) ∧ ∃ Sx Ex, xX z_37 Sx Ex a14_37 w11_37 a10_37 a11_37 w8_37 w12_37 w13_37 w14_37 ∧ ∀ k : Nat, exF (f 0) nn (k + 1) qq 1 S1 E1 = exF (f 0) nn k (tX (f 0) nn qq) z_37 Sx Ex) ∨ (w15_37 ≠ 0 ∧ ∀ k : Nat, exF (f 0) nn (k + 1) qq 1 S1 E1 = (w15_37, qq, E1)) := p1_37
                  have rw8_37 : 0 ≤ w8_37 ∧ w8_37 ≤ 40 := hP.2.1 8
                  have rw11_37 : 0 ≤ w11_37 ∧ w11_37 ≤ 27 := hP.2.1 11
                  have rw12_37 : 0 ≤ w12_37 ∧ w12_37 ≤ 9 := hP.2.1 12
                  have rw13_37 : 0 ≤ w13_37 ∧ w13_37 ≤ 9 := hP.2.1 13
                  have rw14_37 : 0 ≤ w14_37 ∧ w14_37 ≤ 41 := hP.2.1 14
                  have rw15_37 : 0 ≤ w15_37 ∧ w15_37 ≤ 5 := hP.2.1 15
                  have hRF := p1_37
                  refine lv_goto (tgt := 101) hx hb dX1_read_92 (by decide) ?_
                  refine lv_istore_n (lv' := [(3, .int (iI z_37)), (0, .ref (ad 21)), (1, .ref (ad 10)), (2, .ref (ad 14)), (4, .int (iI x4))]) hx hb dX1_read_101 rfl hl (by decide) rfl (fun ls hl => ?_)
                  refine lv_aload_n hx hb dX1_read_102 rfl (lv_at hl 1 rfl) ?_
                  refine rwG_reader_expression_fault C hP mF_X1_31 dX1_read_103 ?_
                  show W p l e (gRm 4 88) s m args below meth c _ _ 0 0 Q (F0 m 106 ls [.int (iI w15_37)])
                  have r_38 : 0 ≤ w15_37 ∧ w15_37 ≤ 5 := hP.2.1 15
                  refine gi_zne (tgt := 113) hx hb dX1_read_106 (by decide) (by omega) (fun c_39 => ?_) (fun c_39 => ?_)
                  · refine lv_iinc (v := iI (x4 + 1)) (lv' := [(4, .int (iI (x4 + 1))), (3, .int (iI z_37)), (0, .ref (ad 21)), (1, .ref (ad 10)), (2, .ref (ad 14))]) hx hb dX1_read_113 hl (k := 4) rfl (by show iI _ + iI 1 = _; rw [iI_add]) (by decide) rfl (fun ls hl => ?_)
                    refine lv_goto (tgt := 35) hx hb dX1_read_116 (by decide) ?_
                    exact ih_35 z_37 (x4 + 1) ((tX (f 0) nn qq)) (S1) (E1) y6_1 w8_37 w11_37 w12_37 w13_37 w14_37 w15_37 a14_37 a10_37 a11_37 _ _ _ (by omega) (by omega) (by omega) (by first | (intro h; exfalso; omega) | exact fun _ => ⟨hSt hKK.1 hKK.2, hX2, by have := tX_up (B := (f 0)) (n := nn) (q := qq) (by have := hAt.p; have := (not_congr (tK_end (B := (f 0)) (n := nn) (q := qq))).mp hKK.1; omega); omega, by rw [← hO, show (702 - x4).toNat = (702 - (x4 + 1)).toNat + 1 by omega]; exact (hEX _).symm⟩) (by first | (intro h; exfalso; omega) | exact fun h => (by have hRr := hRF.resolve_left (fun h2 => h h2.1); have hOE := hO; rw [show (702 - x4).toNat = (702 - (x4 + 1)).toNat + 1 by omega, hRr.2 _] at hOE; rw [← hOE]; exact ⟨hAt, rfl⟩)) hP hS (lv_sub hl [2, 3, 4, 1, 0] rfl)
                  · obtain ⟨hF0, hKK, S2, E2, hX2, hEX⟩ := hRF.resolve_right (fun h => h.1 (by omega))
                    refine lv_aload_n hx hb dX1_read_109 rfl (lv_at hl 2 rfl) ?_
                    refine g_cv (As := []) (rest := []) (n := 0) C hml (e_To_step l D k A ad hD (va_up (va_up (va_up (va_up (va_up (va_up (va_up v 6 y6_1) 8 w8_37) 11 w11_37) 12 w12_37) 13 w13_37) 14 w14_37) 15 w15_37) (va_up (va_up (va_up f 14 a14_37) 10 a10_37) 11 a11_37) g nn qq (show tAt (f 0) nn (f 6) (f 7) (f 8) (v 5) y6_1 qq from hAt)) mM_X1_52 mI_X6_step mE_X6_step mN_X6 mC_X6_step (by decide +kernel) 10 (ci := 6) rfl rfl hP hS (fun _ h => h) ⟨Nat.le_of_ble_eq_true rfl, Nat.le_of_ble_eq_true rfl⟩ ⟨Nat.zero_le _, Nat.zero_le _⟩ hl.1 rfl rfl (Nat.le_of_ble_eq_true rfl) dX1_read_110 (fun r_40 v_40 f_40 g_40 H locs hq_40 hP _ hS => ?_)
                    obtain ⟨w6_40, rfl, rfl, rfl, rfl, p0_40⟩ := hq_40
                    show W p l e (gRm 4 88) s m args below meth c _ _ 0 0 Q (F0 m 113 ls [])
                    have hP : gWd D (rwT k ad) (va_up (va_up (va_up (va_up (va_up (va_up (va_up v 6 w6_40) 8 w8_37) 11 w11_37) 12 w12_37) 13 w13_37) 14 w14_37) 15 w15_37) (va_up (va_up (va_up f 14 a14_37) 10 a10_37) 11 a11_37) g H := ⟨hP.1, (gF_up (V := rwV) (F := rwF) (gF_up (V := rwV) (F := rwF) (gF_up (V := rwV) (F := rwF) (gR_up (V := rwV) (F := rwF) (gR_up (V := rwV) (F := rwF) (gR_up (V := rwV) (F := rwF) (gR_up (V := rwV) (F := rwF) (gR_up (V := rwV) (F := rwF) (gR_up (V := rwV) (F := rwF) (gR_up (V := rwV) (F := rwF) ⟨hok.1, hok.2⟩ 6 (hP.2.1 6)) 8 (hP.2.1 8)) 11 (hP.2.1 11)) 12 (hP.2.1 12)) 13 (hP.2.1 13)) 14 (hP.2.1 14)) 15 (hP.2.1 15)) 14 (hP.2.2 14)) 10 (hP.2.2 10)) 11 (hP.2.2 11))⟩
                    replace p0_40 : (tK (f 0) nn qq) ≠ 256 → (tK (f 0) nn qq) ≠ 257 → tAt (f 0) nn (f 6) (f 7) (f 8) (v 5) w6_40 (tX (f 0) nn qq) := p0_40
                    have rw6_40 : 0 ≤ w6_40 ∧ w6_40 ≤ 700 := hP.2.1 6
                    have hSt := p0_40
                    refine lv_iinc (v := iI (x4 + 1)) (lv' := [(4, .int (iI (x4 + 1))), (3, .int (iI z_37)), (0, .ref (ad 21)), (1, .ref (ad 10)), (2, .ref (ad 14))]) hx hb dX1_read_113 hl (k := 4) rfl (by show iI _ + iI 1 = _; rw [iI_add]) (by decide) rfl (fun ls hl => ?_)
                    refine lv_goto (tgt := 35) hx hb dX1_read_116 (by decide) ?_
                    exact ih_35 z_37 (x4 + 1) ((tX (f 0) nn qq)) (S2) (E2) w6_40 w8_37 w11_37 w12_37 w13_37 w14_37 w15_37 a14_37 a10_37 a11_37 _ _ _ (by omega) (by omega) (by omega) (by first | (intro h; exfalso; omega) | exact fun _ => ⟨hSt hKK.1 hKK.2, hX2, by have := tX_up (B := (f 0)) (n := nn) (q := qq) (by have := hAt.p; have := (not_congr (tK_end (B := (f 0)) (n := nn) (q := qq))).mp hKK.1; omega); omega, by rw [← hO, show (702 - x4).toNat = (702 - (x4 + 1)).toNat + 1 by omega]; exact (hEX _).symm⟩) (by first | (intro h; exfalso; omega) | exact fun h => (by have hRr := hRF.resolve_left (fun h2 => h h2.1); have hOE := hO; rw [show (702 - x4).toNat = (702 - (x4 + 1)).toNat + 1 by omega, hRr.2 _] at hOE; rw [← hOE]; exact ⟨hAt, rfl⟩)) hP hS (lv_sub hl [2, 3, 4, 1, 0] rfl)
              · have hO : exF (f 0) nn (702 - x4).toNat qq 1 S1 E1 = (exF (f 0) nn 702 pp 0 [] []) := by have h := hO0; rw [show x3 = 1 by omega] at h; exact h
                have hX1 : xX 1 S1 E1 c14_1 y11_1 c10_1 c11_1 y8_1 y12_1 y13_1 y14_1 := by have h := hXX; rw [show x3 = 1 by omega] at h; exact h
                obtain ⟨hw, hd, hrS, hcd, hn, hp, hi, hi4, hn8⟩ := id hX1
                have hOE : (exF (f 0) nn 702 pp 0 [] []) = (0, qq, (rlS 7 S1 E1).2) := by rw [← hO, show (702 - x4).toNat = (702 - (x4 + 1)).toNat + 1 by omega]; exact exF_end _ (by omega) (by omega)
                refine lv_aload_n hx hb dX1_read_70 rfl (lv_at hl 0 rfl) ?_
                refine lv_bipush (v := iI 7) hx hb dX1_read_71 (by decide) ?_
                refine lv_aload_n hx hb dX1_read_73 rfl (lv_at hl 2 rfl) ?_
                refine g_cv (As := [.int (iI 7), .ref (ad 14)]) (rest := []) (n := 2) C hml (e_Ex_release l D k A ad hD (va_up (va_up (va_up (va_up (va_up (va_up (va_up v 6 y6_1) 8 y8_1) 11 y11_1) 12 y12_1) 13 y13_1) 14 y14_1) 15 y15_1) (va_up (va_up (va_up f 14 c14_1) 10 c10_1) 11 c11_1) g 7 S1 E1 (by decide) (show 7 ≤ (7 : Int) ∧ (7 : Int) ≤ 9 from by omega) (show wfS S1 from hw) (show hdS S1 ≠ 10 from hd rfl) (show rep S1 c14_1 y11_1 from hrS) (show repC id E1 c10_1 c11_1 y8_1 ∧ (E1.length : Int) + cSg S1 ≤ 40 from ⟨hcd, by omega⟩)) mM_X1_40 mI_X1_release mE_X1_release mN_X1 mC_X1_release (by decide +kernel) 21 (ci := 1) rfl rfl hP hS (fun _ h => h) ⟨Nat.le_of_ble_eq_true rfl, Nat.le_of_ble_eq_true rfl⟩ ⟨Nat.zero_le _, Nat.zero_le _⟩ hl.1 rfl rfl (Nat.le_of_ble_eq_true rfl) dX1_read_74 (fun r_41 v_41 f_41 g_41 H locs hq_41 hP _ hS => ?_)
                obtain ⟨w8_41, w11_41, a10_41, a11_41, rfl, rfl, rfl, rfl, p0_41, p1_41⟩ := hq_41
                show W p l e (gRm 4 88) s m args below meth c _ _ 0 0 Q (F0 m 77 ls [])
                have hP : gWd D (rwT k ad) (va_up (va_up (va_up (va_up (va_up (va_up (va_up v 6 y6_1) 8 w8_41) 11 w11_41) 12 y12_1) 13 y13_1) 14 y14_1) 15 y15_1) (va_up (va_up (va_up f 14 c14_1) 10 a10_41) 11 a11_41) g H := ⟨hP.1, (gF_up (V := rwV) (F := rwF) (gF_up (V := rwV) (F := rwF) (gF_up (V := rwV) (F := rwF) (gR_up (V := rwV) (F := rwF) (gR_up (V := rwV) (F := rwF) (gR_up (V := rwV) (F := rwF) (gR_up (V := rwV) (F := rwF) (gR_up (V := rwV) (F := rwF) (gR_up (V := rwV) (F := rwF) (gR_up (V := rwV) (F := rwF) ⟨hok.1, hok.2⟩ 6 (hP.2.1 6)) 8 (hP.2.1 8)) 11 (hP.2.1 11)) 12 (hP.2.1 12)) 13 (hP.2.1 13)) 14 (hP.2.1 14)) 15 (hP.2.1 15)) 14 (hP.2.2 14)) 10 (hP.2.2 10)) 11 (hP.2.2 11))⟩
                replace p0_41 : rep (rlS (7 : Int) S1 E1).1 c14_1 w11_41 := p0_41
                replace p1_41 : repC id (rlS (7 : Int) S1 E1).2 a10_41 a11_41 w8_41 := p1_41
                have rw8_41 : 0 ≤ w8_41 ∧ w8_41 ≤ 40 := hP.2.1 8
                have rw11_41 : 0 ≤ w11_41 ∧ w11_41 ≤ 27 := hP.2.1 11
                have hcE := p1_41
                refine lv_iconst (v := iI 0) hx hb dX1_read_77 rfl ?_
                exact g_iret hQ C hr hlocks hP hS dX1_read_78 ⟨0, y6_1, w8_41, w11_41, y12_1, y13_1, y14_1, y15_1, c14_1, a10_41, a11_41, rfl, rfl, rfl, rfl, (by first | omega | (split <;> omega)), (by first | (rw [hOE]) | exact (if h0 : y15_1 = 0 then (by exfalso; have h := hI2 h0; have h2 := h.1.p; omega) else (hI3 h0).2)), (by first | (rw [hOE]; exact hAt) | exact (if h0 : y15_1 = 0 then (by exfalso; have h := hI2 h0; have h2 := h.1.p; omega) else (hI3 h0).1)), (by first | (rw [hOE]; exact fun _ => hcE) | (intro h; exfalso; have h := hI2 (by omega); have h2 := h.1.p; omega))⟩
  exact L_1 702 0 0 (pp) ([]) ([]) (v 6) 0 0 0 0 0 0 (f 14) (f 10) (f 11) _ _ _ (by omega) (by omega) (by omega) (fun _ => ⟨hc, ⟨trivial, fun h => absurd h (by decide), rfl, rfl, rfl, rfl, rfl, by decide, by decide⟩, (hc.p).2.2.2.2.1, rfl⟩) (fun h => absurd rfl h) hP hS (lv_sub hl [2, 3, 4, 1, 0] rfl)
end
