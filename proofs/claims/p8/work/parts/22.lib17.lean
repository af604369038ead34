/-! an expression on its way: signs that wait (top first), the code (latest first) -/
def hdS : List Int → Int
  | [] => 0
  | x :: _ => x
def cSg : List Int → Int
  | [] => 0
  | x :: S => cSg S + (if x = 11 then 0 else 1)
def cNs : List Int → Int
  | [] => 0
  | x :: S => cNs S + (if 10 ≤ x then 1 else 0)
def cPa : List Int → Int
  | [] => 0
  | x :: S => cPa S + (if x = 11 then 1 else 0)
def rlN : List Int → List (Int × Int) → List Int × List (Int × Int)
  | [], E => ([], E)
  | x :: S, E => if x = 10 then rlN S ((10, 0) :: E) else (x :: S, E)
def rlS (c : Int) : List Int → List (Int × Int) → List Int × List (Int × Int)
  | [], E => ([], E)
  | x :: S, E => if x < 10 ∧ (c = 9 → x = 9) then rlS c S ((x, 0) :: E) else (x :: S, E)
def wfS : List Int → Prop
  | [] => True
  | x :: S => wfS S ∧ (7 ≤ x ∧ x ≤ 11) ∧ (x < 10 → S = [] ∨ hdS S = 11 ∨ (x = 9 ∧ (hdS S = 7 ∨ hdS S = 8)))
def rep : List Int → (Int → Int) → Int → Prop
  | [], _, w => w = 0
  | x :: S, a, w => a (w - 1) = x ∧ rep S a (w - 1)
def repC (μ : Int → Int) : List (Int × Int) → (Int → Int) → (Int → Int) → Int → Prop
  | [], _, _, c => c = 0
  | x :: E, a, b, c => a (c - 1) = μ x.1 ∧ b (c - 1) = x.2 ∧ repC μ E a b (c - 1)
theorem rep_len : ∀ (S : List Int) (a : Int → Int) (w : Int), rep S a w → w = (S.length : Int) := by
  intro S
  induction S with
  | nil => intro a w h; exact h
  | cons x S ih =>
    intro a w h
    have := ih a (w - 1) h.2
    simp only [List.length_cons]
    omega
theorem rep_top {S : List Int} {a : Int → Int} {w : Int} (h : rep S a w) (h0 : 0 < w) : a (w - 1) = hdS S ∧ rep S.tail a (w - 1) := by
  cases S with
  | nil => have : w = 0 := h; omega
  | cons x S => exact h
theorem rep_nil {S : List Int} {a : Int → Int} {w : Int} (h : rep S a w) : w = 0 ↔ S = [] := by
  have := rep_len S a w h
  cases S with
  | nil => exact ⟨fun _ => rfl, fun _ => h⟩
  | cons x S =>
    simp only [List.length_cons] at this
    exact ⟨fun h => by omega, fun h => by cases h⟩
theorem rep_ext : ∀ (S : List Int) (a b : Int → Int) (w : Int), rep S a w → (∀ j, j < w → b j = a j) → rep S b w := by
  intro S
  induction S with
  | nil => intro a b w h _; exact h
  | cons x S ih =>
    intro a b w h he
    exact ⟨by rw [he (w - 1) (by omega)]; exact h.1, ih a b (w - 1) h.2 (fun j hj => he j (by omega))⟩
theorem rep_push {S : List Int} {a : Int → Int} {w x : Int} (h : rep S a w) : rep (x :: S) (u1 a w x) (w + 1) := by
  have e : w + 1 - 1 = w := by omega
  refine ⟨by rw [e]; exact u1_s, ?_⟩
  rw [e]
  exact rep_ext S a _ w h (fun j hj => u1_n (by omega))
theorem repC_len {μ : Int → Int} : ∀ (E : List (Int × Int)) (a b : Int → Int) (c : Int), repC μ E a b c → c = (E.length : Int) := by
  intro E
  induction E with
  | nil => intro a b c h; exact h
  | cons x E ih =>
    intro a b c h
    have := ih a b (c - 1) h.2.2
    simp only [List.length_cons]
    omega
theorem repC_ext {μ : Int → Int} : ∀ (E : List (Int × Int)) (a b a2 b2 : Int → Int) (c : Int), repC μ E a b c → (∀ j, j < c → a2 j = a j ∧ b2 j = b j) → repC μ E a2 b2 c := by
  intro E
  induction E with
  | nil => intro a b a2 b2 c h _; exact h
  | cons x E ih =>
    intro a b a2 b2 c h he
    exact ⟨by rw [(he (c - 1) (by omega)).1]; exact h.1, by rw [(he (c - 1) (by omega)).2]; exact h.2.1, ih a b a2 b2 (c - 1) h.2.2 (fun j hj => he j (by omega))⟩
theorem repC_push {μ : Int → Int} {E : List (Int × Int)} {a b : Int → Int} {c y z : Int} (x : Int) (h : repC μ E a b c) (hy : y = μ x) : repC μ ((x, z) :: E) (u1 a c y) (u1 b c z) (c + 1) := by
  have e : c + 1 - 1 = c := by omega
  refine ⟨by rw [e]; exact u1_s.trans hy, by rw [e]; exact u1_s, ?_⟩
  rw [e]
  exact repC_ext E a b _ _ c h (fun j hj => ⟨u1_n (by omega), u1_n (by omega)⟩)
theorem wfS_tail {S : List Int} (h : wfS S) : wfS S.tail := by
  cases S with
  | nil => exact h
  | cons x S => exact h.1
theorem wfS_hd {S : List Int} (h : wfS S) (h0 : S ≠ []) : 7 ≤ hdS S ∧ hdS S ≤ 11 := by
  cases S with
  | nil => exact absurd rfl h0
  | cons x S => exact h.2.1
theorem wfS_bel {S : List Int} (h : wfS S) (h0 : S ≠ []) (h1 : hdS S < 10) : hdS S.tail ≠ 10 ∧ (hdS S ≠ 9 → S.tail = [] ∨ hdS S.tail = 11) := by
  cases S with
  | nil => exact absurd rfl h0
  | cons x S =>
    have h2 : S = [] ∨ hdS S = 11 ∨ (x = 9 ∧ (hdS S = 7 ∨ hdS S = 8)) := h.2.2 h1
    refine ⟨?_, fun h3 => ?_⟩
    · show hdS S ≠ 10
      rcases h2 with e | e | e
      · rw [e]; decide
      · omega
      · omega
    · show S = [] ∨ hdS S = 11
      have h4 : x ≠ 9 := h3
      rcases h2 with e | e | e
      · exact Or.inl e
      · exact Or.inr e
      · exact absurd e.1 h4
theorem cnt_tail {S : List Int} (h0 : S ≠ []) : (hdS S = 11 → cSg S = cSg S.tail) ∧ (hdS S ≠ 11 → cSg S = cSg S.tail + 1) ∧ (10 ≤ hdS S → cNs S = cNs S.tail + 1) ∧ (hdS S < 10 → cNs S = cNs S.tail) ∧ (hdS S = 11 → cPa S = cPa S.tail + 1) ∧ (hdS S ≠ 11 → cPa S = cPa S.tail) := by
  cases S with
  | nil => exact absurd rfl h0
  | cons x S =>
    simp only [cSg, cNs, cPa, hdS, List.tail_cons]
    refine ⟨fun h => ?_, fun h => ?_, fun h => ?_, fun h => ?_, fun h => ?_, fun h => ?_⟩
    · rw [if_pos h]; omega
    · rw [if_neg h]
    · rw [if_pos h]
    · rw [if_neg (by omega)]; omega
    · rw [if_pos h]
    · rw [if_neg h]; omega
theorem cnt_pos : ∀ S : List Int, 0 ≤ cSg S ∧ 0 ≤ cNs S ∧ 0 ≤ cPa S ∧ cPa S ≤ cNs S := by
  intro S
  induction S with
  | nil => decide
  | cons x S ih =>
    simp only [cSg, cNs, cPa]
    refine ⟨?_, ?_, ?_, ?_⟩ <;> (repeat' split) <;> omega
theorem wfS_len : ∀ S : List Int, wfS S → (S.length : Int) ≤ 3 * cNs S + 2 ∧ (hdS S = 7 ∨ hdS S = 8 → (S.length : Int) ≤ 3 * cNs S + 1) ∧ (S = [] ∨ 10 ≤ hdS S → (S.length : Int) ≤ 3 * cNs S) := by
  intro S
  induction S with
  | nil => intro _; simp [cNs]
  | cons x S ih =>
    intro h
    obtain ⟨i1, i2, i3⟩ := ih h.1
    have hx := h.2.1
    have hb := h.2.2
    simp only [cNs, List.length_cons, hdS]
    by_cases h10 : 10 ≤ x
    · rw [if_pos h10]
      exact ⟨by omega, fun _ => by omega, fun _ => by omega⟩
    · rw [if_neg h10]
      rcases hb (by omega) with e | e | e
      · have := i3 (Or.inl e)
        exact ⟨by omega, fun _ => by omega, fun h => by rcases h with h | h; cases h; omega⟩
      · have := i3 (Or.inr (by omega))
        exact ⟨by omega, fun _ => by omega, fun h => by rcases h with h | h; cases h; omega⟩
      · have := i2 e.2
        exact ⟨by omega, fun _ => by omega, fun h => by rcases h with h | h; cases h; omega⟩
theorem rlS_pop {c : Int} {S : List Int} {E : List (Int × Int)} (h0 : S ≠ []) (h1 : hdS S < 10) (h2 : c = 9 → hdS S = 9) : rlS c S E = rlS c S.tail ((hdS S, 0) :: E) := by
  cases S with
  | nil => exact absurd rfl h0
  | cons x S =>
    conv => lhs; unfold rlS
    rw [if_pos ⟨h1, h2⟩]
    rfl
theorem rlS_stop {c : Int} {S : List Int} {E : List (Int × Int)} (h : S = [] ∨ 10 ≤ hdS S ∨ (c = 9 ∧ hdS S ≠ 9)) : rlS c S E = (S, E) := by
  cases S with
  | nil => rfl
  | cons x S =>
    unfold rlS
    rw [if_neg]
    rintro ⟨h1, h2⟩
    rcases h with h | h | h
    · cases h
    · have : 10 ≤ x := h; omega
    · exact h.2 (h2 h.1)
theorem rlN_pop {S : List Int} {E : List (Int × Int)} (h1 : hdS S = 10) : rlN S E = rlN S.tail ((10, 0) :: E) := by
  cases S with
  | nil => exact absurd h1 (by decide)
  | cons x S =>
    conv => lhs; unfold rlN
    rw [if_pos (show x = 10 from h1)]
    rfl
theorem rlN_stop {S : List Int} {E : List (Int × Int)} (h : hdS S ≠ 10) : rlN S E = (S, E) := by
  cases S with
  | nil => rfl
  | cons x S =>
    unfold rlN
    rw [if_neg (show ¬ x = 10 from h)]
theorem rlS_ok (c : Int) : ∀ (S : List Int) (E : List (Int × Int)), wfS S → hdS S ≠ 10 → wfS (rlS c S E).1 ∧ hdS (rlS c S E).1 ≠ 10 ∧ cNs (rlS c S E).1 = cNs S ∧ cPa (rlS c S E).1 = cPa S ∧ ((rlS c S E).2.length : Int) + cSg (rlS c S E).1 = (E.length : Int) + cSg S ∧ (c ≠ 9 → (rlS c S E).1 = [] ∨ hdS (rlS c S E).1 = 11) ∧ (c = 9 → hdS (rlS c S E).1 ≠ 9) := by
  intro S
  induction S with
  | nil => intro E h1 h2; exact ⟨h1, h2, rfl, rfl, rfl, fun _ => Or.inl rfl, fun _ => by show (0 : Int) ≠ 9; decide⟩
  | cons x S ih =>
    intro E h1 h2
    have hx := h1.2.1
    by_cases hp : x < 10 ∧ (c = 9 → x = 9)
    · have hb := wfS_bel h1 (by simp) hp.1
      have hc := cnt_tail (S := x :: S) (by simp)
      have e : rlS c (x :: S) E = rlS c S ((x, 0) :: E) := rlS_pop (by simp) hp.1 hp.2
      rw [e]
      obtain ⟨i1, i2, i3, i4, i5, i6, i7⟩ := ih ((x, 0) :: E) h1.1 hb.1
      simp only [hdS, List.tail_cons] at hc
      refine ⟨i1, i2, ?_, ?_, ?_, i6, i7⟩
      · rw [i3]; exact (hc.2.2.2.1 hp.1).symm
      · rw [i4]; exact (hc.2.2.2.2.2 (by omega)).symm
      · rw [i5]
        have := hc.2.1 (by omega)
        simp only [List.length_cons]
        omega
    · have e : rlS c (x :: S) E = (x :: S, E) := rlS_stop (by
        by_cases h10 : 10 ≤ x
        · exact Or.inr (Or.inl h10)
        · refine Or.inr (Or.inr ?_)
          show c = 9 ∧ x ≠ 9
          by_cases c9 : c = 9
          · exact ⟨c9, fun h9 => hp ⟨by omega, fun _ => h9⟩⟩
          · exact absurd ⟨by omega, fun h => absurd h c9⟩ hp)
      rw [e]
      refine ⟨h1, h2, rfl, rfl, rfl, fun hc9 => Or.inr ?_, fun hc9 h9 => ?_⟩
      · show x = 11
        have h10 : x ≠ 10 := h2
        by_cases hl : x < 10
        · exact absurd ⟨hl, fun h => absurd h hc9⟩ hp
        · omega
      · have h9' : x = 9 := h9
        exact hp ⟨by omega, fun _ => h9'⟩
theorem rlN_ok : ∀ (S : List Int) (E : List (Int × Int)), wfS S → wfS (rlN S E).1 ∧ hdS (rlN S E).1 ≠ 10 ∧ cNs (rlN S E).1 ≤ cNs S ∧ cPa (rlN S E).1 = cPa S ∧ ((rlN S E).2.length : Int) + cSg (rlN S E).1 = (E.length : Int) + cSg S := by
  intro S
  induction S with
  | nil => intro E h; exact ⟨h, by show (0 : Int) ≠ 10; decide, Int.le_refl _, rfl, rfl⟩
  | cons x S ih =>
    intro E h
    have hc := cnt_tail (S := x :: S) (by simp)
    simp only [hdS, List.tail_cons] at hc
    by_cases hx : x = 10
    · have e : rlN (x :: S) E = rlN S ((10, 0) :: E) := rlN_pop hx
      rw [e]
      obtain ⟨i1, i2, i3, i4, i5⟩ := ih ((10, 0) :: E) h.1
      refine ⟨i1, i2, ?_, ?_, ?_⟩
      · have := hc.2.2.1 (by omega); omega
      · rw [i4]; exact (hc.2.2.2.2.2 (by omega)).symm
      · rw [i5]
        have := hc.2.1 (by omega)
        simp only [List.length_cons]
        omega
    · have e : rlN (x :: S) E = (x :: S, E) := rlN_stop hx
      rw [e]
      exact ⟨h, hx, Int.le_refl _, rfl, rfl⟩
/-! the run over the tokens -/
def fk (B : Int → Int) (n p : Int) : Int := if tK B n p = 257 then 1 else 2
def exF (B : Int → Int) (n : Int) : Nat → Int → Int → List Int → List (Int × Int) → Int × Int × List (Int × Int)
  | 0, p, _, _, E => (9, p, E)
  | k + 1, p, h, S, E =>
    if h = 0 then
      if tK B n p = 258 ∨ (272 ≤ tK B n p ∧ tK B n p ≤ 277) then
        if 40 ≤ (E.length : Int) + cSg S then (3, p, E)
        else exF B n k (tX B n p) 1 (rlN S ((if tK B n p = 258 then 6 else tK B n p - 272, tV B n p) :: E)).1 (rlN S ((if tK B n p = 258 then 6 else tK B n p - 272, tV B n p) :: E)).2
      else if tK B n p = 40 then
        if 8 ≤ cNs S then (3, p, E) else exF B n k (tX B n p) 0 (11 :: S) E
      else if tK B n p = 45 then
        if 40 ≤ (E.length : Int) + cSg S ∨ 8 ≤ cNs S then (3, p, E) else exF B n k (tX B n p) 0 (10 :: S) E
      else (fk B n p, p, E)
    else
      if tK B n p = 43 ∨ tK B n p = 45 ∨ tK B n p = 42 then
        if 40 ≤ (E.length : Int) + cSg S then (3, p, E)
        else exF B n k (tX B n p) 0 ((if tK B n p = 43 then 7 else if tK B n p = 45 then 8 else 9) :: (rlS (if tK B n p = 43 then 7 else if tK B n p = 45 then 8 else 9) S E).1) (rlS (if tK B n p = 43 then 7 else if tK B n p = 45 then 8 else 9) S E).2
      else if tK B n p = 41 ∧ 0 < cPa S then
        exF B n k (tX B n p) 1 (rlN (rlS 7 S E).1.tail (rlS 7 S E).2).1 (rlN (rlS 7 S E).1.tail (rlS 7 S E).2).2
      else if tK B n p = 59 ∧ cPa S = 0 then (0, p, (rlS 7 S E).2)
      else (fk B n p, p, E)
section EXF
variable {B : Int → Int} {n p : Int} {S : List Int} {E : List (Int × Int)}
theorem exF_num (k : Nat) {c z : Int} (h : (tK B n p = 258 ∧ c = 6) ∨ ((272 ≤ tK B n p ∧ tK B n p ≤ 277) ∧ c = tK B n p - 272)) (hz : z = tV B n p) (hc : (E.length : Int) + cSg S < 40) : exF B n (k + 1) p 0 S E = exF B n k (tX B n p) 1 (rlN S ((c, z) :: E)).1 (rlN S ((c, z) :: E)).2 := by
  have e : (if tK B n p = 258 then (6 : Int) else tK B n p - 272) = c := by
    rcases h with ⟨h1, h2⟩ | ⟨h1, h2⟩
    · rw [if_pos h1, h2]
    · rw [if_neg (by omega), h2]
  conv => lhs; unfold exF
  rw [if_pos rfl, if_pos (by omega), if_neg (by omega), e, hz]
theorem exF_num3 (k : Nat) (h : tK B n p = 258 ∨ (272 ≤ tK B n p ∧ tK B n p ≤ 277)) (hc : 40 ≤ (E.length : Int) + cSg S) : exF B n (k + 1) p 0 S E = (3, p, E) := by
  conv => lhs; unfold exF
  rw [if_pos rfl, if_pos h, if_pos hc]
theorem exF_par (k : Nat) (h : tK B n p = 40) (hc : cNs S < 8) : exF B n (k + 1) p 0 S E = exF B n k (tX B n p) 0 (11 :: S) E := by
  conv => lhs; unfold exF
  rw [if_pos rfl, if_neg (by omega), if_pos h, if_neg (by omega)]
theorem exF_par3 (k : Nat) (h : tK B n p = 40) (hc : 8 ≤ cNs S) : exF B n (k + 1) p 0 S E = (3, p, E) := by
  conv => lhs; unfold exF
  rw [if_pos rfl, if_neg (by omega), if_pos h, if_pos hc]
theorem exF_neg (k : Nat) (h : tK B n p = 45) (hc : (E.length : Int) + cSg S < 40) (hd : cNs S < 8) : exF B n (k + 1) p 0 S E = exF B n k (tX B n p) 0 (10 :: S) E := by
  conv => lhs; unfold exF
  rw [if_pos rfl, if_neg (by omega), if_neg (by omega), if_pos h, if_neg (by omega)]
theorem exF_neg3 (k : Nat) (h : tK B n p = 45) (hc : 40 ≤ (E.length : Int) + cSg S ∨ 8 ≤ cNs S) : exF B n (k + 1) p 0 S E = (3, p, E) := by
  conv => lhs; unfold exF
  rw [if_pos rfl, if_neg (by omega), if_neg (by omega), if_pos h, if_pos hc]
theorem exF_bad0 (k : Nat) (h : tK B n p ≠ 258 ∧ ¬ (272 ≤ tK B n p ∧ tK B n p ≤ 277) ∧ tK B n p ≠ 40 ∧ tK B n p ≠ 45) : exF B n (k + 1) p 0 S E = (fk B n p, p, E) := by
  conv => lhs; unfold exF
  rw [if_pos rfl, if_neg (by omega), if_neg (by omega), if_neg (by omega)]
theorem exF_sg (k : Nat) {c : Int} (h : (tK B n p = 43 ∧ c = 7) ∨ (tK B n p = 45 ∧ c = 8) ∨ (tK B n p = 42 ∧ c = 9)) (hc : (E.length : Int) + cSg S < 40) : exF B n (k + 1) p 1 S E = exF B n k (tX B n p) 0 (c :: (rlS c S E).1) (rlS c S E).2 := by
  have e : (if tK B n p = 43 then (7 : Int) else if tK B n p = 45 then 8 else 9) = c := by
    rcases h with ⟨h1, h2⟩ | ⟨h1, h2⟩ | ⟨h1, h2⟩
    · rw [if_pos h1, h2]
    · rw [if_neg (by omega), if_pos h1, h2]
    · rw [if_neg (by omega), if_neg (by omega), h2]
  conv => lhs; unfold exF
  rw [if_neg (by decide), if_pos (by omega), if_neg (by omega), e]
theorem exF_sg3 (k : Nat) (h : tK B n p = 43 ∨ tK B n p = 45 ∨ tK B n p = 42) (hc : 40 ≤ (E.length : Int) + cSg S) : exF B n (k + 1) p 1 S E = (3, p, E) := by
  conv => lhs; unfold exF
  rw [if_neg (by decide), if_pos h, if_pos hc]
theorem exF_clo (k : Nat) (h : tK B n p = 41) (hc : 0 < cPa S) : exF B n (k + 1) p 1 S E = exF B n k (tX B n p) 1 (rlN (rlS 7 S E).1.tail (rlS 7 S E).2).1 (rlN (rlS 7 S E).1.tail (rlS 7 S E).2).2 := by
  conv => lhs; unfold exF
  rw [if_neg (by decide), if_neg (by omega), if_pos ⟨h, hc⟩]
theorem exF_end (k : Nat) (h : tK B n p = 59) (hc : cPa S = 0) : exF B n (k + 1) p 1 S E = (0, p, (rlS 7 S E).2) := by
  conv => lhs; unfold exF
  rw [if_neg (by decide), if_neg (by omega), if_neg (by omega), if_pos ⟨h, hc⟩]
theorem exF_bad1 (k : Nat) (h : tK B n p ≠ 43 ∧ tK B n p ≠ 45 ∧ tK B n p ≠ 42) (h2 : tK B n p = 41 → cPa S = 0) (h3 : tK B n p = 59 → 0 < cPa S) : exF B n (k + 1) p 1 S E = (fk B n p, p, E) := by
  have hp := cnt_pos S
  conv => lhs; unfold exF
  rw [if_neg (by decide), if_neg (by omega), if_neg (by omega), if_neg (by omega)]
end EXF
/-! the other laws -/
def rnd (B : Int → Int) (n : Int) : Nat → Int → Int → Int × Int
  | 0, _, p => (0, p)
  | k + 1, i, p => if tK B n p ≠ 258 then (fk B n p, p) else if tV B n p < gElo i.toNat ∨ gEhi i.toNat < tV B n p then (4, p) else rnd B n k (i + 1) (tX B n p)
def kys (B : Int → Int) (n : Int) : Nat → Int → Int × Int
  | 0, p => if tK B n p ≠ 266 ∧ tK B n p ≠ 267 then (fk B n p, p) else (3, p)
  | k + 1, p => if tK B n p ≠ 266 ∧ tK B n p ≠ 267 then (fk B n p, p) else if tK B n (tX B n p) < 268 ∨ 271 < tK B n (tX B n p) then (fk B n (tX B n p), tX B n p) else if tK B n (tX B n (tX B n p)) = 44 then kys B n k (tX B n (tX B n (tX B n p))) else (0, tX B n (tX B n p))
def tie (B : Int → Int) (n p : Int) : Int × Int := if tK B n p = 264 ∨ tK B n p = 265 then (0, tX B n p) else (fk B n p, p)
def semi (B : Int → Int) (n : Int) (o : Int × Int) : Int × Int := if o.1 ≠ 0 then o else if tK B n o.2 ≠ 59 then (fk B n o.2, o.2) else (0, tX B n o.2)
def exO (B : Int → Int) (n p : Int) : Int × Int := ((exF B n 702 p 0 [] []).1, (exF B n 702 p 0 [] []).2.1)
def law0 (B : Int → Int) (n p r t1 t2 t3 : Int) : Int × Int :=
  if tK B n p = 260 then (if 4 ≤ r then (3, p) else rnd B n 4 0 (tX B n p))
  else if tK B n p = 261 then (if t1 ≠ 0 then (5, p) else exO B n (tX B n p))
  else if tK B n p = 262 then (if t2 ≠ 0 then (5, p) else kys B n 4 (tX B n p))
  else if tK B n p = 263 then (if t3 ≠ 0 then (5, p) else tie B n (tX B n p))
  else (fk B n p, p)
def law1 (B : Int → Int) (n p r t1 t2 t3 : Int) : Int × Int := semi B n (law0 B n p r t1 t2 t3)
def txt (B : Int → Int) (n : Int) : Nat → Int → Int → Int → Int → Int → Int × Int × Int
  | 0, p, r, _, _, _ => (9, p, r)
  | k + 1, p, r, t1, t2, t3 =>
    if tK B n p = 256 then (0, p, r)
    else if (law1 B n p r t1 t2 t3).1 ≠ 0 then ((law1 B n p r t1 t2 t3).1, (law1 B n p r t1 t2 t3).2, r)
    else txt B n k (law1 B n p r t1 t2 t3).2 (if tK B n p = 260 then r + 1 else r) (if tK B n p = 261 then 1 else t1) (if tK B n p = 262 then 1 else t2) (if tK B n p = 263 then 1 else t3)
/-! the class's state of an expression -/
def xX (has : Int) (S : List Int) (E : List (Int × Int)) (wt : Int → Int) (w : Int) (it nu : Int → Int) (c nested parens items : Int) : Prop :=
  wfS S ∧ (has = 1 → hdS S ≠ 10) ∧ rep S wt w ∧ repC id E it nu c ∧ nested = cNs S ∧ parens = cPa S ∧ items = (E.length : Int) + cSg S ∧ items ≤ 40 ∧ nested ≤ 8
theorem xX_sg {S : List Int} {E : List (Int × Int)} {wt it nu : Int → Int} {w c nested parens items x : Int} (hw : wfS S) (hx : 7 ≤ x ∧ x ≤ 9) (h9 : x ≠ 9 → S = [] ∨ hdS S = 11) (h9' : x = 9 → hdS S ≠ 9) (hd : hdS S ≠ 10) (hr : rep S wt w) (hc : repC id E it nu c) (hn : nested = cNs S) (hp : parens = cPa S) (hi : items = (E.length : Int) + cSg S + 1) (hi4 : items ≤ 40) (hn8 : nested ≤ 8) : xX 0 (x :: S) E (u1 wt w x) (w + 1) it nu c nested parens items := by
  have hc2 := cnt_tail (S := x :: S) (by simp)
  simp only [hdS, List.tail_cons] at hc2
  refine ⟨⟨hw, by omega, fun _ => ?_⟩, fun h => absurd h (by decide), rep_push hr, hc, ?_, ?_, ?_, hi4, hn8⟩
  · by_cases e : x = 9
    · by_cases e2 : S = []
      · exact Or.inl e2
      · have := wfS_hd hw e2
        have := h9' e
        by_cases e3 : hdS S = 11
        · exact Or.inr (Or.inl e3)
        · exact Or.inr (Or.inr ⟨e, by omega⟩)
    · rcases h9 e with h | h
      · exact Or.inl h
      · exact Or.inr (Or.inl h)
  · rw [hc2.2.2.2.1 (by omega)]; exact hn
  · rw [hc2.2.2.2.2.2 (by omega)]; exact hp
  · rw [hc2.2.1 (by omega)]; omega
theorem xX_nest {S : List Int} {E : List (Int × Int)} {wt it nu : Int → Int} {w c nested parens items x : Int} (hw : wfS S) (hx : 10 ≤ x ∧ x ≤ 11) (hr : rep S wt w) (hc : repC id E it nu c) (hn : nested = cNs S + 1) (hp : parens = cPa S + (x - 10)) (hi : items = (E.length : Int) + cSg S + (11 - x)) (hi4 : items ≤ 40) (hn8 : nested ≤ 8) : xX 0 (x :: S) E (u1 wt w x) (w + 1) it nu c nested parens items := by
  have hc2 := cnt_tail (S := x :: S) (by simp)
  simp only [hdS, List.tail_cons] at hc2
  refine ⟨⟨hw, by omega, fun h => by omega⟩, fun h => absurd h (by decide), rep_push hr, hc, ?_, ?_, ?_, hi4, hn8⟩
  · rw [hc2.2.2.1 (by omega)]; exact hn
  · by_cases e : x = 11
    · rw [hc2.2.2.2.2.1 e]; omega
    · rw [hc2.2.2.2.2.2 e]; omega
  · by_cases e : x = 11
    · rw [hc2.1 e]; omega
    · rw [hc2.2.1 e]; omega
/-- behind the negations, and behind a paren -/
theorem xX_whole {S : List Int} {E : List (Int × Int)} {wt it nu : Int → Int} {w c nested parens items : Int} (hw : wfS S) (hr : rep (rlN S E).1 wt w) (hc : repC id (rlN S E).2 it nu c) (hn : nested = cNs (rlN S E).1) (hp : parens = cPa S) (hi : items = (E.length : Int) + cSg S) (hi4 : items ≤ 40) (hn8 : cNs S ≤ 8) : xX 1 (rlN S E).1 (rlN S E).2 wt w it nu c nested parens items := by
  obtain ⟨i1, i2, i3, i4, i5⟩ := rlN_ok S E hw
  exact ⟨i1, fun _ => i2, hr, hc, hn, by omega, by omega, hi4, by omega⟩
theorem clo_hd {S : List Int} {E : List (Int × Int)} (hw : wfS S) (hd : hdS S ≠ 10) (hp : 0 < cPa S) : (rlS 7 S E).1 ≠ [] ∧ hdS (rlS 7 S E).1 = 11 := by
  obtain ⟨i1, i2, i3, i4, i5, i6, i7⟩ := rlS_ok 7 S E hw hd
  have hne : (rlS 7 S E).1 ≠ [] := fun h => by rw [h] at i4; simp only [cPa] at i4; omega
  rcases i6 (by decide) with h | h
  · exact absurd h hne
  · exact ⟨hne, h⟩
theorem id_x (x : Int) : (id x : Int) = x := rfl
