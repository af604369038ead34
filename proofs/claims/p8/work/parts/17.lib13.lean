/-! bytes and tokens of a text, as numbers -/
abbrev pL (c : Int) : Prop := 97 ≤ c ∧ c ≤ 122
abbrev pD (c : Int) : Prop := 48 ≤ c ∧ c ≤ 57
abbrev pW (c : Int) : Prop := c = 32 ∨ c = 10
abbrev pS (c : Int) : Prop := c = 43 ∨ c = 45 ∨ c = 42 ∨ c = 40 ∨ c = 41 ∨ c = 44 ∨ c = 59
def bL (c : Int) : Bool := decide (pL c)
def bD (c : Int) : Bool := decide (pD c)
def bW (c : Int) : Bool := decide (pW c)
def runN (P : Int → Bool) (B : Int → Int) (n : Int) : Nat → Int → Int
  | 0, p => p
  | k + 1, p => if p < n ∧ P (B p) = true then runN P B n k (p + 1) else p
def run (P : Int → Bool) (B : Int → Int) (n p : Int) : Int := runN P B n (n - p).toNat p
theorem runN_eq {P : Int → Bool} {B : Int → Int} {n : Int} : ∀ (k : Nat) (p q : Int), p ≤ q → (n - p).toNat ≤ k → (∀ j, p ≤ j → j < q → j < n ∧ P (B j) = true) → (n ≤ q ∨ P (B q) = false) → runN P B n k p = q := by
  intro k
  induction k with
  | zero =>
    intro p q h0 h1 h2 h3
    by_cases e : p = q
    · subst e; rfl
    · have := (h2 p (by omega) (by omega)).1
      omega
  | succ k ih =>
    intro p q h0 h1 h2 h3
    unfold runN
    by_cases e : p = q
    · subst e
      rw [if_neg]
      rintro ⟨a, b⟩
      rcases h3 with h | h
      · omega
      · rw [b] at h; cases h
    · have g := h2 p (by omega) (by omega)
      rw [if_pos g]
      exact ih (p + 1) q (by omega) (by omega) (fun j a b => h2 j (by omega) b) h3
theorem runN_spec {P : Int → Bool} {B : Int → Int} {n : Int} : ∀ (k : Nat) (p : Int), (n - p).toNat ≤ k → p ≤ runN P B n k p ∧ (p ≤ n → runN P B n k p ≤ n) ∧ (∀ j, p ≤ j → j < runN P B n k p → j < n ∧ P (B j) = true) ∧ (n ≤ runN P B n k p ∨ P (B (runN P B n k p)) = false) := by
  intro k
  induction k with
  | zero =>
    intro p h
    unfold runN
    exact ⟨by omega, fun h => h, fun j a b => by omega, Or.inl (by omega)⟩
  | succ k ih =>
    intro p h
    unfold runN
    by_cases e : p < n ∧ P (B p) = true
    · rw [if_pos e]
      obtain ⟨a1, a2, a3, a4⟩ := ih (p + 1) (by omega)
      refine ⟨by omega, fun _ => a2 (by omega), fun j b1 b2 => ?_, a4⟩
      by_cases ej : j = p
      · subst ej; exact e
      · exact a3 j (by omega) b2
    · rw [if_neg e]
      refine ⟨by omega, fun h => h, fun j a b => by omega, ?_⟩
      by_cases e2 : n ≤ p
      · exact Or.inl e2
      · right
        cases hp : P (B p) with
        | false => rfl
        | true => exact absurd ⟨by omega, hp⟩ e
section TK
variable {B : Int → Int} {n p q : Int}
theorem run_spec {P : Int → Bool} (B : Int → Int) (n p : Int) : p ≤ run P B n p ∧ (p ≤ n → run P B n p ≤ n) ∧ (∀ j, p ≤ j → j < run P B n p → j < n ∧ P (B j) = true) ∧ (n ≤ run P B n p ∨ P (B (run P B n p)) = false) := runN_spec _ p (Nat.le_refl _)
theorem runL_eq (h0 : p ≤ q) (h1 : ∀ j, p ≤ j → j < q → j < n ∧ pL (B j)) (h2 : n ≤ q ∨ ¬ pL (B q)) : run bL B n p = q :=
  runN_eq _ p q h0 (Nat.le_refl _) (fun j a b => ⟨(h1 j a b).1, decide_eq_true (h1 j a b).2⟩) (h2.elim Or.inl (fun h => Or.inr (decide_eq_false h)))
theorem runD_eq (h0 : p ≤ q) (h1 : ∀ j, p ≤ j → j < q → j < n ∧ pD (B j)) (h2 : n ≤ q ∨ ¬ pD (B q)) : run bD B n p = q :=
  runN_eq _ p q h0 (Nat.le_refl _) (fun j a b => ⟨(h1 j a b).1, decide_eq_true (h1 j a b).2⟩) (h2.elim Or.inl (fun h => Or.inr (decide_eq_false h)))
theorem runW_eq (h0 : p ≤ q) (h1 : ∀ j, p ≤ j → j < q → j < n ∧ pW (B j)) (h2 : n ≤ q ∨ ¬ pW (B q)) : run bW B n p = q :=
  runN_eq _ p q h0 (Nat.le_refl _) (fun j a b => ⟨(h1 j a b).1, decide_eq_true (h1 j a b).2⟩) (h2.elim Or.inl (fun h => Or.inr (decide_eq_false h)))
theorem runL_spec (B : Int → Int) (n p : Int) : p ≤ run bL B n p ∧ (p ≤ n → run bL B n p ≤ n) ∧ (∀ j, p ≤ j → j < run bL B n p → j < n ∧ pL (B j)) ∧ (n ≤ run bL B n p ∨ ¬ pL (B (run bL B n p))) := by
  obtain ⟨a1, a2, a3, a4⟩ := run_spec (P := bL) B n p
  exact ⟨a1, a2, fun j b1 b2 => ⟨(a3 j b1 b2).1, of_decide_eq_true (a3 j b1 b2).2⟩, a4.elim Or.inl (fun h => Or.inr (of_decide_eq_false h))⟩
theorem runD_spec (B : Int → Int) (n p : Int) : p ≤ run bD B n p ∧ (p ≤ n → run bD B n p ≤ n) ∧ (∀ j, p ≤ j → j < run bD B n p → j < n ∧ pD (B j)) ∧ (n ≤ run bD B n p ∨ ¬ pD (B (run bD B n p))) := by
  obtain ⟨a1, a2, a3, a4⟩ := run_spec (P := bD) B n p
  exact ⟨a1, a2, fun j b1 b2 => ⟨(a3 j b1 b2).1, of_decide_eq_true (a3 j b1 b2).2⟩, a4.elim Or.inl (fun h => Or.inr (of_decide_eq_false h))⟩
theorem runW_spec (B : Int → Int) (n p : Int) : p ≤ run bW B n p ∧ (p ≤ n → run bW B n p ≤ n) ∧ (∀ j, p ≤ j → j < run bW B n p → j < n ∧ pW (B j)) ∧ (n ≤ run bW B n p ∨ ¬ pW (B (run bW B n p))) := by
  obtain ⟨a1, a2, a3, a4⟩ := run_spec (P := bW) B n p
  exact ⟨a1, a2, fun j b1 b2 => ⟨(a3 j b1 b2).1, of_decide_eq_true (a3 j b1 b2).2⟩, a4.elim Or.inl (fun h => Or.inr (of_decide_eq_false h))⟩
theorem runL_step (hq : q < n) (hl : pL (B q)) : run bL B n q = run bL B n (q + 1) := by
  obtain ⟨a1, a2, a3, a4⟩ := runL_spec B n (q + 1)
  refine runL_eq (by omega) (fun j b1 b2 => ?_) a4
  by_cases e : j = q
  · subst e; exact ⟨hq, hl⟩
  · exact a3 j (by omega) b2
theorem runD_step (hq : q < n) (hl : pD (B q)) : run bD B n q = run bD B n (q + 1) := by
  obtain ⟨a1, a2, a3, a4⟩ := runD_spec B n (q + 1)
  refine runD_eq (by omega) (fun j b1 b2 => ?_) a4
  by_cases e : j = q
  · subst e; exact ⟨hq, hl⟩
  · exact a3 j (by omega) b2
theorem runW_step (hq : q < n) (hl : pW (B q)) : run bW B n q = run bW B n (q + 1) := by
  obtain ⟨a1, a2, a3, a4⟩ := runW_spec B n (q + 1)
  refine runW_eq (by omega) (fun j b1 b2 => ?_) a4
  by_cases e : j = q
  · subst e; exact ⟨hq, hl⟩
  · exact a3 j (by omega) b2
theorem runL_stop (h : n ≤ q ∨ ¬ pL (B q)) : run bL B n q = q := runL_eq (Int.le_refl q) (fun j a b => by omega) h
theorem runD_stop (h : n ≤ q ∨ ¬ pD (B q)) : run bD B n q = q := runD_eq (Int.le_refl q) (fun j a b => by omega) h
theorem runW_stop (h : n ≤ q ∨ ¬ pW (B q)) : run bW B n q = q := runW_eq (Int.le_refl q) (fun j a b => by omega) h
end TK
/-! the words -/
def gEt : List Int := [114, 111, 117, 110, 100, 32, 112, 111, 105, 110, 116, 115, 32, 107, 101, 121, 115, 32, 116, 105, 101, 115, 32, 98, 97, 99, 107, 32, 115, 104, 97, 114, 101, 100, 32, 117, 112, 32, 100, 111, 119, 110, 32, 115, 117, 109, 32, 109, 111, 115, 116, 32, 116, 111, 112, 115, 32, 122, 111, 110, 101, 115, 32, 116, 111, 112, 32, 122, 111, 110, 101, 32, 104, 111, 108, 100, 32, 116, 114, 105, 101, 115, 32, 115, 101, 99, 111, 110, 100, 115, 32, 102, 108, 97, 115, 104, 32]
def gWl : List (List Int) := [[114, 111, 117, 110, 100], [112, 111, 105, 110, 116, 115], [107, 101, 121, 115], [116, 105, 101, 115], [98, 97, 99, 107], [115, 104, 97, 114, 101, 100], [117, 112], [100, 111, 119, 110], [115, 117, 109], [109, 111, 115, 116], [116, 111, 112, 115], [122, 111, 110, 101, 115], [116, 111, 112], [122, 111, 110, 101], [104, 111, 108, 100], [116, 114, 105, 101, 115], [115, 101, 99, 111, 110, 100, 115], [102, 108, 97, 115, 104]]
theorem gEt_ch : ∀ j : Nat, j < 97 → gEt.drop j = (gEby.getD j 0).toInt :: gEt.drop (j + 1) := by decide +kernel
def wl (B : Int → Int) (q e : Int) : List Int → Int → Int → Int → Int
  | [], _, _, _ => 259
  | c :: T, k, a, s => if c ≠ 32 then wl B q e T k (a + 1) (if s ≠ 0 ∧ a < e ∧ B a = c then 1 else 0) else if s ≠ 0 ∧ a = e then k else wl B q e T (k + 1) q 1
def wK (B : Int → Int) (q e : Int) : Int := wl B q e gEt 260 q 1
def eqW (B : Int → Int) : List Int → Int → Int → Prop
  | [], a, e => a = e
  | c :: w, a, e => a < e ∧ B a = c ∧ eqW B w (a + 1) e
theorem eqW_iff {B : Int → Int} : ∀ (w : List Int) (a e : Int), eqW B w a e ↔ (e = a + (w.length : Int) ∧ ∀ j : Nat, j < w.length → B (a + (j : Int)) = w.getD j 0) := by
  intro w
  induction w with
  | nil => intro a e; simp [eqW]; omega
  | cons c w ih =>
    intro a e
    unfold eqW
    rw [ih (a + 1) e]
    constructor
    · rintro ⟨h1, h2, h3, h4⟩
      refine ⟨by simp only [List.length_cons]; omega, fun j hj => ?_⟩
      cases j with
      | zero => simpa using h2
      | succ j =>
        have := h4 j (by simp only [List.length_cons] at hj; omega)
        have e1 : a + ((j + 1 : Nat) : Int) = a + 1 + (j : Int) := by omega
        rw [e1, this]
        simp
    · rintro ⟨h1, h2⟩
      simp only [List.length_cons] at h1 h2
      refine ⟨by omega, ?_, by omega, fun j hj => ?_⟩
      · have := h2 0 (by omega)
        simpa using this
      · have := h2 (j + 1) (by omega)
        have e1 : a + ((j + 1 : Nat) : Int) = a + 1 + (j : Int) := by omega
        rw [e1] at this
        rw [this]
        simp
theorem wl_word {B : Int → Int} {q e : Int} : ∀ (w T : List Int) (k a s : Int), (∀ c ∈ w, c ≠ 32) → ((s ≠ 0 ∧ eqW B w a e) → wl B q e (w ++ 32 :: T) k a s = k) ∧ (¬ (s ≠ 0 ∧ eqW B w a e) → wl B q e (w ++ 32 :: T) k a s = wl B q e T (k + 1) q 1) := by
  intro w
  induction w with
  | nil =>
    intro T k a s _
    constructor
    · rintro ⟨h1, h2⟩
      show wl B q e (32 :: T) k a s = k
      unfold wl
      rw [if_neg (by decide), if_pos ⟨h1, h2⟩]
    · intro h
      show wl B q e (32 :: T) k a s = _
      conv => lhs; unfold wl
      rw [if_neg (by decide), if_neg (show ¬ (s ≠ 0 ∧ a = e) from h)]
  | cons c w ih =>
    intro T k a s hc
    have hc0 : c ≠ 32 := hc c (List.mem_cons_self)
    have e0 : wl B q e ((c :: w) ++ 32 :: T) k a s = wl B q e (w ++ 32 :: T) k (a + 1) (if s ≠ 0 ∧ a < e ∧ B a = c then 1 else 0) := by
      show wl B q e (c :: (w ++ 32 :: T)) k a s = _
      conv => lhs; unfold wl
      rw [if_pos hc0]
    rw [e0]
    obtain ⟨i1, i2⟩ := ih T k (a + 1) (if s ≠ 0 ∧ a < e ∧ B a = c then 1 else 0) (fun x hx => hc x (List.mem_cons_of_mem _ hx))
    by_cases h : s ≠ 0 ∧ a < e ∧ B a = c
    · rw [if_pos h] at i1 i2 ⊢
      constructor
      · rintro ⟨h1, h2⟩
        exact i1 ⟨by decide, h2.2.2⟩
      · intro h1
        exact i2 (fun h2 => h1 ⟨h.1, h.2.1, h.2.2, h2.2⟩)
    · rw [if_neg h] at i1 i2 ⊢
      constructor
      · rintro ⟨h1, h2⟩
        exact absurd ⟨h1, h2.1, h2.2.1⟩ h
      · intro h1
        exact i2 (fun h2 => absurd rfl h2.1)
/-- the first of the words that fits, from number k on -/
def fw (B : Int → Int) (q e : Int) : List (List Int) → Int → Int → Prop
  | [], _, z => z = 259
  | w :: ws, k, z => (eqW B w q e ∧ z = k) ∨ (¬ eqW B w q e ∧ fw B q e ws (k + 1) z)
theorem wl_fw {B : Int → Int} {q e : Int} : ∀ (ws : List (List Int)) (k : Int), (∀ w ∈ ws, ∀ c ∈ w, c ≠ 32) → fw B q e ws k (wl B q e (ws.flatMap (fun w => w ++ [32])) k q 1) := by
  intro ws
  induction ws with
  | nil => intro k _; rfl
  | cons w ws ih =>
    intro k h
    have e0 : (w :: ws).flatMap (fun w => w ++ [32]) = w ++ 32 :: ws.flatMap (fun w => w ++ [32]) := by simp
    rw [e0]
    obtain ⟨i1, i2⟩ := wl_word (B := B) (q := q) (e := e) w (ws.flatMap (fun w => w ++ [32])) k q 1 (h w List.mem_cons_self)
    by_cases hw : eqW B w q e
    · exact Or.inl ⟨hw, i1 ⟨by decide, hw⟩⟩
    · refine Or.inr ⟨hw, ?_⟩
      rw [i2 (fun x => hw x.2)]
      exact ih (k + 1) (fun w hw => h w (List.mem_cons_of_mem _ hw))
theorem wK_fw (B : Int → Int) (q e : Int) : fw B q e gWl 260 (wK B q e) := by
  have e0 : gEt = gWl.flatMap (fun w => w ++ [32]) := by decide +kernel
  unfold wK
  rw [e0]
  exact wl_fw gWl 260 (by decide +kernel)
/-- digits of a word, base 32 -/
def hsN (a : Nat → Int) : Nat → Int
  | 0 => 0
  | k + 1 => 32 * hsN a k + a k - 96
theorem hsN_pos {a : Nat → Int} : ∀ k, (∀ j, j < k → pL (a j)) → 0 ≤ hsN a k := by
  intro k
  induction k with
  | zero => intro _; exact Int.le_refl 0
  | succ k ih =>
    intro h
    have h1 := ih (fun j hj => h j (by omega))
    have h2 := h k (by omega)
    unfold hsN
    omega
theorem hsN_inj {a b : Nat → Int} : ∀ k l, (∀ j, j < k → pL (a j)) → (∀ j, j < l → pL (b j)) → hsN a k = hsN b l → k = l ∧ ∀ j, j < k → a j = b j := by
  intro k
  induction k with
  | zero =>
    intro l ha hb h
    cases l with
    | zero => exact ⟨rfl, fun j hj => by omega⟩
    | succ l =>
      have h1 := hsN_pos l (fun j hj => hb j (by omega))
      have h2 := hb l (by omega)
      unfold hsN at h
      omega
  | succ k ih =>
    intro l ha hb h
    cases l with
    | zero =>
      have h1 := hsN_pos k (fun j hj => ha j (by omega))
      have h2 := ha k (by omega)
      unfold hsN at h
      omega
    | succ l =>
      have h1 := ha k (by omega)
      have h2 := hb l (by omega)
      unfold hsN at h
      have h3 : hsN a k = hsN b l := by omega
      have h4 : a k = b l := by omega
      obtain ⟨e1, e2⟩ := ih l (fun j hj => ha j (by omega)) (fun j hj => hb j (by omega)) h3
      subst e1
      refine ⟨rfl, fun j hj => ?_⟩
      by_cases ej : j = k
      · subst ej; exact h4
      · exact e2 j (by omega)
theorem hsN_congr {a b : Nat → Int} : ∀ k, (∀ j, j < k → a j = b j) → hsN a k = hsN b k := by
  intro k
  induction k with
  | zero => intro _; rfl
  | succ k ih =>
    intro h
    unfold hsN
    rw [ih (fun j hj => h j (by omega)), h k (by omega)]
def hs (B : Int → Int) (q : Int) (k : Nat) : Int := if k ≤ 12 then hsN (fun j => B (q + (j : Int))) k else -1
def hW (i : Nat) : Int := hsN (fun j => (gWl.getD i []).getD j 0) (gWl.getD i []).length
theorem hs_word {B : Int → Int} {q e : Int} (h0 : q ≤ e) (hl : ∀ j, q ≤ j → j < e → pL (B j)) (i : Nat) (hi : i < 18) : hs B q (e - q).toNat = hW i ↔ eqW B (gWl.getD i []) q e := by
  have hb : ∀ i : Nat, i < 18 → (gWl.getD i []).length ≤ 12 ∧ (∀ j : Nat, j < (gWl.getD i []).length → pL ((gWl.getD i []).getD j 0)) := by decide +kernel
  obtain ⟨b1, b2⟩ := hb i hi
  rw [eqW_iff]
  unfold hs hW
  by_cases hk : (e - q).toNat ≤ 12
  · rw [if_pos hk]
    constructor
    · intro h
      obtain ⟨c1, c2⟩ := hsN_inj _ _ (fun j hj => hl (q + (j : Int)) (by omega) (by omega)) b2 h
      exact ⟨by omega, fun j hj => c2 j (by omega)⟩
    · rintro ⟨c1, c2⟩
      have e1 : (e - q).toNat = (gWl.getD i []).length := by omega
      rw [e1]
      exact hsN_congr _ (fun j hj => c2 j hj)
  · rw [if_neg hk]
    have hp := hsN_pos _ b2
    constructor
    · intro h; omega
    · rintro ⟨c1, c2⟩; omega
theorem eqW_only {B : Int → Int} {q e : Int} {i j : Nat} (hi : i < 18) (hj : j < 18) (h1 : eqW B (gWl.getD i []) q e) (h2 : eqW B (gWl.getD j []) q e) : i = j := by
  have hd : ∀ i : Nat, i < 18 → ∀ j : Nat, j < 18 → i ≠ j → (gWl.getD i []).length ≠ (gWl.getD j []).length ∨ ∃ x : Nat, x < (gWl.getD i []).length ∧ (gWl.getD i []).getD x 0 ≠ (gWl.getD j []).getD x 0 := by decide +kernel
  by_cases e : i = j
  · exact e
  · rw [eqW_iff] at h1 h2
    rcases hd i hi j hj e with h | ⟨x, hx, h⟩
    · exact absurd (by omega) h
    · exact absurd ((h1.2 x hx).symm.trans (h2.2 x (by omega))) h
theorem fw_at {B : Int → Int} {q e : Int} : ∀ (ws : List (List Int)) (k z : Int), fw B q e ws k z → (z = 259 ∧ ∀ i : Nat, i < ws.length → ¬ eqW B (ws.getD i []) q e) ∨ ∃ i : Nat, i < ws.length ∧ z = k + (i : Int) ∧ eqW B (ws.getD i []) q e := by
  intro ws
  induction ws with
  | nil => intro k z h; exact Or.inl ⟨h, fun i hi => absurd hi (Nat.not_lt_zero i)⟩
  | cons w ws ih =>
    intro k z h
    rcases h with ⟨h1, h2⟩ | ⟨h1, h2⟩
    · exact Or.inr ⟨0, by simp, by omega, by simpa using h1⟩
    · rcases ih (k + 1) z h2 with ⟨a1, a2⟩ | ⟨i, a1, a2, a3⟩
      · refine Or.inl ⟨a1, fun i hi => ?_⟩
        cases i with
        | zero => simpa using h1
        | succ i => simpa using a2 i (by simpa using hi)
      · exact Or.inr ⟨i + 1, by simpa using a1, by omega, by simpa using a3⟩
theorem wK_rng (B : Int → Int) (q e : Int) : 259 ≤ wK B q e ∧ wK B q e ≤ 277 := by
  rcases fw_at gWl 260 _ (wK_fw B q e) with ⟨h, -⟩ | ⟨i, h1, h2, -⟩
  · omega
  · have : gWl.length = 18 := by decide
    omega
/-- a word's number by its digits -/
theorem wK_hs {B : Int → Int} {q e : Int} (h0 : q ≤ e) (hl : ∀ j, q ≤ j → j < e → pL (B j)) (i : Nat) (hi : i < 18) : wK B q e = 260 + (i : Int) ↔ hs B q (e - q).toNat = hW i := by
  rw [hs_word h0 hl i hi]
  have hn : gWl.length = 18 := by decide
  rcases fw_at gWl 260 _ (wK_fw B q e) with ⟨h, h2⟩ | ⟨j, h1, h2, h3⟩
  · constructor
    · intro h3; omega
    · intro h3; exact absurd h3 (h2 i (by omega))
  · constructor
    · intro h4
      have : i = j := by omega
      subst this
      exact h3
    · intro h4
      have := eqW_only hi (by omega) h4 h3
      omega
