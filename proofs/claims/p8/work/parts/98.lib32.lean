/-! the reference's rows of what a text tells -/
def kyM (B : Int → Int) (n p : Int) (ky up : Int → Int) (m : Int) : Prop := ∀ j, 0 ≤ j → j < m → ky j = tK B n (tX B n (kyP B n j.toNat p)) - 268 ∧ up j = (if tK B n (kyP B n j.toNat p) = 267 then 0 else 1)
theorem kyM_put {B : Int → Int} {n p x a b : Int} {ky up : Int → Int} (h : kyM B n p ky up x) (h0 : 0 ≤ x) (ha : a = tK B n (tX B n (kyP B n x.toNat p)) - 268) (hb : b = (if tK B n (kyP B n x.toNat p) = 267 then 0 else 1)) : kyM B n p (u1 ky x a) (u1 up x b) (x + 1) := fun j j0 j1 => by
  by_cases e : j = x
  · rw [e, u1_s, u1_s]; exact ⟨ha, hb⟩
  · rw [u1_n e, u1_n e]; exact h j j0 (by omega)
def kyOm (B : Int → Int) (n p : Int) (ky up : Int → Int) (m : Int) : Prop := (p = -1 → m = 1 ∧ ky 0 = 0 ∧ up 0 = 0) ∧ (p ≠ -1 → m = kyN B n 4 p ∧ kyM B n p ky up m)
/-- numbers count only where a number is meant -/
def repN (μ : Int → Int) : List (Int × Int) → (Int → Int) → (Int → Int) → Int → Prop
  | [], _, _, c => c = 0
  | x :: E, a, b, c => a (c - 1) = μ x.1 ∧ (x.1 = 6 → b (c - 1) = x.2) ∧ repN μ E a b (c - 1)
theorem repN_of {μ : Int → Int} : ∀ (E : List (Int × Int)) (a b : Int → Int) (c : Int), repC μ E a b c → repN μ E a b c := by
  intro E
  induction E with
  | nil => intro a b c h; exact h
  | cons x E ih => intro a b c h; exact ⟨h.1, fun _ => h.2.1, ih a b (c - 1) h.2.2⟩
theorem repN_len {μ : Int → Int} : ∀ (E : List (Int × Int)) (a b : Int → Int) (c : Int), repN μ E a b c → c = (E.length : Int) := by
  intro E
  induction E with
  | nil => intro a b c h; exact h
  | cons x E ih =>
    intro a b c h
    have := ih a b (c - 1) h.2.2
    simp only [List.length_cons]
    omega
theorem repN_ext {μ : Int → Int} : ∀ (E : List (Int × Int)) (a b a2 b2 : Int → Int) (c : Int), repN μ E a b c → (∀ j, 0 ≤ j → j < c → a2 j = a j ∧ b2 j = b j) → repN μ E a2 b2 c := by
  intro E
  induction E with
  | nil => intro a b a2 b2 c h _; exact h
  | cons x E ih =>
    intro a b a2 b2 c h he
    have hl := repN_len _ _ _ _ h
    simp only [List.length_cons] at hl
    have h1 := he (c - 1) (by omega) (by omega)
    exact ⟨by rw [h1.1]; exact h.1, fun q => by rw [h1.2]; exact h.2.1 q, ih a b a2 b2 (c - 1) h.2.2 (fun j j0 hj => he j j0 (by omega))⟩
def rwC (B : Int → Int) (n p : Int) (a b c d : Int → Int) (r : Int) : Prop := a r = tV B n (tXi B n 0 p) ∧ b r = tV B n (tXi B n 1 p) ∧ c r = tV B n (tXi B n 2 p) ∧ d r = tV B n (tXi B n 3 p)
theorem nm1_z {B : Int → Int} {n lo hi p : Int} (h : (nm1 B n lo hi p).1 = 0) : (nm1 B n lo hi p).2 = tX B n p := by
  have hf := fk_rng B n p
  by_cases h1 : tK B n p = 258
  · by_cases h2 : tV B n p < lo ∨ hi < tV B n p
    · rw [nm1_b h1 h2] at h; have h : (4 : Int) = 0 := h; exact absurd h (by decide)
    · rw [nm1_c h1 (by omega)]
  · rw [nm1_a h1] at h; have h : fk B n p = 0 := h; omega
