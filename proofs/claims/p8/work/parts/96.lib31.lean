theorem repC_cp {μ : Int → Int} {m : Int} {x y : Int → Int} : ∀ (E : List (Int × Int)) (a b : Int → Int) (c : Int), repC μ E a b c → c ≤ m → repC μ E (gcpy m a x) (gcpy m b y) c := by
  intro E
  induction E with
  | nil => intro a b c h _; exact h
  | cons e E ih =>
    intro a b c h hm
    have hl := repC_len _ _ _ _ h
    simp only [List.length_cons] at hl
    have h0 : 0 ≤ c - 1 ∧ c - 1 < m := by omega
    refine ⟨?_, ?_, ih a b (c - 1) h.2.2 (by omega)⟩
    · show (if 0 ≤ c - 1 ∧ c - 1 < m then a (c - 1) else x (c - 1)) = _
      rw [if_pos h0]; exact h.1
    · show (if 0 ≤ c - 1 ∧ c - 1 < m then b (c - 1) else y (c - 1)) = _
      rw [if_pos h0]; exact h.2.1
theorem gcpy_at {m i : Int} {a x : Int → Int} (h : 0 ≤ i ∧ i < m) : gcpy m a x i = a i := if_pos h
theorem kyOk_cp {B : Int → Int} {n p c : Int} {kk kd x y : Int → Int} (h : kyOk B n p kk kd c) (hc : c ≤ 4) : kyOk B n p (gcpy 4 kk x) (gcpy 4 kd y) c := by
  refine ⟨fun q => ?_, fun q => ⟨(h.2 q).1, fun j j0 j1 => ?_⟩⟩
  · rw [gcpy_at (by decide), gcpy_at (by decide)]; exact h.1 q
  · rw [gcpy_at (by omega), gcpy_at (by omega)]; exact (h.2 q).2 j j0 j1
theorem shC_cp {B : Int → Int} {n p j : Int} {sh x : Int → Int} (h : shC B n p sh j) (hj : 0 ≤ j ∧ j < 4) : shC B n p (gcpy 16 sh x) j := fun i i0 i1 => by
  rw [gcpy_at (by omega)]; exact h i i0 i1
