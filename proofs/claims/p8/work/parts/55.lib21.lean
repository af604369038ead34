theorem rnd1 {B : Int → Int} {n i lo hi p : Int} (h1 : gElo i.toNat = lo) (h2 : gEhi i.toNat = hi) : rnd B n 1 i p = nm1 B n lo hi p := by
  rw [rnd_nm1 (kk := 0) h1 h2]
  by_cases h : (nm1 B n lo hi p).1 ≠ 0
  · rw [if_pos h]
  · rw [if_neg h]
    exact Prod.ext (by show (0 : Int) = _; omega) rfl
theorem rnd_up {B : Int → Int} {n lo hi p : Int} (kk : Nat) (i : Int) (h1 : gElo i.toNat = lo) (h2 : gEhi i.toNat = hi) (h : (nm1 B n lo hi p).1 = 0) : rnd B n (kk + 1) i p = rnd B n kk (i + 1) (nm1 B n lo hi p).2 := by
  rw [rnd_nm1 h1 h2, if_neg (fun q => q h)]
theorem rnd_no {B : Int → Int} {n lo hi p : Int} (kk : Nat) (i : Int) (h1 : gElo i.toNat = lo) (h2 : gEhi i.toNat = hi) (h : (nm1 B n lo hi p).1 ≠ 0) : rnd B n (kk + 1) i p = nm1 B n lo hi p := by
  rw [rnd_nm1 h1 h2, if_pos h]
section OF
variable {B : Int → Int} {n bad badAt a bh so nu w bad' badAt' a' bh' so' nu' w' : Int} {o o2 : Int × Int}
theorem oM_fin_ok (hs : semi B n o = o2) (h : oM B n o bad badAt a bh so nu w) (h0 : bad = 0) (h2 : oM B n (semi B n (0, o.2)) bad' badAt' a' bh' so' nu' w') : oM B n o2 bad' badAt' a' bh' so' nu' w' := by
  have e : o = (0, o.2) := Prod.ext (by have := h.1; omega) rfl
  rw [← hs, e]
  exact h2
theorem oM_fin_bad (hs : semi B n o = o2) (h : oM B n o bad badAt a bh so nu w) (h0 : bad ≠ 0) : oM B n o2 bad badAt a bh so nu w := by
  rw [← hs, semi_bad (by have := h.1; omega)]
  exact h
end OF
