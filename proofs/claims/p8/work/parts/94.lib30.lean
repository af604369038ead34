/-! a whole text: the places behind its words -/
def nxL (B : Int → Int) (n p : Int) : Int := (law1 B n p 0 0 0 0).2
def txP (B : Int → Int) (n w : Int) : Nat → Int → Int → Int
  | 0, _, x => x
  | k + 1, p, x => if tK B n p = 256 then x else txP B n w k (nxL B n p) (if tK B n p = w then tX B n p else x)
def rdP (B : Int → Int) (n : Int) : Nat → Int → Int → Int → Int
  | 0, _, _, _ => 0
  | k + 1, p, r, j => if tK B n p = 256 then 0 else if tK B n p = 260 ∧ r = j then tX B n p else rdP B n k (nxL B n p) (if tK B n p = 260 then r + 1 else r) j
def exL (B : Int → Int) (n p : Int) : List (Int × Int) := if p = -1 then [(7, 0), (1, 0), (9, 0), (0, 0), (6, 100)] else (exF B n 702 p 0 [] []).2.2
def kyOk (B : Int → Int) (n p : Int) (kk kd : Int → Int) (m : Int) : Prop := (p = -1 → m = 1 ∧ kk 0 = 0 ∧ kd 0 = 1) ∧ (p ≠ -1 → m = kyN B n 4 p ∧ kyC B n p kk kd m)
def tiV (B : Int → Int) (n p : Int) : Int := if p = -1 then 0 else if tK B n p = 264 then 1 else 0
section TP
variable {B : Int → Int} {n w p x r j : Int}
theorem txP_end (k : Nat) (h : tK B n p = 256) : txP B n w (k + 1) p x = x := by unfold txP; rw [if_pos h]
theorem txP_go (k : Nat) {y q : Int} (h : tK B n p ≠ 256) (hq : q = nxL B n p) (hy : y = (if tK B n p = w then tX B n p else x)) : txP B n w (k + 1) p x = txP B n w k q y := by
  conv => lhs; unfold txP
  rw [if_neg h, hq, hy]
theorem rdP_here (k : Nat) (h : tK B n p = 260) : rdP B n (k + 1) p r r = tX B n p := by unfold rdP; rw [if_neg (by omega), if_pos ⟨h, rfl⟩]
theorem rdP_go (k : Nat) {s q : Int} (h : tK B n p ≠ 256) (hq : q = nxL B n p) (hs : s = (if tK B n p = 260 then r + 1 else r)) (hj : s ≤ j) : rdP B n (k + 1) p r j = rdP B n k q s j := by
  conv => lhs; unfold rdP
  rw [if_neg h, if_neg (fun z => by rw [if_pos z.1] at hs; omega), hq, hs]
theorem semi_1 {o : Int × Int} (h : (semi B n o).1 = 0) : o.1 = 0 ∧ (semi B n o).2 = tX B n o.2 ∧ tK B n o.2 = 59 := by
  have hf := fk_rng B n o.2
  unfold semi at h ⊢
  by_cases c1 : o.1 ≠ 0
  · rw [if_pos c1] at h; exact absurd h c1
  · rw [if_neg c1] at h ⊢
    by_cases c2 : tK B n o.2 ≠ 59
    · rw [if_pos c2] at h; have h : fk B n o.2 = 0 := h; omega
    · rw [if_neg c2]
      exact ⟨by omega, rfl, by omega⟩
theorem law0_z {t1 t2 t3 : Int} (h : (law0 B n p r t1 t2 t3).1 = 0) : law0 B n p 0 0 0 0 = law0 B n p r t1 t2 t3 := by
  have hf := fk_rng B n p
  unfold law0 at h ⊢
  by_cases c1 : tK B n p = 260
  · rw [if_pos c1] at h ⊢
    rw [if_pos c1, if_neg (by decide)]
    by_cases d : 4 ≤ r
    · rw [if_pos d] at h; have h : (3 : Int) = 0 := h; exact absurd h (by decide)
    · rw [if_neg d]
  · rw [if_neg c1] at h ⊢
    rw [if_neg c1]
    by_cases c2 : tK B n p = 261
    · rw [if_pos c2] at h ⊢
      rw [if_pos c2, if_neg (by decide)]
      by_cases d : t1 ≠ 0
      · rw [if_pos d] at h; have h : (5 : Int) = 0 := h; exact absurd h (by decide)
      · rw [if_neg d]
    · rw [if_neg c2] at h ⊢
      rw [if_neg c2]
      by_cases c3 : tK B n p = 262
      · rw [if_pos c3] at h ⊢
        rw [if_pos c3, if_neg (by decide)]
        by_cases d : t2 ≠ 0
        · rw [if_pos d] at h; have h : (5 : Int) = 0 := h; exact absurd h (by decide)
        · rw [if_neg d]
      · rw [if_neg c3] at h ⊢
        rw [if_neg c3]
        by_cases c4 : tK B n p = 263
        · rw [if_pos c4] at h ⊢
          rw [if_pos c4, if_neg (by decide)]
          by_cases d : t3 ≠ 0
          · rw [if_pos d] at h; have h : (5 : Int) = 0 := h; exact absurd h (by decide)
          · rw [if_neg d]
        · rw [if_neg c4] at h ⊢
          rw [if_neg c4]
theorem nxL_z {t1 t2 t3 : Int} (h : (law1 B n p r t1 t2 t3).1 = 0) : (law1 B n p r t1 t2 t3).2 = nxL B n p := by
  unfold nxL law1
  rw [law0_z (semi_1 h).1]
end TP
/-- the rows of a law that nothing tells -/
theorem rep_un {it nu : Int → Int} (h0 : it 0 = 6 ∧ nu 0 = 100) (h1 : it 1 = 0 ∧ nu 1 = 0) (h2 : it 2 = 9 ∧ nu 2 = 0) (h3 : it 3 = 1 ∧ nu 3 = 0) (h4 : it 4 = 7 ∧ nu 4 = 0) : repC id [(7, 0), (1, 0), (9, 0), (0, 0), (6, 100)] it nu 5 := ⟨h4.1, h4.2, h3.1, h3.2, h2.1, h2.2, h1.1, h1.2, h0.1, h0.2, rfl⟩
theorem kyOk_un {B : Int → Int} {n : Int} {kk kd : Int → Int} {m : Int} (h : m = 1 ∧ kk 0 = 0 ∧ kd 0 = 1) : kyOk B n (-1) kk kd m := ⟨fun _ => h, fun q => absurd rfl q⟩
theorem kyOk_told {B : Int → Int} {n p : Int} {kk kd : Int → Int} {m : Int} (hp : p ≠ -1) (h : m = kyN B n 4 p ∧ kyC B n p kk kd m) : kyOk B n p kk kd m := ⟨fun q => absurd q hp, fun _ => h⟩
