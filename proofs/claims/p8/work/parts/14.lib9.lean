/-! an expression on its way into a code: what is laid, what waits -/
def rpPre (n : Int) (a : Int → Int) : Prop := ∀ i : Nat, (i : Int) < n → (a (i : Int) = 10 → 1 ≤ rdp a i) ∧ (7 ≤ a (i : Int) → a (i : Int) ≠ 10 → 2 ≤ rdp a i)
theorem rdp_congr {a b : Int → Int} : ∀ m : Nat, (∀ j : Nat, j < m → a (j : Int) = b (j : Int)) → rdp a m = rdp b m
  | 0, _ => rfl
  | m + 1, h => by
    show rdp a m + _ = rdp b m + _
    rw [rdp_congr m (fun j hj => h j (by omega)), h m (by omega)]
theorem rpPre_congr {n : Int} {a b : Int → Int} (h : ∀ j : Nat, (j : Int) < n → a (j : Int) = b (j : Int)) (hp : rpPre n a) : rpPre n b := fun i hi => by
  have e := rdp_congr (a := a) (b := b) i (fun j hj => h j (by omega))
  rw [← e, ← h i hi]
  exact hp i hi
theorem rpOk_congr {n : Int} {a b : Int → Int} (h : ∀ j : Nat, (j : Int) < n → a (j : Int) = b (j : Int)) (hp : rpOk n a) : rpOk n b := by
  refine ⟨?_, rpPre_congr h hp.2⟩
  rw [← rdp_congr (a := a) (b := b) n.toNat (fun j hj => h j (by omega))]
  exact hp.1
theorem rp_put {n : Int} {a : Int → Int} (h0 : 0 ≤ n) (h : rpPre n a) (x : Int) (hx : (x = 10 → 1 ≤ rdp a n.toNat) ∧ (7 ≤ x → x ≠ 10 → 2 ≤ rdp a n.toNat)) : rpPre (n + 1) (u1 a n x) ∧ rdp (u1 a n x) (n + 1).toNat = rdp a n.toNat + (if x < 7 then 1 else if x = 10 then 0 else -1) := by
  obtain ⟨m, rfl⟩ : ∃ m : Nat, n = (m : Int) := ⟨n.toNat, by omega⟩
  have e2 : ((m : Int)).toNat = m := by omega
  have e1 : ((m : Int) + 1).toNat = m + 1 := by omega
  rw [e2] at hx ⊢
  rw [e1]
  have lo : ∀ i : Nat, i ≤ m → rdp (u1 a (m : Int) x) i = rdp a i := fun i hi => rdp_congr i (fun j hj => u1_n (by omega))
  have hi : u1 a (m : Int) x (m : Int) = x := u1_s
  refine ⟨fun i hi2 => ?_, ?_⟩
  · rcases Nat.lt_or_ge i m with q | q
    · rw [lo i (by omega), u1_n (show (i : Int) ≠ (m : Int) by omega)]
      exact h i (by omega)
    · have e3 : i = m := by omega
      subst e3
      rw [lo i (Nat.le_refl i), hi]
      exact hx
  · show rdp (u1 a (m : Int) x) m + (if u1 a (m : Int) x (m : Int) < 7 then 1 else if u1 a (m : Int) x (m : Int) = 10 then 0 else -1) = _
    rw [lo m (Nat.le_refl m), hi]
def wB (w : Int → Int) (m : Int) : Int := cn (fun j => decide (w j ≤ 9)) m.toNat
def wN (w : Int → Int) (m : Int) : Int := cn (fun j => decide (w j = 10)) m.toNat
def wP (w : Int → Int) (m : Int) : Int := cn (fun j => decide (w j = 11)) m.toNat
theorem w_rng (w : Int → Int) {m : Int} (h : 0 ≤ m) : (0 ≤ wB w m ∧ wB w m ≤ m) ∧ (0 ≤ wN w m ∧ wN w m ≤ m) ∧ (0 ≤ wP w m ∧ wP w m ≤ m) := by
  have h1 := cn_rng (fun j => decide (w j ≤ 9)) m.toNat
  have h2 := cn_rng (fun j => decide (w j = 10)) m.toNat
  have h3 := cn_rng (fun j => decide (w j = 11)) m.toNat
  unfold wB wN wP
  omega
theorem w_push (w : Int → Int) {m : Int} (h : 0 ≤ m) (x : Int) : wB (u1 w m x) (m + 1) = wB w m + (if x ≤ 9 then 1 else 0) ∧ wN (u1 w m x) (m + 1) = wN w m + (if x = 10 then 1 else 0) ∧ wP (u1 w m x) (m + 1) = wP w m + (if x = 11 then 1 else 0) := by
  obtain ⟨k, rfl⟩ : ∃ k : Nat, m = (k : Int) := ⟨m.toNat, by omega⟩
  have e1 : ((k : Int) + 1).toNat = k + 1 := by omega
  have e2 : ((k : Int)).toNat = k := by omega
  have hi : u1 w (k : Int) x (k : Int) = x := u1_s
  unfold wB wN wP
  rw [e1, e2]
  refine ⟨?_, ?_, ?_⟩
  · show cn _ k + (if decide (u1 w (k : Int) x (k : Int) ≤ 9) = true then 1 else 0) = _
    rw [cn_congr k (q := fun j => decide (w j ≤ 9)) (fun j hj => by rw [u1_n (show (j : Int) ≠ (k : Int) by omega)]), hi]
    simp
  · show cn _ k + (if decide (u1 w (k : Int) x (k : Int) = 10) = true then 1 else 0) = _
    rw [cn_congr k (q := fun j => decide (w j = 10)) (fun j hj => by rw [u1_n (show (j : Int) ≠ (k : Int) by omega)]), hi]
    simp
  · show cn _ k + (if decide (u1 w (k : Int) x (k : Int) = 11) = true then 1 else 0) = _
    rw [cn_congr k (q := fun j => decide (w j = 11)) (fun j hj => by rw [u1_n (show (j : Int) ≠ (k : Int) by omega)]), hi]
    simp
theorem w_pop (w : Int → Int) {m : Int} (h : 1 ≤ m) : wB w m = wB w (m - 1) + (if w (m - 1) ≤ 9 then 1 else 0) ∧ wN w m = wN w (m - 1) + (if w (m - 1) = 10 then 1 else 0) ∧ wP w m = wP w (m - 1) + (if w (m - 1) = 11 then 1 else 0) := by
  obtain ⟨k, rfl⟩ : ∃ k : Nat, m = (k : Int) + 1 := ⟨(m - 1).toNat, by omega⟩
  have e1 : ((k : Int) + 1).toNat = k + 1 := by omega
  have e3 : (k : Int) + 1 - 1 = (k : Int) := by omega
  have e2 : ((k : Int)).toNat = k := by omega
  unfold wB wN wP
  rw [e3, e1, e2]
  refine ⟨?_, ?_, ?_⟩
  · show cn _ k + (if decide (w (k : Int) ≤ 9) = true then 1 else 0) = _
    simp
  · show cn _ k + (if decide (w (k : Int) = 10) = true then 1 else 0) = _
    simp
  · show cn _ k + (if decide (w (k : Int) = 11) = true then 1 else 0) = _
    simp
theorem w_all (w : Int → Int) (h : ∀ j, w j ≤ 11) : ∀ m : Nat, cn (fun j => decide (w j ≤ 9)) m + cn (fun j => decide (w j = 10)) m + cn (fun j => decide (w j = 11)) m = m
  | 0 => rfl
  | m + 1 => by
    have ih := w_all w h m
    have h1 := h (m : Int)
    show cn _ m + (if decide (w (m : Int) ≤ 9) = true then 1 else 0) + (cn _ m + (if decide (w (m : Int) = 10) = true then 1 else 0)) + (cn _ m + (if decide (w (m : Int) = 11) = true then 1 else 0)) = ((m + 1 : Nat) : Int)
    simp only [decide_eq_true_eq]
    split <;> split <;> split <;> omega
/-- np laid, cnt counted, dp deep, wt waiting; has: an operand is whole -/
def eOk (np cnt dp wt has : Int) (a w : Int → Int) : Prop := rpPre np a ∧ rdp a np.toNat = wB w wt + has ∧ np + wB w wt + wN w wt ≤ cnt ∧ cnt ≤ 40 ∧ dp = wN w wt + wP w wt ∧ dp ≤ 8 ∧ 0 ≤ np ∧ 0 ≤ wt ∧ (∀ j, w j ≤ 11) ∧ ∀ j, 0 ≤ j → j < wt → 7 ≤ w j
theorem eOk_rng {np cnt dp wt has : Int} {a w : Int → Int} (h : eOk np cnt dp wt has a w) : (0 ≤ np ∧ np ≤ 40) ∧ (0 ≤ wt ∧ wt ≤ 48) ∧ (0 ≤ dp ∧ dp ≤ 8) ∧ np ≤ cnt ∧ cnt ≤ 40 := by
  obtain ⟨h1, h2, h3, h4, h5, h6, h7, h8, h9, h10⟩ := h
  have r := w_rng w h8
  have q : wB w wt + wN w wt + wP w wt = wt := by
    have := w_all w h9 wt.toNat
    unfold wB wN wP
    omega
  omega
theorem eOk_num {np cnt dp wt x : Int} {a w : Int → Int} (h : eOk np cnt dp wt 0 a w) (hc : cnt < 40) (hx : x < 7) : eOk (np + 1) (cnt + 1) dp wt 1 (u1 a np x) w := by
  obtain ⟨h1, h2, h3, h4, h5, h6, h7, h8, h9, h10⟩ := h
  have p := rp_put h7 h1 x ⟨fun q => by omega, fun q => by omega⟩
  rw [if_pos hx] at p
  exact ⟨p.1, by omega, by omega, by omega, h5, h6, by omega, h8, h9, h10⟩
theorem eOk_wait {np cnt dp wt has x : Int} {a w : Int → Int} (h : eOk np cnt dp wt has a w) (hx : (x = 10 ∧ has = 0 ∧ cnt < 40 ∧ dp < 8) ∨ (x = 11 ∧ has = 0 ∧ dp < 8) ∨ (7 ≤ x ∧ x ≤ 9 ∧ has = 1 ∧ cnt < 40)) : eOk np (cnt + (if x = 11 then 0 else 1)) (dp + (if x ≤ 9 then 0 else 1)) (wt + 1) 0 a (u1 w wt x) := by
  obtain ⟨h1, h2, h3, h4, h5, h6, h7, h8, h9, h10⟩ := h
  obtain ⟨p1, p2, p3⟩ := w_push w h8 x
  have u9 : ∀ j, u1 w wt x j ≤ 11 := fun j => by
    have := h9 j
    unfold u1
    split <;> omega
  have u10 : ∀ j, 0 ≤ j → j < wt + 1 → 7 ≤ u1 w wt x j := fun j q1 q2 => by
    unfold u1
    split
    · omega
    · exact h10 j q1 (by omega)
  unfold eOk
  rw [p1, p2, p3]
  rcases hx with ⟨rfl, q1, q2, q3⟩ | ⟨rfl, q1, q2⟩ | ⟨q1, q2, q3, q4⟩
  · exact ⟨h1, by rw [if_neg (by decide)]; omega, by rw [if_neg (by decide), if_pos rfl, if_neg (by decide)]; omega, by rw [if_neg (by decide)]; omega, by rw [if_neg (by decide), if_pos rfl, if_neg (by decide)]; omega, by rw [if_neg (by decide)]; omega, h7, by omega, u9, u10⟩
  · exact ⟨h1, by rw [if_neg (by decide)]; omega, by rw [if_neg (by decide), if_neg (by decide), if_pos rfl]; omega, by rw [if_pos rfl]; omega, by rw [if_neg (by decide), if_neg (by decide), if_pos rfl]; omega, by rw [if_neg (by decide)]; omega, h7, by omega, u9, u10⟩
  · have n10 : ¬ x = 10 := by omega
    have n11 : ¬ x = 11 := by omega
    rw [if_pos q2, if_pos q2, if_neg n10, if_neg n11, if_neg n11]
    exact ⟨h1, by omega, by omega, by omega, by omega, by omega, h7, by omega, u9, u10⟩
theorem eOk_red {np cnt dp wt : Int} {a w : Int → Int} (h : eOk np cnt dp wt 1 a w) (hw : 0 < wt) (hx : w (wt - 1) < 10) : eOk (np + 1) cnt dp (wt - 1) 1 (u1 a np (w (wt - 1))) w ∧ wP w (wt - 1) = wP w wt := by
  obtain ⟨h1, h2, h3, h4, h5, h6, h7, h8, h9, h10⟩ := h
  obtain ⟨p1, p2, p3⟩ := w_pop w (show 1 ≤ wt by omega)
  have r := w_rng w (show 0 ≤ wt - 1 by omega)
  have h7x := h10 (wt - 1) (by omega) (by omega)
  rw [if_pos (by omega)] at p1
  rw [if_neg (by omega)] at p2 p3
  have p := rp_put h7 h1 (w (wt - 1)) ⟨fun q => by omega, fun q _ => by omega⟩
  rw [if_neg (by omega), if_neg (by omega)] at p
  exact ⟨⟨p.1, by omega, by omega, h4, by omega, h6, by omega, by omega, h9, fun j q1 q2 => h10 j q1 (by omega)⟩, by omega⟩
theorem eOk_whole {np cnt dp wt : Int} {a w : Int → Int} (h : eOk np cnt dp wt 1 a w) (hw : 0 < wt) (hx : w (wt - 1) = 10) : eOk (np + 1) cnt (dp - 1) (wt - 1) 1 (u1 a np 10) w := by
  obtain ⟨h1, h2, h3, h4, h5, h6, h7, h8, h9, h10⟩ := h
  obtain ⟨p1, p2, p3⟩ := w_pop w (show 1 ≤ wt by omega)
  have r := w_rng w (show 0 ≤ wt - 1 by omega)
  rw [if_neg (by omega)] at p1 p3
  rw [if_pos hx] at p2
  have p := rp_put h7 h1 10 ⟨fun q => by omega, fun _ q => absurd rfl q⟩
  rw [if_neg (by decide), if_pos rfl] at p
  exact ⟨p.1, by omega, by omega, h4, by omega, by omega, by omega, by omega, h9, fun j q1 q2 => h10 j q1 (by omega)⟩
theorem eOk_close {np cnt dp wt : Int} {a w : Int → Int} (h : eOk np cnt dp wt 1 a w) (hw : 0 < wt) (hx : 10 ≤ w (wt - 1)) : eOk np cnt (dp - 1) (wt - 1) 1 a w := by
  obtain ⟨h1, h2, h3, h4, h5, h6, h7, h8, h9, h10⟩ := h
  obtain ⟨p1, p2, p3⟩ := w_pop w (show 1 ≤ wt by omega)
  have h11 := h9 (wt - 1)
  rw [if_neg (by omega)] at p1
  have q : (if w (wt - 1) = 10 then (1 : Int) else 0) + (if w (wt - 1) = 11 then 1 else 0) = 1 := by
    split <;> split <;> omega
  have q2 : 0 ≤ (if w (wt - 1) = 10 then (1 : Int) else 0) := by split <;> omega
  exact ⟨h1, by omega, by omega, h4, by omega, by omega, h7, by omega, h9, fun j q1 q2 => h10 j q1 (by omega)⟩
theorem eOk_end {np cnt dp : Int} {a w : Int → Int} (h : eOk np cnt dp 0 1 a w) : rpOk np a ∧ np ≤ 40 := by
  have r := eOk_rng h
  obtain ⟨h1, h2, h3, h4, h5, h6, h7, h8, h9, h10⟩ := h
  have e : wB w 0 = 0 := rfl
  exact ⟨⟨by omega, h1⟩, by omega⟩
theorem eOk_start (a w : Int → Int) (h : ∀ j, w j ≤ 11) : eOk 0 0 0 0 0 a w := ⟨fun i hi => absurd hi (by omega), rfl, Int.le_refl 0, by decide, rfl, by decide, by decide, by decide, h, fun j h0 h1 => by omega⟩
theorem rp_default (a : Int → Int) : rpOk 5 (u1 (u1 (u1 (u1 (u1 a 0 0) 1 1) 2 9) 3 2) 4 7) := by
  have s0 : rpPre 0 a := fun i hi => absurd hi (by omega)
  have p0 := rp_put (by decide) s0 0 ⟨fun q => by omega, fun q => by omega⟩
  have p1 := rp_put (by decide) p0.1 1 ⟨fun q => by omega, fun q => by omega⟩
  have p2 := rp_put (by decide) p1.1 9 ⟨fun q => by omega, fun _ _ => by have a0 : rdp a 0 = 0 := rfl; have b0 := p0.2; have b1 := p1.2; simp at b0 b1 ⊢; omega⟩
  have p3 := rp_put (by decide) p2.1 2 ⟨fun q => by omega, fun q => by omega⟩
  have p4 := rp_put (by decide) p3.1 7 ⟨fun q => by omega, fun _ _ => by have a0 : rdp a 0 = 0 := rfl; have b0 := p0.2; have b1 := p1.2; have b2 := p2.2; have b3 := p3.2; simp at b0 b1 b2 b3 ⊢; omega⟩
  refine ⟨?_, p4.1⟩
  have a0 : rdp a 0 = 0 := rfl
  have b0 := p0.2; have b1 := p1.2; have b2 := p2.2; have b3 := p3.2; have b4 := p4.2
  simp at b0 b1 b2 b3 b4 ⊢
  omega
