/-! the reference's token -/
theorem hs_up {B : Int → Int} {a x : Int} (h : a ≤ x) : hs B a (x + 1 - a).toNat = if x - a < 12 then 32 * hs B a (x - a).toNat + B x - 96 else -1 := by
  rw [show (x + 1 - a).toNat = (x - a).toNat + 1 by omega]
  unfold hs
  by_cases h1 : x - a < 12
  · rw [if_pos h1, if_pos (by omega), if_pos (by omega)]
    show 32 * hsN _ _ + B (a + (((x - a).toNat : Nat) : Int)) - 96 = _
    rw [show a + (((x - a).toNat : Nat) : Int) = x by omega]
  · rw [if_neg h1, if_neg (by omega)]
theorem hsN_le {a : Nat → Int} : ∀ k, (∀ j, j < k → pL (a j)) → hsN a k < 32 ^ k := by
  intro k
  induction k with
  | zero => intro _; show (0 : Int) < 32 ^ 0; decide
  | succ k ih =>
    intro h
    have h1 := ih (fun j hj => h j (by omega))
    have h2 := h k (by omega)
    unfold hsN
    have e : (32 : Int) ^ (k + 1) = 32 * 32 ^ k := by rw [Int.pow_succ]; omega
    omega
theorem hs_rng {B : Int → Int} {q : Int} {k : Nat} (h : ∀ j : Nat, j < k → pL (B (q + (j : Int)))) : -1 ≤ hs B q k ∧ hs B q k ≤ 1152921504606846976 := by
  unfold hs
  by_cases hk : k ≤ 12
  · rw [if_pos hk]
    have h1 := hsN_pos (a := fun j => B (q + (j : Int))) k h
    have h2 := hsN_le (a := fun j => B (q + (j : Int))) k h
    have h3 : (32 : Int) ^ k ≤ 32 ^ 12 := by
      have : (32 : Nat) ^ k ≤ 32 ^ 12 := Nat.pow_le_pow_right (by decide) hk
      exact_mod_cast this
    have h4 : (32 : Int) ^ 12 = 1152921504606846976 := by decide
    omega
  · rw [if_neg hk]
    decide
def tokC (B : Int → Int) (n p so nu w : Int) : Prop :=
  (so = 0 ∧ tK B n p = 256) ∨ (so = 4 ∧ tK B n p = 257) ∨ (so = 2 ∧ tK B n p = 258 ∧ nu = tV B n p) ∨ (so = 3 ∧ tK B n p = nu ∧ nu < 256) ∨ (so = 1 ∧ (259 ≤ tK B n p ∧ tK B n p ≤ 277) ∧ (-1 ≤ w ∧ w ≤ 1152921504606846976) ∧ ∀ i : Nat, i < 18 → (tK B n p = 260 + (i : Int) ↔ w = hW i))
def mAt (B : Int → Int) (n a bh so nu w p : Int) : Prop := a = p ∧ 0 ≤ p ∧ p ≤ n ∧ bh = tE B n p ∧ tokC B n p so nu w
section MT
variable {B : Int → Int} {n p y so nu w : Int}
theorem tok_end (h : n ≤ p) : tokC B n p 0 nu w := Or.inl ⟨rfl, tK_N h⟩
theorem tok_word (h : p < n) (hl : pL (B p)) (hr : run bL B n p = y) (hw : w = hs B p (y - p).toNat) : tokC B n p 1 nu w ∧ y = tE B n p := by
  have hs1 := runL_spec B n p
  rw [hr] at hs1
  refine ⟨Or.inr (Or.inr (Or.inr (Or.inr ⟨rfl, ?_, ?_, fun i hi => ?_⟩))), by rw [tE_L h hl, hr]⟩
  · rw [tK_L h hl]; exact wK_rng _ _ _
  · rw [hw]; exact hs_rng (fun j hj => (hs1.2.2.1 _ (by omega) (by omega)).2)
  · rw [tK_L h hl, hr, hw]
    exact wK_hs hs1.1 (fun j a b => (hs1.2.2.1 j a b).2) i hi
theorem tok_num (h : p < n) (hl : pD (B p)) (hr : run bD B n p = y) (hw : nu = nV B p (y - p).toNat) : (y - p ≤ 6 → tokC B n p 2 nu w) ∧ (6 < y - p → tokC B n p 4 nu w) ∧ y = tE B n p := by
  refine ⟨fun h1 => Or.inr (Or.inr (Or.inl ⟨rfl, ?_, ?_⟩)), fun h1 => Or.inr (Or.inl ⟨rfl, ?_⟩), by rw [tE_D h hl, hr]⟩
  · rw [tK_D h hl, hr, if_neg (by omega)]
  · rw [tV_D h hl, hr, hw]
  · rw [tK_D h hl, hr, if_pos (by omega)]
theorem tok_sign (h : p < n) (hn : nu = B p) (hs : pS (B p)) : tokC B n p 3 nu w ∧ p + 1 = tE B n p := ⟨Or.inr (Or.inr (Or.inr (Or.inl ⟨rfl, by rw [tK_S h hs, hn], by omega⟩))), by rw [tE_S h (by omega) (by omega)]⟩
theorem tok_bad (h : p < n) (h1 : ¬ pL (B p)) (h2 : ¬ pD (B p)) (h3 : ¬ pS (B p)) : tokC B n p 4 nu w ∧ p + 1 = tE B n p := ⟨Or.inr (Or.inl ⟨rfl, tK_B h h1 h2 h3⟩), by rw [tE_S h h1 h2]⟩
/-- what a caller may ask of the token -/
theorem mAt.of {a bh : Int} (h : mAt B n a bh so nu w p) : a = p ∧ (0 ≤ p ∧ p ≤ n) ∧ bh = tE B n p ∧ (so = 4 ↔ tK B n p = 257) ∧ (so = 0 ↔ tK B n p = 256) ∧ (so = 2 ↔ tK B n p = 258) ∧ (so = 3 ↔ tK B n p < 256) ∧ (so = 1 ↔ 259 ≤ tK B n p) ∧ (so = 2 → nu = tV B n p) ∧ (so = 3 → nu = tK B n p) ∧ (so = 1 → -1 ≤ w ∧ w ≤ 1152921504606846976) := by
  have hr := tK_rng B n p
  obtain ⟨h1, h2, h3, h4, h5⟩ := h
  refine ⟨h1, ⟨h2, h3⟩, h4, ?_⟩
  rcases h5 with h | h | h | h | h
  · omega
  · omega
  · obtain ⟨a1, a2, a3⟩ := h; omega
  · omega
  · obtain ⟨a1, a2, a3, -⟩ := h; omega
theorem mAt.wd {a bh : Int} (h : mAt B n a bh so nu w p) (i : Nat) (hi : i < 18) : (so = 1 ∧ w = hW i) ↔ tK B n p = 260 + (i : Int) := by
  have hr := tK_rng B n p
  have h6 := h.of
  obtain ⟨h1, h2, h3, h4, h5⟩ := h
  rcases h5 with h | h | h | h | h
  · omega
  · omega
  · obtain ⟨a1, a2, a3⟩ := h; omega
  · omega
  · obtain ⟨a1, a2, -, a3⟩ := h
    rw [a3 i hi]
    exact ⟨fun h => h.2, fun h => ⟨a1, h⟩⟩
theorem mAt.bh {a bh : Int} (h : mAt B n a bh so nu w p) : run bW B n bh = tX B n p := by rw [h.2.2.2.1]; rfl
theorem mAt.le {a bh : Int} (h : mAt B n a bh so nu w p) : 0 ≤ bh ∧ bh ≤ n := by
  have h1 := h.of
  rw [h1.2.2.1]
  by_cases e : p < n
  · have := tE_up (B := B) e
    omega
  · rw [tE_N (by omega)]
    omega
end MT
def stp (w x : Int) : Int := if 0 < x then w * 32 + x - 96 else w
theorem stp_p {w x : Int} (h : 0 < x) : stp w x = w * 32 + x - 96 := if_pos h
theorem stp_n {w x : Int} (h : ¬ 0 < x) : stp w x = w := if_neg h
def spW (a b c d e f g : Int) : Int := stp (stp (stp (stp (stp (stp (a - 96) b) c) d) e) f) g
abbrev inL (a : Int) : Prop := -9223372036854775808 ≤ a ∧ a ≤ 9223372036854775807
theorem iL_toInt {a : Int} (h : inL a) : (iL a).toInt = a := Int64.toInt_ofInt_of_le (by have := h.1; omega) (by have := h.2; omega)
theorem lg_cmpE {a b : Int} (ha : inL a) (hb : inL b) : lg_cmp (iL a) (iL b) = if b < a then 1 else if a = b then 0 else -1 := by
  unfold lg_cmp
  have e1 : iL a > iL b ↔ b < a := by
    show iL b < iL a ↔ b < a
    rw [Int64.lt_iff_toInt_lt, iL_toInt ha, iL_toInt hb]
  have e2 : iL a = iL b ↔ a = b := by rw [← Int64.toInt_inj, iL_toInt ha, iL_toInt hb]
  by_cases h1 : b < a
  · rw [if_pos h1, if_pos (e1.mpr h1)]
  · rw [if_neg h1, if_neg (fun h => h1 (e1.mp h))]
    by_cases h2 : a = b
    · rw [if_pos h2, if_pos (e2.mpr h2)]
    · rw [if_neg h2, if_neg (fun h => h2 (e2.mp h))]
section GLc
variable {p : Program} {l : Launch} {e : Env} {R : Room} {s : State} {m : MethodId} {args : Array Value} {below : List Frame} {meth : Method} {c : Code} {H : Heap} {locs : List Loc} {cells slots : Nat} {Q : State → Prop}
variable {cc : ByteArray} {pc : Nat} {ls : Array Slot} {rest : List Value} {a b : Int}
theorem gl_cmpE (hx : p.tables.exec = Jvm.exec) (hb : c.code = cc) (ha : inL a) (hbb : inL b) (hdg : decode cc pc = .ok (.lcmp, 1)) (k : ∀ z : Int, ((z = 0 ↔ a = b) ∧ (z < 0 ↔ a < b) ∧ -1 ≤ z ∧ z ≤ 1) → W p l e R s m args below meth c H locs cells slots Q (F0 m (pc + 1) ls (.int (iI z) :: rest))) : W p l e R s m args below meth c H locs cells slots Q (F0 m pc ls (.long (iL b) :: .long (iL a) :: rest)) := by
  refine W.lcmp hx hb hdg ?_
  rw [lg_cmpE ha hbb]
  by_cases h1 : b < a
  · rw [if_pos h1]
    exact k 1 (by omega)
  · rw [if_neg h1]
    by_cases h2 : a = b
    · rw [if_pos h2]
      exact k 0 (by omega)
    · rw [if_neg h2]
      exact k (-1) (by omega)
end GLc
