/-! the reference's state of an expression -/
def mp (x : Int) : Int := if x = 6 then 0 else if x < 6 then x + 1 else x
theorem mp_op {x : Int} (h : 6 < x) : x = mp x := by unfold mp; rw [if_neg (by omega), if_neg (by omega)]
theorem mp_num : (0 : Int) = mp 6 := rfl
theorem mp_nam {x : Int} (h : x < 6) : x + 1 = mp x := by unfold mp; rw [if_neg (by omega), if_pos h]
def cB : List Int → Int
  | [] => 0
  | x :: S => cB S + (if x < 10 then 1 else 0)
def dp : List (Int × Int) → Int
  | [] => 0
  | x :: E => dp E + (if x.1 < 7 then 1 else if x.1 = 10 then 0 else -1)
def vR : List (Int × Int) → Prop
  | [] => True
  | x :: E => vR E ∧ (x.1 ≤ 10) ∧ (x.1 = 10 → 1 ≤ dp E) ∧ (7 ≤ x.1 → x.1 ≠ 10 → 2 ≤ dp E)
theorem cB_tail {S : List Int} (h0 : S ≠ []) : (hdS S < 10 → cB S = cB S.tail + 1) ∧ (10 ≤ hdS S → cB S = cB S.tail) := by
  cases S with
  | nil => exact absurd rfl h0
  | cons x S =>
    simp only [cB, hdS, List.tail_cons]
    exact ⟨fun h => by rw [if_pos h], fun h => by rw [if_neg (by omega)]; omega⟩
theorem cB_pos : ∀ S : List Int, 0 ≤ cB S := by
  intro S
  induction S with
  | nil => decide
  | cons x S ih => simp only [cB]; split <;> omega
theorem rlS_v (c : Int) : ∀ (S : List Int) (E : List (Int × Int)), wfS S → vR E → dp E = cB S + 1 → vR (rlS c S E).2 ∧ dp (rlS c S E).2 = cB (rlS c S E).1 + 1 := by
  intro S
  induction S with
  | nil => intro E _ h1 h2; exact ⟨h1, h2⟩
  | cons x S ih =>
    intro E hw h1 h2
    have hx := hw.2.1
    have hp := cB_pos S
    unfold rlS
    by_cases hc : x < 10 ∧ (c = 9 → x = 9)
    · rw [if_pos hc]
      simp only [cB] at h2
      rw [if_pos hc.1] at h2
      refine ih ((x, 0) :: E) hw.1 ⟨h1, by show x ≤ 10; omega, fun h => by have h : x = 10 := h; omega, fun _ _ => by omega⟩ ?_
      simp only [dp]
      rw [if_neg (by omega), if_neg (by omega)]
      omega
    · rw [if_neg hc]
      exact ⟨h1, h2⟩
theorem rlN_v : ∀ (S : List Int) (E : List (Int × Int)), wfS S → vR E → dp E = cB S + 1 → vR (rlN S E).2 ∧ dp (rlN S E).2 = cB (rlN S E).1 + 1 := by
  intro S
  induction S with
  | nil => intro E _ h1 h2; exact ⟨h1, h2⟩
  | cons x S ih =>
    intro E hw h1 h2
    have hp := cB_pos S
    unfold rlN
    by_cases hc : x = 10
    · rw [if_pos hc]
      simp only [cB] at h2
      rw [if_neg (by omega)] at h2
      refine ih ((10, 0) :: E) hw.1 ⟨h1, by decide, fun _ => by omega, fun _ h => absurd rfl h⟩ ?_
      simp only [dp]
      rw [if_neg (by decide), if_pos (by decide)]
      omega
    · rw [if_neg hc]
      exact ⟨h1, h2⟩
def xM (has : Int) (S : List Int) (E : List (Int × Int)) (wt : Int → Int) (w : Int) (it nu : Int → Int) (c deep cnt dd : Int) : Prop :=
  (wfS S ∧ (has = 1 → hdS S ≠ 10) ∧ rep S wt w ∧ repC mp E it nu c ∧ deep = cNs S ∧ cnt = (E.length : Int) + cSg S ∧ cnt ≤ 40 ∧ deep ≤ 8) ∧ vR E ∧ dp E = cB S + dd
section XM
variable {S : List Int} {E : List (Int × Int)} {wt it nu : Int → Int} {w c deep cnt x : Int}
theorem xM_rng {has dd : Int} (h : xM has S E wt w it nu c deep cnt dd) : w = (S.length : Int) ∧ c = (E.length : Int) ∧ (0 ≤ cSg S ∧ 0 ≤ cNs S ∧ 0 ≤ cPa S ∧ cPa S ≤ cNs S) ∧ (S.length : Int) ≤ 3 * cNs S + 2 ∧ deep = cNs S ∧ cnt = (E.length : Int) + cSg S ∧ cnt ≤ 40 ∧ deep ≤ 8 := by
  obtain ⟨⟨h1, h2, h3, h4, h5, h6, h7, h8⟩, -⟩ := h
  exact ⟨rep_len _ _ _ h3, repC_len _ _ _ _ h4, cnt_pos S, (wfS_len S h1).1, h5, h6, h7, h8⟩
theorem xM_sg (hw : wfS S) (hx : 7 ≤ x ∧ x ≤ 9) (h9 : x ≠ 9 → S = [] ∨ hdS S = 11) (h9' : x = 9 → hdS S ≠ 9) (hd : hdS S ≠ 10) (hr : rep S wt w) (hc : repC mp E it nu c) (hn : deep = cNs S) (hi : cnt = (E.length : Int) + cSg S + 1) (hi4 : cnt ≤ 40) (hn8 : deep ≤ 8) (hv : vR E) (hd2 : dp E = cB S + 1) : xM 0 (x :: S) E (u1 wt w x) (w + 1) it nu c deep cnt 0 := by
  have hc2 := cnt_tail (S := x :: S) (by simp)
  simp only [hdS, List.tail_cons] at hc2
  refine ⟨⟨⟨hw, by omega, fun _ => ?_⟩, fun h => absurd h (by decide), rep_push hr, hc, ?_, ?_, hi4, hn8⟩, hv, ?_⟩
  · by_cases e : x = 9
    · by_cases e2 : S = []
      · exact Or.inl e2
      · have := wfS_hd hw e2
        have := h9' e
        by_cases e3 : hdS S = 11
        · exact Or.inr (Or.inl e3)
        · exact Or.inr (Or.inr ⟨e, by omega⟩)
    · rcases h9 e with h | h
      · exact Or.inl h
      · exact Or.inr (Or.inl h)
  · rw [hc2.2.2.2.1 (by omega)]; exact hn
  · rw [hc2.2.1 (by omega)]; omega
  · simp only [cB]; rw [if_pos (by omega)]; omega
theorem xM_nest (h : xM 0 S E wt w it nu c deep cnt 0) (hx : 10 ≤ x ∧ x ≤ 11) {deep' cnt' : Int} (hn : deep' = deep + 1) (hi : cnt' = cnt + (11 - x)) (hi4 : cnt' ≤ 40) (hn8 : deep' ≤ 8) : xM 0 (x :: S) E (u1 wt w x) (w + 1) it nu c deep' cnt' 0 := by
  obtain ⟨⟨h1, h2, h3, h4, h5, h6, h7, h8⟩, h9, h10⟩ := h
  have hc2 := cnt_tail (S := x :: S) (by simp)
  simp only [hdS, List.tail_cons] at hc2
  refine ⟨⟨⟨h1, by omega, fun h => by omega⟩, fun h => absurd h (by decide), rep_push h3, h4, ?_, ?_, hi4, hn8⟩, h9, ?_⟩
  · rw [hc2.2.2.1 (by omega)]; omega
  · by_cases e : x = 11
    · rw [hc2.1 e]; omega
    · rw [hc2.2.1 e]; omega
  · simp only [cB]; rw [if_neg (by omega)]; omega
theorem xM_item (h : xM 0 S E wt w it nu c deep cnt 0) {y z cnt' : Int} (hx : x ≤ 6) (hy : y = mp x) (hi : cnt' = cnt + 1) (hi4 : cnt' ≤ 40) : xM 0 S ((x, z) :: E) wt w (u1 it c y) (u1 nu c z) (c + 1) deep cnt' 1 := by
  obtain ⟨⟨h1, h2, h3, h4, h5, h6, h7, h8⟩, h9, h10⟩ := h
  refine ⟨⟨h1, h2, h3, repC_push x h4 hy, h5, ?_, hi4, h8⟩, ⟨h9, by show x ≤ 10; omega, fun h => by have h : x = 10 := h; omega, fun h _ => by have h : 7 ≤ x := h; omega⟩, ?_⟩
  · simp only [List.length_cons]; omega
  · simp only [dp]; rw [if_pos (by omega)]; omega
theorem xM_whole {w' c' deep' : Int} {it' nu' : Int → Int} (h : xM 0 S E wt w it nu c deep cnt 1) (hr : rep (rlN S E).1 wt w') (hc : repC mp (rlN S E).2 it' nu' c') (hn : deep' = cNs (rlN S E).1) : xM 1 (rlN S E).1 (rlN S E).2 wt w' it' nu' c' deep' cnt 1 := by
  obtain ⟨⟨h1, h2, h3, h4, h5, h6, h7, h8⟩, h9, h10⟩ := h
  obtain ⟨i1, i2, i3, i4, i5⟩ := rlN_ok S E h1
  obtain ⟨j1, j2⟩ := rlN_v S E h1 h9 h10
  exact ⟨⟨i1, fun _ => i2, hr, hc, hn, by omega, h7, by omega⟩, j1, j2⟩
/-- behind a paren: the paren off, not yet the negations -/
theorem xM_close {w' c' deep' : Int} {it' nu' : Int → Int} (h : xM 1 S E wt w it nu c deep cnt 1) (hp : 0 < cPa S) (hr : rep (rlS 7 S E).1 wt w') (hc : repC mp (rlS 7 S E).2 it' nu' c') {w2 : Int} (hw2 : w2 = w' - 1) (hn : deep' = deep - 1) : 0 < w' ∧ 1 ≤ deep ∧ xM 0 (rlS 7 S E).1.tail (rlS 7 S E).2 wt w2 it' nu' c' deep' cnt 1 := by
  obtain ⟨⟨h1, h2, h3, h4, h5, h6, h7, h8⟩, h9, h10⟩ := h
  obtain ⟨i1, i2, i3, i4, i5, i6, i7⟩ := rlS_ok 7 S E h1 (h2 rfl)
  obtain ⟨j1, j2⟩ := rlS_v 7 S E h1 h9 h10
  obtain ⟨k1, k2⟩ := clo_hd (E := E) h1 (h2 rfl) hp
  have hct := cnt_tail k1
  have hcb := cB_tail k1
  have hps := cnt_pos (rlS 7 S E).1.tail
  have hw0 : 0 < w' := by
    have hl := rep_len _ _ _ hr
    rcases Int.lt_or_le 0 w' with h | h
    · exact h
    · exact absurd ((rep_nil hr).mp (by omega)) k1
  refine ⟨hw0, by omega, ⟨wfS_tail i1, fun h => absurd h (by decide), by rw [hw2]; exact (rep_top hr hw0).2, hc, by omega, by omega, h7, by omega⟩, j1, by have := hcb.2 (by omega); omega⟩
theorem rep_pa : ∀ (S : List Int) (a : Int → Int) (w : Int), rep S a w → (cPa S = 0 ↔ ∀ j, 0 ≤ j → j < w → a j ≠ 11) := by
  intro S
  induction S with
  | nil => intro a w h; have h : w = 0 := h; exact ⟨fun _ j h0 h1 => by omega, fun _ => rfl⟩
  | cons x S ih =>
    intro a w h
    have hl := rep_len _ _ _ h
    simp only [List.length_cons] at hl
    have i := ih a (w - 1) h.2
    have hp := cnt_pos S
    simp only [cPa]
    by_cases e : x = 11
    · rw [if_pos e]
      exact ⟨fun h => by omega, fun h2 => absurd (h.1.trans e) (h2 (w - 1) (by omega) (by omega))⟩
    · rw [if_neg e]
      constructor
      · intro h2 j h0 h1
        by_cases ej : j = w - 1
        · rw [ej, h.1]; exact e
        · exact i.mp (by omega) j h0 (by omega)
      · intro h2
        have := i.mpr (fun j h0 h1 => h2 j h0 (by omega))
        omega
/-- the end: a code that can be worked -/
theorem repC_dp : ∀ (E : List (Int × Int)) (a b : Int → Int) (c : Int), repC mp E a b c → vR E → rdp a c.toNat = dp E ∧ ∀ i : Nat, (i : Int) < c → (a (i : Int) = 10 → 1 ≤ rdp a i) ∧ (7 ≤ a (i : Int) → a (i : Int) ≠ 10 → 2 ≤ rdp a i) := by
  intro E
  induction E with
  | nil => intro a b c h _; have h : c = 0 := h; subst h; exact ⟨rfl, fun i hi => by omega⟩
  | cons x E ih =>
    intro a b c h hv
    have hl := repC_len _ _ _ _ h
    simp only [List.length_cons] at hl
    obtain ⟨i1, i2⟩ := ih a b (c - 1) h.2.2 hv.1
    have e : c.toNat = (c - 1).toNat + 1 := by omega
    have e2 : (((c - 1).toNat : Nat) : Int) = c - 1 := by omega
    have hm : (mp x.1 < 7 ↔ x.1 < 7) ∧ (mp x.1 = 10 ↔ x.1 = 10) ∧ (mp x.1 ≤ 10) := by
      have := hv.2.1
      unfold mp
      by_cases h6 : x.1 = 6
      · rw [if_pos h6]; omega
      · rw [if_neg h6]
        by_cases h7 : x.1 < 6
        · rw [if_pos h7]; omega
        · rw [if_neg h7]; omega
    constructor
    · rw [e]
      show rdp a (c - 1).toNat + (if a (((c - 1).toNat : Nat) : Int) < 7 then 1 else if a (((c - 1).toNat : Nat) : Int) = 10 then 0 else -1) = dp (x :: E)
      rw [e2, h.1, i1]
      simp only [dp]
      by_cases h7 : x.1 < 7
      · rw [if_pos h7, if_pos (hm.1.mpr h7)]
      · rw [if_neg h7, if_neg (fun q => h7 (hm.1.mp q))]
        by_cases h10 : x.1 = 10
        · rw [if_pos h10, if_pos (hm.2.1.mpr h10)]
        · rw [if_neg h10, if_neg (fun q => h10 (hm.2.1.mp q))]
    · intro i hi
      by_cases ei : (i : Int) = c - 1
      · have ei2 : i = (c - 1).toNat := by omega
        rw [ei, h.1, ei2, i1]
        exact ⟨fun q => hv.2.2.1 (hm.2.1.mp q), fun q1 q2 => hv.2.2.2 (by have := hm.1; omega) (fun q => q2 (hm.2.1.mpr q))⟩
      · exact i2 i (by omega)
theorem xM_end (h : xM 1 S E wt w it nu c deep cnt 1) (hp : cPa S = 0) {w' c' : Int} {it' nu' : Int → Int} (hr : rep (rlS 7 S E).1 wt w') (hc : repC mp (rlS 7 S E).2 it' nu' c') : w' = 0 ∧ rpOk c' it' ∧ c' ≤ 40 := by
  obtain ⟨⟨h1, h2, h3, h4, h5, h6, h7, h8⟩, h9, h10⟩ := h
  obtain ⟨i1, i2, i3, i4, i5, i6, i7⟩ := rlS_ok 7 S E h1 (h2 rfl)
  obtain ⟨j1, j2⟩ := rlS_v 7 S E h1 h9 h10
  have e : (rlS 7 S E).1 = [] := by
    rcases i6 (by decide) with h | h
    · exact h
    · exfalso
      have hne : (rlS 7 S E).1 ≠ [] := fun q => by rw [q] at h; exact absurd h (by decide)
      have := (cnt_tail hne).2.2.2.2.1 h
      have := cnt_pos (rlS 7 S E).1.tail
      omega
  have hl := repC_len _ _ _ _ hc
  have hs := cnt_pos (rlS 7 S E).1
  obtain ⟨d1, d2⟩ := repC_dp _ _ _ _ hc j1
  refine ⟨(rep_nil hr).mpr e, ⟨?_, d2⟩, by omega⟩
  rw [d1, j2, e]
  decide
end XM
/-! outcomes -/
def oM (B : Int → Int) (n : Int) (o : Int × Int) (bad badAt a bh so nu w : Int) : Prop := bad = o.1 ∧ (o.1 ≠ 0 → badAt = o.2) ∧ mAt B n a bh so nu w o.2
section OM
variable {B : Int → Int} {n bad badAt a bh so nu w k q p : Int} {o : Int × Int}
theorem oM_ok (h : o = (0, q)) (h1 : bad = 0) (h3 : mAt B n a bh so nu w q) : oM B n o bad badAt a bh so nu w := by rw [h]; exact ⟨h1, fun h => absurd rfl h, h3⟩
theorem oM_bad (h : o = (k, q)) (h1 : bad = k) (h2 : badAt = q) (h3 : mAt B n a bh so nu w q) : oM B n o bad badAt a bh so nu w := by rw [h]; exact ⟨h1, fun _ => h2, h3⟩
def nm1 (B : Int → Int) (n lo hi p : Int) : Int × Int := if tK B n p ≠ 258 then (fk B n p, p) else if tV B n p < lo ∨ hi < tV B n p then (4, p) else (0, tX B n p)
theorem nm1_a {lo hi : Int} (h : tK B n p ≠ 258) : nm1 B n lo hi p = (fk B n p, p) := if_pos h
theorem nm1_b {lo hi : Int} (h : tK B n p = 258) (h2 : tV B n p < lo ∨ hi < tV B n p) : nm1 B n lo hi p = (4, p) := by unfold nm1; rw [if_neg (fun q => q h), if_pos h2]
theorem nm1_c {lo hi : Int} (h : tK B n p = 258) (h2 : lo ≤ tV B n p ∧ tV B n p ≤ hi) : nm1 B n lo hi p = (0, tX B n p) := by unfold nm1; rw [if_neg (fun q => q h), if_neg (by omega)]
theorem rnd_nm1 {kk : Nat} {i lo hi : Int} (h1 : gElo i.toNat = lo) (h2 : gEhi i.toNat = hi) : rnd B n (kk + 1) i p = if (nm1 B n lo hi p).1 ≠ 0 then nm1 B n lo hi p else rnd B n kk (i + 1) (nm1 B n lo hi p).2 := by
  have hf := fk_rng B n p
  by_cases c1 : tK B n p ≠ 258
  · rw [rnd_a c1, nm1_a c1, if_pos (by show fk B n p ≠ 0; omega)]
  · by_cases c2 : tV B n p < lo ∨ hi < tV B n p
    · rw [rnd_b (by omega) (by rw [h1, h2]; exact c2), nm1_b (by omega) c2, if_pos (by show (4 : Int) ≠ 0; decide)]
    · rw [rnd_c (by omega) (by rw [h1, h2]; omega), nm1_c (by omega) (by omega)]
      exact (if_neg (fun h => h rfl)).symm
theorem semi_bad (h : o.1 ≠ 0) : semi B n o = o := if_pos h
theorem semi_ok (h : tK B n q = 59) : semi B n (0, q) = (0, tX B n q) := by unfold semi; rw [if_neg (fun h => h rfl), if_neg (fun h2 => h2 h)]
theorem semi_no (h : tK B n q ≠ 59) : semi B n (0, q) = (fk B n q, q) := by unfold semi; rw [if_neg (fun h => h rfl), if_pos h]
theorem semi_fk : semi B n (fk B n q, q) = (fk B n q, q) := semi_bad (by have := fk_rng B n q; show fk B n q ≠ 0; omega)
end OM
theorem hW_rng : ∀ i : Nat, i < 18 → 0 ≤ hW i ∧ hW i ≤ 1152921504606846976 := by decide +kernel
theorem tV_nam {B : Int → Int} {n p : Int} (h : 259 ≤ tK B n p) : tV B n p = 0 := tV_0 (fun q => by
  have := tK_D q.1 q.2
  split at this <;> omega)
