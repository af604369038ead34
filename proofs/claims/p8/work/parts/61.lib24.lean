theorem gif1 {P : Prop} {z : Int} (h : (z = 1 ∧ P) ∨ (z = 0 ∧ ¬ P)) (hz : z ≠ 0) : P := h.elim (fun q => q.2) (fun q => absurd q.1 hz)
theorem gif0 {P : Prop} {z : Int} (h : (z = 1 ∧ P) ∨ (z = 0 ∧ ¬ P)) (hz : z = 0) : ¬ P := h.elim (fun q => absurd (q.1.symm.trans hz) (by decide)) (fun q => q.2)
/-! counts over places -/
theorem cn_y {p : Int → Bool} {x : Int} (h : 0 ≤ x) (hp : p x = true) : cn p (x + 1).toNat = cn p x.toNat + 1 := by
  obtain ⟨j, rfl⟩ : ∃ j : Nat, x = (j : Int) := ⟨x.toNat, by omega⟩
  rw [show ((j : Int) + 1).toNat = j + 1 by omega, show ((j : Int)).toNat = j by omega]
  show cn p j + (if p (j : Int) then 1 else 0) = _
  rw [if_pos hp]
theorem cn_n {p : Int → Bool} {x : Int} (h : 0 ≤ x) (hp : p x = false) : cn p (x + 1).toNat = cn p x.toNat := by
  obtain ⟨j, rfl⟩ : ∃ j : Nat, x = (j : Int) := ⟨x.toNat, by omega⟩
  rw [show ((j : Int) + 1).toNat = j + 1 by omega, show ((j : Int)).toNat = j by omega]
  show cn p j + (if p (j : Int) then 1 else 0) = _
  rw [hp]
  show cn p j + 0 = _
  omega
theorem cn_0 (p : Int → Bool) : cn p (0 : Int).toNat = 0 := rfl
theorem cn_hi {p : Int → Bool} {x n : Int} (h0 : 0 ≤ x) (h1 : x < n) (hp : p x = true) : 1 ≤ cn p n.toNat := by
  obtain ⟨j, rfl⟩ : ∃ j : Nat, x = (j : Int) := ⟨x.toNat, by omega⟩
  exact cn_pos j hp n.toNat (by omega)
theorem cn_r {p : Int → Bool} {n : Int} (h : 0 ≤ n) : 0 ≤ cn p n.toNat ∧ cn p n.toNat ≤ n := by
  have := cn_rng p n.toNat
  omega
theorem cn_eq {p q : Int → Bool} {n : Int} (h : ∀ j, 0 ≤ j → j < n → p j = q j) : cn p n.toNat = cn q n.toNat := cn_congr _ (fun j hj => h j (by omega) (by omega))
/-- of a round: who is in -/
def pIn (la : Int → Int) (r c : Int) : Bool := decide (r ≤ la c)
/-! open tries, and those whose seconds are over -/
def OI (n : Int) (wh hw on : Int → Int) : Prop := (∀ c, 0 ≤ c → c < 16 → 0 ≤ on c ∧ on c ≤ n ∧ (0 < on c → wh (on c - 1) = c ∧ hw (on c - 1) = 0)) ∧ ∀ k, 0 ≤ k → k < n → hw k = 0 → on (wh k) = k + 1
abbrev ovC (n s : Int) (hw bg L : Int → Int) (k : Int) : Prop := 0 ≤ k ∧ k < n ∧ hw k = 0 ∧ bg k + L k ≤ s
def ovH (n s : Int) (hw bg L : Int → Int) : Int → Int := fun k => if ovC n s hw bg L k then 3 else hw k
def ovE (n s : Int) (hw bg L en : Int → Int) : Int → Int := fun k => if ovC n s hw bg L k then bg k + L k else en k
def ovO (s : Int) (bg L on : Int → Int) : Int → Int := fun c => if (0 ≤ c ∧ c < 16) ∧ 0 < on c ∧ bg (on c - 1) + L (on c - 1) ≤ s then 0 else on c
section OV
variable {n s x : Int} {wh hw bg L L' en on : Int → Int}
theorem ovH_0 : ovH 0 s hw bg L = hw := funext fun k => if_neg (by intro h; omega)
theorem ovE_0 : ovE 0 s hw bg L en = en := funext fun k => if_neg (by intro h; omega)
theorem ovH_at (h : n ≤ x) : ovH n s hw bg L x = hw x := if_neg (by intro h; omega)
theorem ovE_at (h : n ≤ x) : ovE n s hw bg L en x = en x := if_neg (by intro h; omega)
theorem ovH_skip (h : ¬ (hw x = 0 ∧ bg x + L x ≤ s)) : ovH (x + 1) s hw bg L = ovH x s hw bg L := by
  funext k
  unfold ovH
  by_cases hk : k = x
  · subst hk; rw [if_neg (fun q => h q.2.2), if_neg (fun q => h q.2.2)]
  · by_cases hc : ovC x s hw bg L k
    · rw [if_pos hc, if_pos ⟨hc.1, by omega, hc.2.2⟩]
    · rw [if_neg hc, if_neg (fun q => hc ⟨q.1, by omega, q.2.2⟩)]
theorem ovE_skip (h : ¬ (hw x = 0 ∧ bg x + L x ≤ s)) : ovE (x + 1) s hw bg L en = ovE x s hw bg L en := by
  funext k
  unfold ovE
  by_cases hk : k = x
  · subst hk; rw [if_neg (fun q => h q.2.2), if_neg (fun q => h q.2.2)]
  · by_cases hc : ovC x s hw bg L k
    · rw [if_pos hc, if_pos ⟨hc.1, by omega, hc.2.2⟩]
    · rw [if_neg hc, if_neg (fun q => hc ⟨q.1, by omega, q.2.2⟩)]
theorem ovH_hit (h0 : 0 ≤ x) (h : hw x = 0 ∧ bg x + L x ≤ s) : u1 (ovH x s hw bg L) x 3 = ovH (x + 1) s hw bg L := by
  funext k
  unfold u1 ovH
  by_cases hk : k = x
  · subst hk; rw [if_pos rfl, if_pos ⟨h0, by omega, h⟩]
  · rw [if_neg hk]
    by_cases hc : ovC x s hw bg L k
    · rw [if_pos hc, if_pos ⟨hc.1, by omega, hc.2.2⟩]
    · rw [if_neg hc, if_neg (fun q => hc ⟨q.1, by omega, q.2.2⟩)]
theorem ovE_hit {y : Int} (h0 : 0 ≤ x) (h : hw x = 0 ∧ bg x + L x ≤ s) (hy : y = bg x + L x) : u1 (ovE x s hw bg L en) x y = ovE (x + 1) s hw bg L en := by
  funext k
  unfold u1 ovE
  by_cases hk : k = x
  · subst hk; rw [if_pos rfl, if_pos ⟨h0, by omega, h⟩, hy]
  · rw [if_neg hk]
    by_cases hc : ovC x s hw bg L k
    · rw [if_pos hc, if_pos ⟨hc.1, by omega, hc.2.2⟩]
    · rw [if_neg hc, if_neg (fun q => hc ⟨q.1, by omega, q.2.2⟩)]
theorem ovC_L (h : ∀ k, 0 ≤ k → k < n → hw k = 0 → L k = L' k) (k : Int) : ovC n s hw bg L k ↔ ovC n s hw bg L' k :=
  ⟨fun q => ⟨q.1, q.2.1, q.2.2.1, by rw [← h k q.1 q.2.1 q.2.2.1]; exact q.2.2.2⟩, fun q => ⟨q.1, q.2.1, q.2.2.1, by rw [h k q.1 q.2.1 q.2.2.1]; exact q.2.2.2⟩⟩
theorem ovH_L (h : ∀ k, 0 ≤ k → k < n → hw k = 0 → L k = L' k) : ovH n s hw bg L = ovH n s hw bg L' := by
  funext k
  unfold ovH
  by_cases hc : ovC n s hw bg L k
  · rw [if_pos hc, if_pos ((ovC_L h k).mp hc)]
  · rw [if_neg hc, if_neg (fun q => hc ((ovC_L h k).mpr q))]
theorem ovE_L (h : ∀ k, 0 ≤ k → k < n → hw k = 0 → L k = L' k) : ovE n s hw bg L en = ovE n s hw bg L' en := by
  funext k
  unfold ovE
  by_cases hc : ovC n s hw bg L k
  · rw [if_pos hc, if_pos ((ovC_L h k).mp hc), h k hc.1 hc.2.1 hc.2.2.1]
  · rw [if_neg hc, if_neg (fun q => hc ((ovC_L h k).mpr q))]
theorem ovO_L (hO : OI n wh hw on) (h : ∀ k, 0 ≤ k → k < n → hw k = 0 → L k = L' k) : ovO s bg L on = ovO s bg L' on := by
  funext c
  unfold ovO
  by_cases hc : (0 ≤ c ∧ c < 16) ∧ 0 < on c
  · have h1 := hO.1 c hc.1.1 hc.1.2
    have h2 := h (on c - 1) (by omega) (by omega) (h1.2.2 hc.2).2
    rw [h2]
  · rw [if_neg (fun q => hc ⟨q.1, q.2.1⟩), if_neg (fun q => hc ⟨q.1, q.2.1⟩)]
theorem OI_ov (hO : OI n wh hw on) (hr : ∀ k, 0 ≤ wh k ∧ wh k ≤ 15) : OI n wh (ovH n s hw bg L) (ovO s bg L on) := by
  refine ⟨fun c h0 h1 => ?_, fun k h0 h1 h2 => ?_⟩
  · have h := hO.1 c h0 h1
    unfold ovO
    by_cases hc : (0 ≤ c ∧ c < 16) ∧ 0 < on c ∧ bg (on c - 1) + L (on c - 1) ≤ s
    · rw [if_pos hc]
      exact ⟨Int.le_refl 0, by omega, fun q => absurd q (by decide)⟩
    · rw [if_neg hc]
      refine ⟨h.1, h.2.1, fun q => ⟨(h.2.2 q).1, ?_⟩⟩
      unfold ovH
      rw [if_neg (fun z => hc ⟨⟨h0, h1⟩, q, z.2.2.2⟩)]
      exact (h.2.2 q).2
  · unfold ovH at h2
    by_cases hc : ovC n s hw bg L k
    · rw [if_pos hc] at h2; exact absurd h2 (by decide)
    · rw [if_neg hc] at h2
      have h := hO.2 k h0 h1 h2
      have hk := hr k
      unfold ovO
      rw [if_neg (fun z => hc ⟨h0, h1, h2, by have := z.2.2; rw [h, show k + 1 - 1 = k by omega] at this; exact this⟩)]
      exact h
theorem OI_start {c : Int} (hO : OI n wh hw on) (hn : 0 ≤ n) (hc : 0 ≤ c ∧ c < 16) (h0 : on c = 0) : OI (n + 1) (u1 wh n c) (u1 hw n 0) (u1 on c (n + 1)) := by
  refine ⟨fun d d0 d1 => ?_, fun k k0 k1 k2 => ?_⟩
  · have h := hO.1 d d0 d1
    by_cases e : d = c
    · subst e
      rw [u1_s]
      refine ⟨by omega, by omega, fun _ => ?_⟩
      rw [show n + 1 - 1 = n by omega, u1_s, u1_s]
      exact ⟨rfl, rfl⟩
    · rw [u1_n e]
      refine ⟨h.1, by omega, fun q => ?_⟩
      rw [u1_n (by omega), u1_n (by omega)]
      exact h.2.2 q
  · by_cases e : k = n
    · subst e
      rw [u1_s, u1_s]
    · rw [u1_n e] at k2 ⊢
      have h := hO.2 k k0 (by omega) k2
      have e2 : wh k ≠ c := fun z => by rw [z, h0] at h; omega
      rw [u1_n e2]
      exact h
theorem OI_fin {c w : Int} (hO : OI n wh hw on) (hc : 0 ≤ c ∧ c < 16) (h0 : 0 < on c) (hw0 : w ≠ 0) : OI n wh (u1 hw (on c - 1) w) (u1 on c 0) := by
  have hcc := hO.1 c hc.1 hc.2
  refine ⟨fun d d0 d1 => ?_, fun k k0 k1 k2 => ?_⟩
  · have h := hO.1 d d0 d1
    by_cases e : d = c
    · subst e
      rw [u1_s]
      exact ⟨Int.le_refl 0, by omega, fun q => absurd q (by decide)⟩
    · rw [u1_n e]
      refine ⟨h.1, h.2.1, fun q => ⟨(h.2.2 q).1, ?_⟩⟩
      have e2 : on d - 1 ≠ on c - 1 := fun z => e (by rw [← (h.2.2 q).1, z]; exact (hcc.2.2 h0).1)
      rw [u1_n e2]
      exact (h.2.2 q).2
  · by_cases e : k = on c - 1
    · rw [e, u1_s] at k2; exact absurd k2 hw0
    · rw [u1_n e] at k2
      have h := hO.2 k k0 k1 k2
      have e2 : wh k ≠ c := fun z => e (by rw [z] at h; omega)
      rw [u1_n e2]
      exact h
theorem OI_fill (wh hw on : Int → Int) : OI 0 wh hw (gfill on 16 0) := by
  refine ⟨fun c h0 h1 => ?_, fun k h0 h1 => absurd h1 (by omega)⟩
  have e : gfill on 16 0 c = 0 := if_pos ⟨h0, h1⟩
  rw [e]
  exact ⟨Int.le_refl 0, Int.le_refl 0, fun q => absurd q (by decide)⟩
/-- the class goes through the climbers -/
def oxH (x n s : Int) (wh hw bg L : Int → Int) : Int → Int := fun k => if ovC n s hw bg L k ∧ wh k < x then 3 else hw k
def oxE (x n s : Int) (wh hw bg L en : Int → Int) : Int → Int := fun k => if ovC n s hw bg L k ∧ wh k < x then bg k + L k else en k
def oxO (x s : Int) (bg L on : Int → Int) : Int → Int := fun c => if ((0 ≤ c ∧ c < 16) ∧ 0 < on c ∧ bg (on c - 1) + L (on c - 1) ≤ s) ∧ c < x then 0 else on c
theorem oxH_0 (hr : ∀ k, 0 ≤ wh k ∧ wh k ≤ 15) : oxH 0 n s wh hw bg L = hw := funext fun k => if_neg (by intro h; have := hr k; omega)
theorem oxE_0 (hr : ∀ k, 0 ≤ wh k ∧ wh k ≤ 15) : oxE 0 n s wh hw bg L en = en := funext fun k => if_neg (by intro h; have := hr k; omega)
theorem oxO_0 : oxO 0 s bg L on = on := funext fun k => if_neg (by intro h; omega)
theorem oxO_at : oxO x s bg L on x = on x := if_neg (by intro h; omega)
theorem oxH_16 (hr : ∀ k, 0 ≤ wh k ∧ wh k ≤ 15) : oxH 16 n s wh hw bg L = ovH n s hw bg L := by
  funext k
  unfold oxH ovH
  by_cases hc : ovC n s hw bg L k
  · rw [if_pos hc, if_pos ⟨hc, by have := hr k; omega⟩]
  · rw [if_neg hc, if_neg (fun q => hc q.1)]
theorem oxE_16 (hr : ∀ k, 0 ≤ wh k ∧ wh k ≤ 15) : oxE 16 n s wh hw bg L en = ovE n s hw bg L en := by
  funext k
  unfold oxE ovE
  by_cases hc : ovC n s hw bg L k
  · rw [if_pos hc, if_pos ⟨hc, by have := hr k; omega⟩]
  · rw [if_neg hc, if_neg (fun q => hc q.1)]
theorem oxO_16 : oxO 16 s bg L on = ovO s bg L on := by
  funext c
  unfold oxO ovO
  by_cases hc : (0 ≤ c ∧ c < 16) ∧ 0 < on c ∧ bg (on c - 1) + L (on c - 1) ≤ s
  · rw [if_pos hc, if_pos ⟨hc, hc.1.2⟩]
  · rw [if_neg hc, if_neg (fun q => hc q.1)]
theorem oxH_skip (h : ∀ k, ovC n s hw bg L k → wh k ≠ x) : oxH (x + 1) n s wh hw bg L = oxH x n s wh hw bg L := by
  funext k
  unfold oxH
  by_cases hc : ovC n s hw bg L k
  · have := h k hc
    by_cases h2 : wh k < x
    · rw [if_pos ⟨hc, by omega⟩, if_pos ⟨hc, by omega⟩]
    · rw [if_neg (fun q => h2 (by have := q.2; omega)), if_neg (fun q => h2 (by have := q.2; omega))]
  · rw [if_neg (fun q => hc q.1), if_neg (fun q => hc q.1)]
theorem oxE_skip (h : ∀ k, ovC n s hw bg L k → wh k ≠ x) : oxE (x + 1) n s wh hw bg L en = oxE x n s wh hw bg L en := by
  funext k
  unfold oxE
  by_cases hc : ovC n s hw bg L k
  · have := h k hc
    by_cases h2 : wh k < x
    · rw [if_pos ⟨hc, by omega⟩, if_pos ⟨hc, by omega⟩]
    · rw [if_neg (fun q => h2 (by have := q.2; omega)), if_neg (fun q => h2 (by have := q.2; omega))]
  · rw [if_neg (fun q => hc q.1), if_neg (fun q => hc q.1)]
theorem oxO_skip (h : ¬ (0 < on x ∧ bg (on x - 1) + L (on x - 1) ≤ s)) : oxO (x + 1) s bg L on = oxO x s bg L on := by
  funext c
  unfold oxO
  by_cases e : c = x
  · subst e; rw [if_neg (fun q => h q.1.2), if_neg (fun q => h q.1.2)]
  · by_cases hc : ((0 ≤ c ∧ c < 16) ∧ 0 < on c ∧ bg (on c - 1) + L (on c - 1) ≤ s) ∧ c < x
    · rw [if_pos hc, if_pos ⟨hc.1, by omega⟩]
    · rw [if_neg hc, if_neg (fun q => hc ⟨q.1, by omega⟩)]
/-- whose seconds aren't over, or who has none open -/
theorem ox_no (hO : OI n wh hw on) (h : ¬ (0 < on x ∧ bg (on x - 1) + L (on x - 1) ≤ s)) : ∀ k, ovC n s hw bg L k → wh k ≠ x := fun k hc e => by
  have h1 := hO.2 k hc.1 hc.2.1 hc.2.2.1
  rw [e] at h1
  exact h ⟨by omega, by rw [h1, show k + 1 - 1 = k by omega]; exact hc.2.2.2⟩
theorem oxH_hit {j : Int} (hO : OI n wh hw on) (hx : 0 ≤ x ∧ x < 16) (hj : j = on x - 1) (h : 0 < on x ∧ bg j + L j ≤ s) : u1 (oxH x n s wh hw bg L) j 3 = oxH (x + 1) n s wh hw bg L := by
  subst hj
  have h1 := hO.1 x hx.1 hx.2
  have h2 := h1.2.2 h.1
  funext k
  unfold u1 oxH
  by_cases e : k = on x - 1
  · rw [if_pos e, if_pos ⟨⟨by omega, by omega, by rw [e]; exact h2.2, by rw [e]; exact h.2⟩, by rw [e, h2.1]; omega⟩]
  · rw [if_neg e]
    by_cases hc : ovC n s hw bg L k
    · have h3 := hO.2 k hc.1 hc.2.1 hc.2.2.1
      have h4 : wh k ≠ x := fun z => e (by rw [z] at h3; omega)
      by_cases h5 : wh k < x
      · rw [if_pos ⟨hc, h5⟩, if_pos ⟨hc, by omega⟩]
      · rw [if_neg (fun q => h5 q.2), if_neg (fun q => h5 (by have := q.2; omega))]
    · rw [if_neg (fun q => hc q.1), if_neg (fun q => hc q.1)]
theorem oxE_hit {j y : Int} (hO : OI n wh hw on) (hx : 0 ≤ x ∧ x < 16) (hj : j = on x - 1) (h : 0 < on x ∧ bg j + L j ≤ s) (hy : y = bg j + L j) : u1 (oxE x n s wh hw bg L en) j y = oxE (x + 1) n s wh hw bg L en := by
  subst hj
  have h1 := hO.1 x hx.1 hx.2
  have h2 := h1.2.2 h.1
  funext k
  unfold u1 oxE
  by_cases e : k = on x - 1
  · rw [if_pos e, if_pos ⟨⟨by omega, by omega, by rw [e]; exact h2.2, by rw [e]; exact h.2⟩, by rw [e, h2.1]; omega⟩, hy, e]
  · rw [if_neg e]
    by_cases hc : ovC n s hw bg L k
    · have h3 := hO.2 k hc.1 hc.2.1 hc.2.2.1
      have h4 : wh k ≠ x := fun z => e (by rw [z] at h3; omega)
      by_cases h5 : wh k < x
      · rw [if_pos ⟨hc, h5⟩, if_pos ⟨hc, by omega⟩]
      · rw [if_neg (fun q => h5 q.2), if_neg (fun q => h5 (by have := q.2; omega))]
    · rw [if_neg (fun q => hc q.1), if_neg (fun q => hc q.1)]
theorem oxO_hit (hx : 0 ≤ x ∧ x < 16) (h : 0 < on x ∧ bg (on x - 1) + L (on x - 1) ≤ s) : u1 (oxO x s bg L on) x 0 = oxO (x + 1) s bg L on := by
  funext c
  unfold u1 oxO
  by_cases e : c = x
  · rw [if_pos e, if_pos (by rw [e]; exact ⟨⟨hx, h⟩, by omega⟩)]
  · rw [if_neg e]
    by_cases hc : ((0 ≤ c ∧ c < 16) ∧ 0 < on c ∧ bg (on c - 1) + L (on c - 1) ≤ s) ∧ c < x
    · rw [if_pos hc, if_pos ⟨hc.1, by omega⟩]
    · rw [if_neg hc, if_neg (fun q => hc ⟨q.1, by omega⟩)]
end OV
/-! her tries on a route: those that count, those that topped; the last end -/
def pDo (wh rd rt hw : Int → Int) (c r t k : Int) : Bool := decide ((wh k = c ∧ rd k = r ∧ rt k = t) ∧ hw k ≠ 4)
def pTo (wh rd rt hw : Int → Int) (c r t k : Int) : Bool := decide ((wh k = c ∧ rd k = r ∧ rt k = t) ∧ hw k = 1)
def mxE (wh rd en : Int → Int) (c r : Int) : Nat → Int
  | 0 => -1
  | k + 1 => if wh (k : Int) = c ∧ rd (k : Int) = r then (if mxE wh rd en c r k ≤ en (k : Int) then en (k : Int) else mxE wh rd en c r k) else mxE wh rd en c r k
theorem mxE_s {wh rd en : Int → Int} {c r x : Int} (h : 0 ≤ x) : mxE wh rd en c r (x + 1).toNat = if wh x = c ∧ rd x = r then (if mxE wh rd en c r x.toNat ≤ en x then en x else mxE wh rd en c r x.toNat) else mxE wh rd en c r x.toNat := by
  obtain ⟨j, rfl⟩ : ∃ j : Nat, x = (j : Int) := ⟨x.toNat, by omega⟩
  rw [show ((j : Int) + 1).toNat = j + 1 by omega, show ((j : Int)).toNat = j by omega]
  rfl
theorem mxE_r {wh rd en : Int → Int} {c r : Int} (he : ∀ k, (-1) ≤ en k ∧ en k ≤ 1000999) : ∀ m : Nat, (-1) ≤ mxE wh rd en c r m ∧ mxE wh rd en c r m ≤ 1000999
  | 0 => ⟨Int.le_refl _, by show (-1 : Int) ≤ 1000999; decide⟩
  | m + 1 => by
    have h := mxE_r (wh := wh) (rd := rd) (c := c) (r := r) he m
    have h2 := he m
    show (-1) ≤ (if wh (m : Int) = c ∧ rd (m : Int) = r then (if mxE wh rd en c r m ≤ en (m : Int) then en (m : Int) else mxE wh rd en c r m) else mxE wh rd en c r m) ∧ (if wh (m : Int) = c ∧ rd (m : Int) = r then (if mxE wh rd en c r m ≤ en (m : Int) then en (m : Int) else mxE wh rd en c r m) else mxE wh rd en c r m) ≤ 1000999
    repeat' split
    all_goals omega
/-! out while another one had a try there -/
def pOu (wo ci : Int → Int) (tm c fr to i : Int) : Bool := decide (wo (c * 20 + i) ≤ to ∧ fr ≤ (if ci (c * 20 + i) = -1 then tm else ci (c * 20 + i)))
def pSe (wh rd rt bg en wo ci ti : Int → Int) (tm c r t k : Int) : Bool := decide ((rd k = r ∧ rt k = t ∧ wh k ≠ c) ∧ 1 ≤ cn (pOu wo ci tm c (bg k) (if en k = -1 then tm else en k)) (ti c).toNat)
/-! zones that a hold has come to -/
def zU (zo : Int → Int) (b h : Int) : Int := (if 0 < zo (b + 0) ∧ zo (b + 0) ≤ h then 1 else 0) + (if 0 < zo (b + 1) ∧ zo (b + 1) ≤ h then 1 else 0) + (if 0 < zo (b + 2) ∧ zo (b + 2) ≤ h then 1 else 0)
def pOn (on : Int → Int) (c : Int) : Bool := decide (0 < on c)
section OU
variable {wo ci : Int → Int} {tm c fr to x u : Int}
theorem pOu_at (hu : u = (if ci x = -1 then tm else ci x)) : pOu wo ci tm c fr to (x - c * 20) = decide (wo x ≤ to ∧ fr ≤ u) := by
  unfold pOu
  rw [show c * 20 + (x - c * 20) = x by omega, hu]
theorem ou_n (h : cn (pOu wo ci tm c fr to) (x - c * 20).toNat = 0) (h0 : c * 20 ≤ x) (hu : u = (if ci x = -1 then tm else ci x)) (hn : ¬ (wo x ≤ to ∧ fr ≤ u)) : cn (pOu wo ci tm c fr to) (x + 1 - c * 20).toNat = 0 := by
  rw [show x + 1 - c * 20 = (x - c * 20) + 1 by omega, cn_n (by omega) (by rw [pOu_at hu]; exact decide_eq_false hn)]
  exact h
theorem ou_y {t : Int} (h0 : c * 20 ≤ x) (h1 : x < c * 20 + t) (hu : u = (if ci x = -1 then tm else ci x)) (hn : wo x ≤ to ∧ fr ≤ u) : 1 ≤ cn (pOu wo ci tm c fr to) t.toNat :=
  cn_hi (x := x - c * 20) (by omega) (by omega) (by rw [pOu_at hu]; exact decide_eq_true hn)
end OU
/-! who comes to the next round -/
def pLc (la rk : Int → Int) (op mo c : Int) : Bool := decide (la c = op ∧ rk c ≤ mo)
def lcF (la rk : Int → Int) (op mo cl : Int) : Int → Int := fun c => if (0 ≤ c ∧ c < cl) ∧ la c = op ∧ rk c ≤ mo then op + 1 else la c
section LC
variable {la rk : Int → Int} {op mo x : Int}
theorem lcF_0 : lcF la rk op mo 0 = la := funext fun c => if_neg (by intro h; omega)
theorem lcF_at : lcF la rk op mo x x = la x := if_neg (by intro h; omega)
theorem lcF_skip (h : ¬ (la x = op ∧ rk x ≤ mo)) : lcF la rk op mo (x + 1) = lcF la rk op mo x := by
  funext c
  unfold lcF
  by_cases e : c = x
  · subst e; rw [if_neg (fun q => h q.2), if_neg (fun q => h q.2)]
  · by_cases hc : (0 ≤ c ∧ c < x) ∧ la c = op ∧ rk c ≤ mo
    · rw [if_pos hc, if_pos ⟨⟨hc.1.1, by omega⟩, hc.2⟩]
    · rw [if_neg hc, if_neg (fun q => hc ⟨⟨q.1.1, by omega⟩, q.2⟩)]
theorem lcF_hit {y : Int} (h0 : 0 ≤ x) (h : la x = op ∧ rk x ≤ mo) (hy : y = op + 1) : u1 (lcF la rk op mo x) x y = lcF la rk op mo (x + 1) := by
  funext c
  unfold u1 lcF
  by_cases e : c = x
  · subst e; rw [if_pos rfl, if_pos ⟨⟨h0, by omega⟩, h⟩, hy]
  · rw [if_neg e]
    by_cases hc : (0 ≤ c ∧ c < x) ∧ la c = op ∧ rk c ≤ mo
    · rw [if_pos hc, if_pos ⟨⟨hc.1.1, by omega⟩, hc.2⟩]
    · rw [if_neg hc, if_neg (fun q => hc ⟨⟨q.1.1, by omega⟩, q.2⟩)]
end LC
/-! what a round's law tells, by its place -/
def shF (rn : Int) (sh : Int → Int) (r k : Int) : Int := if 0 ≤ r ∧ r < rn then sh (r * 4 + k) else 0
theorem shF_of {rn r z k : Int} {sh : Int → Int} (h : z = (if (0 ≤ r ∧ r < rn) ∧ 0 ≤ k ∧ k < 4 then sh (r * 4 + k) else 0)) (hk : 0 ≤ k ∧ k < 4 := by decide) : z = shF rn sh r k := by
  rw [h]
  unfold shF
  by_cases c : 0 ≤ r ∧ r < rn
  · rw [if_pos ⟨c, hk⟩, if_pos c]
  · rw [if_neg (fun q => c q.1), if_neg c]
theorem shF_r {rn r : Int} {sh : Int → Int} (hs : shOk rn sh) : 0 ≤ shF rn sh r 0 ∧ shF rn sh r 0 ≤ 5 ∧ 0 ≤ shF rn sh r 1 ∧ shF rn sh r 1 ≤ 9 ∧ 0 ≤ shF rn sh r 2 ∧ shF rn sh r 2 ≤ 999 ∧ 0 ≤ shF rn sh r 3 ∧ shF rn sh r 3 ≤ 999 := by
  unfold shF
  by_cases c : 0 ≤ r ∧ r < rn
  · have h := hs r c.1 c.2
    simp only [if_pos c, Int.add_zero]
    omega
  · simp only [if_neg c]
    decide
def rsF (m r : Int) : Int := if m = -1 then 0 else m + r
theorem u3_eq {a : Int → Int} {i j k i' j' k' x y z : Int} (h1 : i = i') (h2 : j = j') (h3 : k = k') : u1 (u1 (u1 a i x) j y) k z = u1 (u1 (u1 a i' x) j' y) k' z := by rw [h1, h2, h3]
/-- the reference's codes, as the class has them -/
def mcF (x : Int) : Int := if x = 0 then 6 else if x ≤ 6 then x - 1 else x
/-! tries and times: begun by now; open ones have no end; ends behind beginnings -/
def TI (n tm : Int) (bg en hw : Int → Int) : Prop := ∀ k, 0 ≤ k → k < n → bg k ≤ tm ∧ (hw k = 0 → en k = -1) ∧ (hw k ≠ 0 → bg k ≤ en k ∧ 0 ≤ en k)
def WI (tm : Int) (wo ci ti : Int → Int) (c : Int) : Prop := ∀ i, 0 ≤ i → i < ti c → wo (c * 20 + i) ≤ tm ∧ (ci (c * 20 + i) ≠ -1 → wo (c * 20 + i) ≤ ci (c * 20 + i))
theorem WI_mono {tm s c : Int} {wo ci ti : Int → Int} (h : WI tm wo ci ti c) (hs : tm ≤ s) : WI s wo ci ti c := fun i h0 h1 => ⟨Int.le_trans (h i h0 h1).1 hs, (h i h0 h1).2⟩
theorem TI_ov {n tm s : Int} {bg en hw L : Int → Int} (h : TI n tm bg en hw) (hs : tm ≤ s) (hb : ∀ k, 0 ≤ bg k) (hL : ∀ k, 0 ≤ L k) : TI n s bg (ovE n s hw bg L en) (ovH n s hw bg L) := fun k h0 h1 => by
  have q := h k h0 h1
  have b := hb k
  have l := hL k
  unfold ovE ovH
  by_cases c : ovC n s hw bg L k
  · rw [if_pos c, if_pos c]
    exact ⟨by omega, fun z => absurd z (by decide), fun _ => ⟨by omega, by omega⟩⟩
  · rw [if_neg c, if_neg c]
    exact ⟨by omega, q.2⟩
