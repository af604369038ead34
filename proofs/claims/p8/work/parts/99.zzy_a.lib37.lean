/-! the relation of both states, in pieces -/
def rSq (rn : Int) (sh ro tr se re : Int → Int) : Prop := ∀ r, 0 ≤ r → r < rn → sh (r * 4) = ro r ∧ sh (r * 4 + 1) = tr r ∧ sh (r * 4 + 2) = se r ∧ sh (r * 4 + 3) = re r
def rCd (m : Int) (it nu pa pn : Int → Int) : Prop := ∀ k, 0 ≤ k → k < m → it k = mcG (pa k) ∧ (it k = 6 → nu k = pn k)
def rKd (m : Int) (kk kd ky up : Int → Int) : Prop := ∀ k, 0 ≤ k → k < m → kk k = ky k ∧ kd k = 1 - up k
def rOp (cl ox om n : Int) : Prop := (0 < cl → ox = om) ∧ (cl = 0 → ox = 0 ∧ om = -1 ∧ n = 0)
def rLa (cl : Int) (la isn : Int → Int) : Prop := ∀ r c, 0 ≤ r → r < 4 → 0 ≤ c → ((c < cl → (isn (16 * r + c) ≠ 0 ↔ r ≤ la c)) ∧ (cl ≤ c → c < 16 → isn (16 * r + c) = 0))
def rLo (cl ox : Int) (la : Int → Int) : Prop := ∀ c, 0 ≤ c → c < cl → la c ≤ ox
def rOm (cl : Int) (la od : Int → Int) : Prop := ∀ r, 0 ≤ r → r < 4 → od r = cn (pIn la r) cl.toNat
def rH0 (n ox : Int) (hw rd : Int → Int) : Prop := ∀ k, 0 ≤ k → k < n → hw k = 0 → rd k = ox
def rCk (n cl : Int) (wh : Int → Int) : Prop := ∀ k, 0 ≤ k → k < n → wh k < cl
def rOr (cl ox rn : Int) : Prop := 0 < cl → 0 ≤ ox ∧ ox < rn
def rWt (cl : Int) (ti ou : Int → Int) : Prop := ∀ c, 0 ≤ c → c < 16 → (c < cl → ti c = ou c) ∧ (cl ≤ c → ti c = 0)
def rWi (cl tm : Int) (wo ci ti : Int → Int) : Prop := ∀ c, 0 ≤ c → c < cl → WI tm wo ci ti c
theorem ite_c {P Q : Prop} {dP : Decidable P} {dQ : Decidable Q} {a a2 b b2 : Int} (h : P ↔ Q) (ha : P → a = a2) (hb : ¬ P → b = b2) : @ite Int P dP a b = @ite Int Q dQ a2 b2 := by
  by_cases hp : P
  · rw [if_pos hp, if_pos (h.mp hp)]; exact ha hp
  · rw [if_neg hp, if_neg (fun q => hp (h.mpr q))]; exact hb hp
section RL
variable {rn cl ox om mn tm s x : Int} {sh ro tr se re la isn od wh rd hw fr en on wo ci ti ou L : Int → Int}
theorem kr_iff {a b : Int} (h : rSq rn sh ro tr se re) : ((0 ≤ a ∧ a < rn) ∧ 0 ≤ b ∧ b < sh (a * 4)) ↔ ((0 ≤ a ∧ a < rn) ∧ 0 ≤ b ∧ b < ro a) :=
  ⟨fun q => ⟨q.1, q.2.1, by have := (h a q.1.1 q.1.2).1; omega⟩, fun q => ⟨q.1, q.2.1, by have := (h a q.1.1 q.1.2).1; omega⟩⟩
theorem sh_k0 (h : rSq rn sh ro tr se re) (hr : 0 ≤ x ∧ x < rn) : shF rn sh x 0 = ro x := by unfold shF; rw [if_pos hr, Int.add_zero]; exact (h x hr.1 hr.2).1
theorem sh_k1 (h : rSq rn sh ro tr se re) (hr : 0 ≤ x ∧ x < rn) : shF rn sh x 1 = tr x := by unfold shF; rw [if_pos hr]; exact (h x hr.1 hr.2).2.1
theorem sh_k2 (h : rSq rn sh ro tr se re) (hr : 0 ≤ x ∧ x < rn) : shF rn sh x 2 = se x := by unfold shF; rw [if_pos hr]; exact (h x hr.1 hr.2).2.2.1
theorem sh_k3 (h : rSq rn sh ro tr se re) (hr : 0 ≤ x ∧ x < rn) : shF rn sh x 3 = re x := by unfold shF; rw [if_pos hr]; exact (h x hr.1 hr.2).2.2.2
theorem ps_0 (h : (if s < 0 ∨ 1000000 < s then (2 : Int) else if s < tm then 9 else 0) = 0) : (0 ≤ s ∧ s ≤ 1000000) ∧ tm ≤ s := by
  by_cases h1 : s < 0 ∨ 1000000 < s
  · rw [if_pos h1] at h; omega
  · rw [if_neg h1] at h
    by_cases h2 : s < tm
    · rw [if_pos h2] at h; omega
    · omega
theorem ps_v (s tm : Int) : (if s < 0 ∨ 1000000 < s then (2 : Int) else if s < tm then 9 else 0) = 2 ∨ (if s < 0 ∨ 1000000 < s then (2 : Int) else if s < tm then 9 else 0) = 9 ∨ (if s < 0 ∨ 1000000 < s then (2 : Int) else if s < tm then 9 else 0) = 0 := by
  by_cases h1 : s < 0 ∨ 1000000 < s
  · rw [if_pos h1]; exact Or.inl rfl
  · rw [if_neg h1]
    by_cases h2 : s < tm
    · rw [if_pos h2]; exact Or.inr (Or.inl rfl)
    · rw [if_neg h2]; exact Or.inr (Or.inr rfl)
theorem np3 {B : Prop} {d : Decidable (¬ B)} {w R : Int} (h : w = @ite Int (¬ B) d 1 (if (if s < 0 ∨ 1000000 < s then (2 : Int) else if s < tm then 9 else 0) ≠ 0 then (if s < 0 ∨ 1000000 < s then (2 : Int) else if s < tm then 9 else 0) else R)) (hn : ¬ (w = 1 ∨ w = 2 ∨ w = 9)) : B ∧ ((0 ≤ s ∧ s ≤ 1000000) ∧ tm ≤ s) ∧ w = R := by
  by_cases hB : B
  · rw [if_neg (fun q => q hB)] at h
    by_cases hp : (if s < 0 ∨ 1000000 < s then (2 : Int) else if s < tm then 9 else 0) = 0
    · rw [if_neg (fun q => q hp)] at h
      exact ⟨hB, ps_0 hp, h⟩
    · rw [if_pos hp] at h
      exfalso
      rcases ps_v s tm with q | q | q
      · exact hn (Or.inr (Or.inl (h.trans q)))
      · exact hn (Or.inr (Or.inr (h.trans q)))
      · exact hp q
  · rw [if_pos hB] at h; exact absurd (Or.inl h) hn
theorem np4 {B C : Prop} {d : Decidable (¬ B)} {d2 : Decidable C} {w R : Int} (h : w = @ite Int (¬ B) d 1 (@ite Int C d2 2 (if (if s < 0 ∨ 1000000 < s then (2 : Int) else if s < tm then 9 else 0) ≠ 0 then (if s < 0 ∨ 1000000 < s then (2 : Int) else if s < tm then 9 else 0) else R))) (hn : ¬ (w = 1 ∨ w = 2 ∨ w = 9)) : B ∧ ((0 ≤ s ∧ s ≤ 1000000) ∧ tm ≤ s) ∧ w = R := by
  by_cases hC : C
  · rw [if_pos hC] at h
    by_cases hB : B
    · rw [if_neg (fun q => q hB)] at h; exact absurd (Or.inr (Or.inl h)) hn
    · rw [if_pos hB] at h; exact absurd (Or.inl h) hn
  · rw [if_neg hC] at h; exact np3 h hn
theorem ch5 {A O : Prop} {dA : Decidable A} {dO : Decidable O} {w a b R : Int} (h : w = @ite Int A dA a (@ite Int O dO b R)) (hw : w = 0) (ha : a ≠ 0) (hb : b ≠ 0) : ¬ A ∧ ¬ O := by
  by_cases hA : A
  · rw [if_pos hA] at h; omega
  · rw [if_neg hA] at h
    by_cases hO : O
    · rw [if_pos hO] at h; omega
    · exact ⟨hA, hO⟩
theorem ch1 {O : Prop} {dO : Decidable O} {w b R : Int} (h : w = @ite Int O dO b R) (hw : w = 0) (hb : b ≠ 0) : ¬ O ∧ w = R := by
  by_cases hO : O
  · rw [if_pos hO] at h; omega
  · rw [if_neg hO] at h; exact ⟨hO, h⟩
theorem rlL (ho : rOp cl ox om mn) (h0 : rH0 mn ox hw rd) (hr : rOr cl ox rn) (hq : rSq rn sh ro tr se re) (hcl : 0 ≤ cl) : ∀ k, 0 ≤ k → k < mn → hw k = 0 → shF rn sh ox 2 = se (rd k) := fun k k0 k1 hk => by
  by_cases hc : cl = 0
  · have := (ho.2 hc).2.2; omega
  · rw [h0 k k0 k1 hk]; exact sh_k2 hq (hr (by omega))
theorem pH (h : ∀ k, 0 ≤ k → k < mn → hw k = 0 → x = se (rd k)) : ovH mn s hw fr (fun _ => x) = ovH mn s hw fr (fun k => se (rd k)) := ovH_L h
theorem pE (h : ∀ k, 0 ≤ k → k < mn → hw k = 0 → x = se (rd k)) : ovE mn s hw fr (fun _ => x) en = ovE mn s hw fr (fun k => se (rd k)) en := ovE_L h
theorem pO (hO : OI mn wh hw on) (h : ∀ k, 0 ≤ k → k < mn → hw k = 0 → x = se (rd k)) : ovO s fr (fun _ => x) on = ovO s fr (fun k => se (rd k)) on := ovO_L hO h
theorem ovH_z {k : Int} (h : ovH mn s hw fr L k = 0) : hw k = 0 := by
  unfold ovH at h
  split at h
  · exact absurd h (by decide)
  · exact h
theorem H0_ov (h : rH0 mn ox hw rd) : rH0 mn ox (ovH mn s hw fr L) rd := fun k k0 k1 hk => h k k0 k1 (ovH_z hk)
theorem Wi_mono (h : rWi cl tm wo ci ti) (hs : tm ≤ s) : rWi cl s wo ci ti := fun c c0 c1 => WI_mono (h c c0 c1) hs
theorem WI_ti {c : Int} (h : WI tm wo ci ti c) (e : ti c = ou c) : WI tm wo ci ou c := fun i i0 i1 => h i i0 (by omega)
theorem pSe_ti {rt : Int → Int} {c r t : Int} (e : ti c = ou c) : pSe wh rd rt fr en wo ci ti tm c r t = pSe wh rd rt fr en wo ci ou tm c r t := by
  funext k; unfold pSe; rw [e]
theorem TI_start (h : TI mn s fr en hw) : TI (mn + 1) s (u1 fr mn s) (u1 en mn (-1)) (u1 hw mn 0) := fun k k0 k1 => by
  by_cases e : k = mn
  · subst e; rw [u1_s, u1_s, u1_s]; exact ⟨Int.le_refl _, fun _ => rfl, fun q => absurd rfl q⟩
  · rw [u1_n e, u1_n e, u1_n e]; exact h k k0 (by omega)
theorem H0_start (h : rH0 mn ox hw rd) : rH0 (mn + 1) ox (u1 hw mn 0) (u1 rd mn ox) := fun k k0 k1 hk => by
  by_cases e : k = mn
  · subst e; exact u1_s
  · rw [u1_n e] at hk ⊢; exact h k k0 (by omega) hk
theorem Ck_start {c : Int} (h : rCk mn cl wh) (hc : c < cl) : rCk (mn + 1) cl (u1 wh mn c) := fun k k0 k1 => by
  by_cases e : k = mn
  · subst e; rw [u1_s]; exact hc
  · rw [u1_n e]; exact h k k0 (by omega)
theorem TI_fin {j v : Int} (h : TI mn s fr en hw) (hv : v ≠ 0) (hs : 0 ≤ s) : TI mn s fr (u1 en j s) (u1 hw j v) := fun k k0 k1 => by
  by_cases e : k = j
  · subst e; rw [u1_s, u1_s]; exact ⟨(h k k0 k1).1, fun q => absurd q hv, fun _ => ⟨(h k k0 k1).1, hs⟩⟩
  · rw [u1_n e, u1_n e]; exact h k k0 k1
theorem H0_fin {j v : Int} (h : rH0 mn ox hw rd) (hv : v ≠ 0) : rH0 mn ox (u1 hw j v) rd := fun k k0 k1 hk => by
  by_cases e : k = j
  · subst e; rw [u1_s] at hk; exact absurd hk hv
  · rw [u1_n e] at hk; exact h k k0 k1 hk
theorem in_iff {a : Int} (h : rLa cl la isn) (hx : 0 ≤ x ∧ x < 4) (ha : 0 ≤ a ∧ a < cl) : (x ≤ la a) ↔ isn (16 * x + a) ≠ 0 := ((h x a hx.1 hx.2 ha.1).1 ha.2).symm
theorem inr_iff {a b : Int} (h : rLa cl la isn) (hr : rn ≤ 4) : ((0 ≤ a ∧ a < rn) ∧ (0 ≤ b ∧ b < cl) ∧ a ≤ la b) ↔ ((0 ≤ a ∧ a < rn) ∧ (0 ≤ b ∧ b < cl) ∧ isn (16 * a + b) ≠ 0) :=
  ⟨fun q => ⟨q.1, q.2.1, (in_iff h ⟨q.1.1, by omega⟩ q.2.1).mp q.2.2⟩, fun q => ⟨q.1, q.2.1, (in_iff h ⟨q.1.1, by omega⟩ q.2.1).mpr q.2.2⟩⟩
theorem cn_cut {p : Int → Bool} {a b : Int} (h0 : 0 ≤ a) (h1 : a ≤ b) (h : ∀ j, a ≤ j → j < b → p j = false) : cn p b.toNat = cn p a.toNat := by
  obtain ⟨d, rfl⟩ : ∃ d : Nat, b = a + (d : Int) := ⟨(b - a).toNat, by omega⟩
  clear h1
  induction d with
  | zero => congr 2; omega
  | succ d ih =>
    rw [show a + ((d + 1 : Nat) : Int) = (a + (d : Int)) + 1 by omega, cn_n (by omega) (h _ (by omega) (by omega))]
    exact ih (fun j j0 j1 => h j j0 (by omega))
theorem cn_full {p : Int → Bool} {a : Int} (h0 : 0 ≤ a) (h : ∀ j, 0 ≤ j → j < a → p j = true) : cn p a.toNat = a := by
  obtain ⟨d, rfl⟩ : ∃ d : Nat, a = (d : Int) := ⟨a.toNat, by omega⟩
  clear h0
  induction d with
  | zero => rfl
  | succ d ih =>
    rw [show ((d + 1 : Nat) : Int) = (d : Int) + 1 by omega, cn_y (by omega) (h _ (by omega) (by omega)), ih (fun j j0 j1 => h j j0 (by omega))]
theorem on_tail {c : Int} (hO : OI mn wh hw on) (hk : rCk mn cl wh) (h0 : 0 ≤ c ∧ c < 16) (hc : cl ≤ c) : on c = 0 := by
  have h1 := hO.1 c h0.1 h0.2
  by_cases q : 0 < on c
  · have h2 := h1.2.2 q
    have h3 := hk (on c - 1) (by omega) (by omega)
    omega
  · omega
theorem on_cnt (hO : OI mn wh hw on) (hk : rCk mn cl wh) (hc : 0 ≤ cl ∧ cl ≤ 16) : cn (pOn on) (16 : Int).toNat = cn (pOn on) cl.toNat :=
  cn_cut hc.1 hc.2 (fun j j0 j1 => decide_eq_false (by rw [on_tail hO hk ⟨by omega, j1⟩ j0]; omega))
theorem on_none (hO : OI mn wh hw on) (hr : ∀ k, 0 ≤ wh k ∧ wh k ≤ 15) (h : ¬ 1 ≤ cn (pOn on) (16 : Int).toNat) {k : Int} (k0 : 0 ≤ k) (k1 : k < mn) : hw k ≠ 0 := fun q => by
  have h1 := hO.2 k k0 k1 q
  exact h (cn_hi (x := wh k) (hr k).1 (by have := (hr k).2; omega) (decide_eq_true (by omega)))
end RL
theorem kV_ev {it nu it2 nu2 : Int → Int} {m m2 R kd r c : Int} {F : Int → Int → Int → Int → Int} (h : ∀ fa, evR it nu fa m = evR it2 nu2 fa m2) : kV it nu m F R kd r c = kV it2 nu2 m2 F R kd r c := by
  unfold kV
  simp only [h]
theorem pt_ev {it nu it2 nu2 : Int → Int} {m m2 : Int} {g : Int → Int → Int → Int} (h : ∀ fa, evR it nu fa m = evR it2 nu2 fa m2) : (fun c t => evR it nu (g c t) m) = (fun c t => evR it2 nu2 (g c t) m2) := by
  funext c t
  exact h _
