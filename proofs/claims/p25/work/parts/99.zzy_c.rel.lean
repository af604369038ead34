section
/-! the relation of both states, in pieces -/
def rSq (rn : Int) (sh ro tr se re : Int → Int) : Prop := ∀ r, 0 ≤ r → r < rn → sh (r * 4) = ro r ∧ sh (r * 4 + 1) = tr r ∧ sh (r * 4 + 2) = se r ∧ sh (r * 4 + 3) = re r
def rCd (m : Int) (it nu pa pn : Int → Int) : Prop := ∀ k, 0 ≤ k → k < m → it k = mcG (pa k) ∧ (it k = 6 → nu k = pn k)
def rKd (m : Int) (kk kd ky up : Int → Int) : Prop := ∀ k, 0 ≤ k → k < m → kk k = ky k ∧ kd k = 1 - up k
def rOp (cl ox om n : Int) : Prop := (0 < cl → ox = om) ∧ (cl = 0 → ox = 0 ∧ om = -1 ∧ n = 0)
def rLa (cl : Int) (la isn : Int → Int) : Prop := ∀ r c, 0 ≤ r → r < 4 → 0 ≤ c → ((c < cl → (isn (16 * r + c) ≠ 0 ↔ r ≤ la c)) ∧ (cl ≤ c → c < 16 → isn (16 * r + c) = 0))
def rLo (cl ox : Int) (la : Int → Int) : Prop := ∀ c, 0 ≤ c → c < cl → la c ≤ ox
def rOm (cl : Int) (la od : Int → Int) : Prop := ∀ r, 0 ≤ r → r < 4 → od r = cn (pIn la r) cl.toNat
def rH0 (n ox : Int) (hw rd : Int → Int) : Prop := ∀ k, 0 ≤ k → k < n → hw k = 0 → rd k = ox
def rCk (n cl : Int) (wh : Int → Int) : Prop := ∀ k, 0 ≤ k → k < n → wh k < cl
def rOr (cl ox rn : Int) : Prop := 0 < cl → 0 ≤ ox ∧ ox < rn
def rWt (cl : Int) (ti ou : Int → Int) : Prop := ∀ c, 0 ≤ c → c < 16 → (c < cl → ti c = ou c) ∧ (cl ≤ c → ti c = 0)
def rWi (cl tm : Int) (wo ci ti : Int → Int) : Prop := ∀ c, 0 ≤ c → c < cl → WI tm wo ci ti c
theorem ite_c {P Q : Prop} {dP : Decidable P} {dQ : Decidable Q} {a a2 b b2 : Int} (h : P ↔ Q) (ha : P → a = a2) (hb : ¬ P → b = b2) : @ite Int P dP a b = @ite Int Q dQ a2 b2 := by
  by_cases hp : P
  · rw [if_pos hp, if_pos (h.mp hp)]; exact ha hp
  · rw [if_neg hp, if_neg (fun q => hp (h.mpr q))]; exact hb hp
section RL
variable {rn cl ox om mn tm s x : Int} {sh ro tr se re la isn od wh rd hw fr en on wo ci ti ou L : Int → Int}
theorem kr_iff {a b : Int} (h : rSq rn sh ro tr se re) : ((0 ≤ a ∧ a < rn) ∧ 0 ≤ b ∧ b < sh (a * 4)) ↔ ((0 ≤ a ∧ a < rn) ∧ 0 ≤ b ∧ b < ro a) :=
  ⟨fun q => ⟨q.1, q.2.1, by have := (h a q.1.1 q.1.2).1; omega⟩, fun q => ⟨q.1, q.2.1, by have := (h a q.1.1 q.1.2).1; omega⟩⟩
theorem sh_k0 (h : rSq rn sh ro tr se re) (hr : 0 ≤ x ∧ x < rn) : shF rn sh x 0 = ro x := by unfold shF; rw [if_pos hr, Int.add_zero]; exact (h x hr.1 hr.2).1
theorem sh_k1 (h : rSq rn sh ro tr se re) (hr : 0 ≤ x ∧ x < rn) : shF rn sh x 1 = tr x := by unfold shF; rw [if_pos hr]; exact (h x hr.1 hr.2).2.1
theorem sh_k2 (h : rSq rn sh ro tr se re) (hr : 0 ≤ x ∧ x < rn) : shF rn sh x 2 = se x := by unfold shF; rw [if_pos hr]; exact (h x hr.1 hr.2).2.2.1
theorem sh_k3 (h : rSq rn sh ro tr se re) (hr : 0 ≤ x ∧ x < rn) : shF rn sh x 3 = re x := by unfold shF; rw [if_pos hr]; exact (h x hr.1 hr.2).2.2.2
theorem ps_0 (h : (if s < 0 ∨ 1000000 < s then (2 : Int) else if s < tm then 9 else 0) = 0) : (0 ≤ s ∧ s ≤ 1000000) ∧ tm ≤ s := by
  by_cases h1 : s < 0 ∨ 1000000 < s
  · rw [if_pos h1] at h; omega
  · rw [if_neg h1] at h
    by_cases h2 : s < tm
    · rw [if_pos h2] at h; omega
    · omega
theorem ps_v (s tm : Int) : (if s < 0 ∨ 1000000 < s then (2 : Int) else if s < tm then 9 else 0) = 2 ∨ (if s < 0 ∨ 1000000 < s then (2 : Int) else if s < tm then 9 else 0) = 9 ∨ (if s < 0 ∨ 1000000 < s then (2 : Int) else if s < tm then 9 else 0) = 0 := by
  by_cases h1 : s < 0 ∨ 1000000 < s
  · rw [if_pos h1]; exact Or.inl rfl
  · rw [if_neg h1]
    by_cases h2 : s < tm
    · rw [if_pos h2]; exact Or.inr (Or.inl rfl)
    · rw [if_neg h2]; exact Or.inr (Or.inr rfl)
theorem np3 {B : Prop} {d : Decidable (¬ B)} {w R : Int} (h : w = @ite Int (¬ B) d 1 (if (if s < 0 ∨ 1000000 < s then (2 : Int) else if s < tm then 9 else 0) ≠ 0 then (if s < 0 ∨ 1000000 < s then (2 : Int) else if s < tm then 9 else 0) else R)) (hn : ¬ (w = 1 ∨ w = 2 ∨ w = 9)) : B ∧ ((0 ≤ s ∧ s ≤ 1000000) ∧ tm ≤ s) ∧ w = R := by
  by_cases hB : B
  · rw [if_neg (fun q => q hB)] at h
    by_cases hp : (if s < 0 ∨ 1000000 < s then (2 : Int) else if s < tm then 9 else 0) = 0
    · rw [if_neg (fun q => q hp)] at h
      exact ⟨hB, ps_0 hp, h⟩
    · rw [if_pos hp] at h
      exfalso
      rcases ps_v s tm with q | q | q
      · exact hn (Or.inr (Or.inl (h.trans q)))
      · exact hn (Or.inr (Or.inr (h.trans q)))
      · exact hp q
  · rw [if_pos hB] at h; exact absurd (Or.inl h) hn
theorem np4 {B C : Prop} {d : Decidable (¬ B)} {d2 : Decidable C} {w R : Int} (h : w = @ite Int (¬ B) d 1 (@ite Int C d2 2 (if (if s < 0 ∨ 1000000 < s then (2 : Int) else if s < tm then 9 else 0) ≠ 0 then (if s < 0 ∨ 1000000 < s then (2 : Int) else if s < tm then 9 else 0) else R))) (hn : ¬ (w = 1 ∨ w = 2 ∨ w = 9)) : B ∧ ((0 ≤ s ∧ s ≤ 1000000) ∧ tm ≤ s) ∧ w = R := by
  by_cases hC : C
  · rw [if_pos hC] at h
    by_cases hB : B
    · rw [if_neg (fun q => q hB)] at h; exact absurd (Or.inr (Or.inl h)) hn
    · rw [if_pos hB] at h; exact absurd (Or.inl h) hn
  · rw [if_neg hC] at h; exact np3 h hn
theorem ch5 {A O : Prop} {dA : Decidable A} {dO : Decidable O} {w a b R : Int} (h : w = @ite Int A dA a (@ite Int O dO b R)) (hw : w = 0) (ha : a ≠ 0) (hb : b ≠ 0) : ¬ A ∧ ¬ O := by
  by_cases hA : A
  · rw [if_pos hA] at h; omega
  · rw [if_neg hA] at h
    by_cases hO : O
    · rw [if_pos hO] at h; omega
    · exact ⟨hA, hO⟩
theorem ch1 {O : Prop} {dO : Decidable O} {w b R : Int} (h : w = @ite Int O dO b R) (hw : w = 0) (hb : b ≠ 0) : ¬ O ∧ w = R := by
  by_cases hO : O
  · rw [if_pos hO] at h; omega
  · rw [if_neg hO] at h; exact ⟨hO, h⟩
theorem rlL (ho : rOp cl ox om mn) (h0 : rH0 mn ox hw rd) (hr : rOr cl ox rn) (hq : rSq rn sh ro tr se re) (hcl : 0 ≤ cl) : ∀ k, 0 ≤ k → k < mn → hw k = 0 → shF rn sh ox 2 = se (rd k) := fun k k0 k1 hk => by
  by_cases hc : cl = 0
  · have := (ho.2 hc).2.2; omega
  · rw [h0 k k0 k1 hk]; exact sh_k2 hq (hr (by omega))
theorem pH (h : ∀ k, 0 ≤ k → k < mn → hw k = 0 → x = se (rd k)) : ovH mn s hw fr (fun _ => x) = ovH mn s hw fr (fun k => se (rd k)) := ovH_L h
theorem pE (h : ∀ k, 0 ≤ k → k < mn → hw k = 0 → x = se (rd k)) : ovE mn s hw fr (fun _ => x) en = ovE mn s hw fr (fun k => se (rd k)) en := ovE_L h
theorem pO (hO : OI mn wh hw on) (h : ∀ k, 0 ≤ k → k < mn → hw k = 0 → x = se (rd k)) : ovO s fr (fun _ => x) on = ovO s fr (fun k => se (rd k)) on := ovO_L hO h
theorem ovH_z {k : Int} (h : ovH mn s hw fr L k = 0) : hw k = 0 := by
  unfold ovH at h
  split at h
  · exact absurd h (by decide)
  · exact h
theorem H0_ov (h : rH0 mn ox hw rd) : rH0 mn ox (ovH mn s hw fr L) rd := fun k k0 k1 hk => h k k0 k1 (ovH_z hk)
theorem Wi_mono (h : rWi cl tm wo ci ti) (hs : tm ≤ s) : rWi cl s wo ci ti := fun c c0 c1 => WI_mono (h c c0 c1) hs
theorem WI_ti {c : Int} (h : WI tm wo ci ti c) (e : ti c = ou c) : WI tm wo ci ou c := fun i i0 i1 => h i i0 (by omega)
theorem pSe_ti {rt : Int → Int} {c r t : Int} (e : ti c = ou c) : pSe wh rd rt fr en wo ci ti tm c r t = pSe wh rd rt fr en wo ci ou tm c r t := by
  funext k; unfold pSe; rw [e]
theorem TI_start (h : TI mn s fr en hw) : TI (mn + 1) s (u1 fr mn s) (u1 en mn (-1)) (u1 hw mn 0) := fun k k0 k1 => by
  by_cases e : k = mn
  · subst e; rw [u1_s, u1_s, u1_s]; exact ⟨Int.le_refl _, fun _ => rfl, fun q => absurd rfl q⟩
  · rw [u1_n e, u1_n e, u1_n e]; exact h k k0 (by omega)
theorem H0_start (h : rH0 mn ox hw rd) : rH0 (mn + 1) ox (u1 hw mn 0) (u1 rd mn ox) := fun k k0 k1 hk => by
  by_cases e : k = mn
  · subst e; exact u1_s
  · rw [u1_n e] at hk ⊢; exact h k k0 (by omega) hk
theorem Ck_start {c : Int} (h : rCk mn cl wh) (hc : c < cl) : rCk (mn + 1) cl (u1 wh mn c) := fun k k0 k1 => by
  by_cases e : k = mn
  · subst e; rw [u1_s]; exact hc
  · rw [u1_n e]; exact h k k0 (by omega)
theorem TI_fin {j v : Int} (h : TI mn s fr en hw) (hv : v ≠ 0) (hs : 0 ≤ s) : TI mn s fr (u1 en j s) (u1 hw j v) := fun k k0 k1 => by
  by_cases e : k = j
  · subst e; rw [u1_s, u1_s]; exact ⟨(h k k0 k1).1, fun q => absurd q hv, fun _ => ⟨(h k k0 k1).1, hs⟩⟩
  · rw [u1_n e, u1_n e]; exact h k k0 k1
theorem H0_fin {j v : Int} (h : rH0 mn ox hw rd) (hv : v ≠ 0) : rH0 mn ox (u1 hw j v) rd := fun k k0 k1 hk => by
  by_cases e : k = j
  · subst e; rw [u1_s] at hk; exact absurd hk hv
  · rw [u1_n e] at hk; exact h k k0 k1 hk
theorem in_iff {a : Int} (h : rLa cl la isn) (hx : 0 ≤ x ∧ x < 4) (ha : 0 ≤ a ∧ a < cl) : (x ≤ la a) ↔ isn (16 * x + a) ≠ 0 := ((h x a hx.1 hx.2 ha.1).1 ha.2).symm
theorem inr_iff {a b : Int} (h : rLa cl la isn) (hr : rn ≤ 4) : ((0 ≤ a ∧ a < rn) ∧ (0 ≤ b ∧ b < cl) ∧ a ≤ la b) ↔ ((0 ≤ a ∧ a < rn) ∧ (0 ≤ b ∧ b < cl) ∧ isn (16 * a + b) ≠ 0) :=
  ⟨fun q => ⟨q.1, q.2.1, (in_iff h ⟨q.1.1, by omega⟩ q.2.1).mp q.2.2⟩, fun q => ⟨q.1, q.2.1, (in_iff h ⟨q.1.1, by omega⟩ q.2.1).mpr q.2.2⟩⟩
theorem cn_cut {p : Int → Bool} {a b : Int} (h0 : 0 ≤ a) (h1 : a ≤ b) (h : ∀ j, a ≤ j → j < b → p j = false) : cn p b.toNat = cn p a.toNat := by
  obtain ⟨d, rfl⟩ : ∃ d : Nat, b = a + (d : Int) := ⟨(b - a).toNat, by omega⟩
  clear h1
  induction d with
  | zero => congr 2; omega
  | succ d ih =>
    rw [show a + ((d + 1 : Nat) : Int) = (a + (d : Int)) + 1 by omega, cn_n (by omega) (h _ (by omega) (by omega))]
    exact ih (fun j j0 j1 => h j j0 (by omega))
theorem cn_full {p : Int → Bool} {a : Int} (h0 : 0 ≤ a) (h : ∀ j, 0 ≤ j → j < a → p j = true) : cn p a.toNat = a := by
  obtain ⟨d, rfl⟩ : ∃ d : Nat, a = (d : Int) := ⟨a.toNat, by omega⟩
  clear h0
  induction d with
  | zero => rfl
  | succ d ih =>
    rw [show ((d + 1 : Nat) : Int) = (d : Int) + 1 by omega, cn_y (by omega) (h _ (by omega) (by omega)), ih (fun j j0 j1 => h j j0 (by omega))]
theorem on_tail {c : Int} (hO : OI mn wh hw on) (hk : rCk mn cl wh) (h0 : 0 ≤ c ∧ c < 16) (hc : cl ≤ c) : on c = 0 := by
  have h1 := hO.1 c h0.1 h0.2
  by_cases q : 0 < on c
  · have h2 := h1.2.2 q
    have h3 := hk (on c - 1) (by omega) (by omega)
    omega
  · omega
theorem on_cnt (hO : OI mn wh hw on) (hk : rCk mn cl wh) (hc : 0 ≤ cl ∧ cl ≤ 16) : cn (pOn on) (16 : Int).toNat = cn (pOn on) cl.toNat :=
  cn_cut hc.1 hc.2 (fun j j0 j1 => decide_eq_false (by rw [on_tail hO hk ⟨by omega, j1⟩ j0]; omega))
theorem on_none (hO : OI mn wh hw on) (hr : ∀ k, 0 ≤ wh k ∧ wh k ≤ 15) (h : ¬ 1 ≤ cn (pOn on) (16 : Int).toNat) {k : Int} (k0 : 0 ≤ k) (k1 : k < mn) : hw k ≠ 0 := fun q => by
  have h1 := hO.2 k k0 k1 q
  exact h (cn_hi (x := wh k) (hr k).1 (by have := (hr k).2; omega) (decide_eq_true (by omega)))
end RL
theorem kV_ev {it nu it2 nu2 : Int → Int} {m m2 R kd r c : Int} {F : Int → Int → Int → Int → Int} (h : ∀ fa, evR it nu fa m = evR it2 nu2 fa m2) : kV it nu m F R kd r c = kV it2 nu2 m2 F R kd r c := by
  unfold kV
  simp only [h]
theorem pt_ev {it nu it2 nu2 : Int → Int} {m m2 : Int} {g : Int → Int → Int → Int} (h : ∀ fa, evR it nu fa m = evR it2 nu2 fa m2) : (fun c t => evR it nu (g c t) m) = (fun c t => evR it2 nu2 (g c t) m2) := by
  funext c t
  exact h _
end

section
theorem lwT {a w t u : Int} (h : (0 ≤ a ∧ a ≤ t → w = 0) ∧ (¬ (0 ≤ a ∧ a ≤ t) → w = t)) (e : t = u) : w = (if 0 ≤ a ∧ a ≤ u then 0 else u) := by
  subst e
  split
  · exact h.1 (by assumption)
  · exact h.2 (by assumption)
theorem lwR {a t u R1 R2 R3 kx px zx km pm zm k0 p0 k1 p1 : Int} (et : t = u) (ek : k0 = k1) (ep : p0 = p1) (hx : (0 ≤ a ∧ a ≤ t) → kx = R1 ∧ (R1 = 0 → px = (-1) ∧ zx = R3) ∧ (R1 ≠ 0 → px = R2 ∧ zx = (-1))) (hx' : ¬ (0 ≤ a ∧ a ≤ t) → kx = k0 ∧ px = p0 ∧ zx = (-1)) (hm : (0 ≤ a ∧ a ≤ u) → km = R1 ∧ (R1 = 0 → pm = (-1) ∧ zm = R3) ∧ (R1 ≠ 0 → pm = R2 ∧ zm = (-1))) (hm' : ¬ (0 ≤ a ∧ a ≤ u) → km = k1 ∧ pm = p1 ∧ zm = (-1)) : kx = km ∧ px = pm ∧ zx = zm := by
  subst et ek ep
  by_cases hc : 0 ≤ a ∧ a ≤ t
  · have h1 := hx hc
    have h2 := hm hc
    by_cases hr : R1 = 0
    · have h3 := h1.2.1 hr
      have h4 := h2.2.1 hr
      exact ⟨h1.1.trans h2.1.symm, h3.1.trans h4.1.symm, h3.2.trans h4.2.symm⟩
    · have h3 := h1.2.2 hr
      have h4 := h2.2.2 hr
      exact ⟨h1.1.trans h2.1.symm, h3.1.trans h4.1.symm, h3.2.trans h4.2.symm⟩
  · have h1 := hx' hc
    have h2 := hm' hc
    exact ⟨h1.1.trans h2.1.symm, h1.2.1.trans h2.2.1.symm, h1.2.2.trans h2.2.2.symm⟩
theorem lwF {t u : Int} (e : t = u) : (if t ≤ 680 then t + 20 else t) = (if u ≤ 680 then u + 20 else u) := by rw [e]
theorem ky_rel {B : Int → Int} {n p m m2 : Int} {kk kd ky up : Int → Int} (h : kyOk B n p kk kd m) (h2 : kyOm B n p ky up m2) : m = m2 ∧ rKd m kk kd ky up := by
  by_cases hp : p = -1
  · obtain ⟨a1, a2, a3⟩ := h.1 hp
    obtain ⟨b1, b2, b3⟩ := h2.1 hp
    refine ⟨a1.trans b1.symm, fun k k0 k1 => ?_⟩
    have e : k = 0 := by omega
    subst e
    rw [a2, a3, b2, b3]
    exact ⟨rfl, rfl⟩
  · obtain ⟨a1, a2⟩ := h.2 hp
    obtain ⟨b1, b2⟩ := h2.2 hp
    refine ⟨a1.trans b1.symm, fun k k0 k1 => ?_⟩
    have h3 := a2 k k0 k1
    have h4 := b2 k k0 (by omega)
    rw [h3.1, h3.2, h4.1, h4.2]
    refine ⟨rfl, ?_⟩
    split <;> rfl
end

section
set_option maxHeartbeats 4000000 in
theorem rl_clock {ap ap2 bk bk2 cl cl2 fk fk2 fp fp2 it it2 ks ks2 mn mn2 om ox rn rn2 st st2 tm tm2 tp tp2 z w z2 w2 a1 : Int} {ad ad2 ah ah2 an an2 be be2 ci ci2 en en2 fr fr2 ho ho2 hs hs2 hw hw2 isn itm kd kk ky la nu od on ou pa pn rd rd2 re ro rt rt2 se sh ta ta2 ti tr up wh wh2 wo wo2 zo zo2 : Int → Int} (k_st : st = st2) (k_tm : tm = tm2) (k_rn : rn = rn2) (k_it : it = it2) (k_ks : ks = ks2) (k_bk : bk = bk2) (k_cl : cl = cl2) (k_mn : mn = mn2) (k_ap : ap = ap2) (k_hs : hs = hs2) (k_be : be = be2) (k_zo : zo = zo2) (k_wh : wh = wh2) (k_rd : rd = rd2) (k_rt : rt = rt2) (k_fr : fr = fr2) (k_en : en = en2) (k_ho : ho = ho2) (k_hw : hw = hw2) (k_wo : wo = wo2) (k_ci : ci = ci2) (k_an : an = an2) (k_ah : ah = ah2) (k_ad : ad = ad2) (k_sq : rSq rn sh ro tr se re) (k_cd : rCd it itm nu pa pn) (k_kd : rKd ks kk kd ky up) (k_op : rOp cl ox om mn) (k_la : rLa cl la isn) (k_lo : rLo cl ox la) (k_om : rOm cl la od) (k_oi : OI mn wh hw on) (k_ti : TI mn tm fr en hw) (k_h0 : rH0 mn ox hw rd) (k_ck : rCk mn cl wh) (k_or : rOr cl ox rn) (k_wt : rWt cl ti ou) (k_wi : rWi cl tm wo ci ti) (k_sh : shOk rn sh) (k_bx : ∀ k, 0 ≤ k → k < 20 → be k ≤ mn) (k_rp : 0 < rn2 → rpOk it2 pa) (k_bm : ∀ k, 0 ≤ k → k < 20 → be2 k ≤ mn2) (k_tp : tp = tp2) (k_ta : ∀ k, ta2 k % 256 = ta k) (k_fk : fk = fk2) (k_fp : fp = fp2) (g_cl : 0 ≤ cl ∧ cl ≤ 16) (g_mn : 0 ≤ mn ∧ mn ≤ 300) (g_rn : 0 ≤ rn ∧ rn ≤ 4) (g_ks : 0 ≤ ks ∧ ks ≤ 4) (g_ox : 0 ≤ ox ∧ ox ≤ 3) (g_tm : 0 ≤ tm ∧ tm ≤ 1000000) (g_wh : ∀ k, 0 ≤ wh k ∧ wh k ≤ 15) (g_fr : ∀ k, 0 ≤ fr k ∧ fr k ≤ 1000000) (g_la : ∀ k, 0 ≤ la k ∧ la k ≤ 3) (g_ti : ∀ k, 0 ≤ ti k ∧ ti k ≤ 20) (px_0 : z = (if w = 0 then 1 else 0)) (px_1 : w = (if a1 < 0 ∨ 1000000 < a1 then (2 : Int) else if a1 < tm then 9 else 0)) (pm_0 : z2 = (if w2 = 0 then 1 else 0)) (pm_1 : w2 = (if a1 < 0 ∨ 1000000 < a1 then (2 : Int) else if a1 < tm2 then 9 else 0)) : (w = w2) ∧ ((if w = 0 then a1 else tm) = (if w2 = 0 then a1 else tm2)) ∧ ((if w = 0 then (ovE mn a1 hw fr (fun _ => (shF rn sh ox 2)) en) else en) = (if w2 = 0 then (ovE mn2 a1 hw2 fr2 (fun k => se (rd2 k)) en2) else en2)) ∧ ((if w = 0 then (ovH mn a1 hw fr (fun _ => (shF rn sh ox 2))) else hw) = (if w2 = 0 then (ovH mn2 a1 hw2 fr2 (fun k => se (rd2 k))) else hw2)) ∧ (OI mn wh (if w = 0 then (ovH mn a1 hw fr (fun _ => (shF rn sh ox 2))) else hw) (if w = 0 then (ovO a1 fr (fun _ => (shF rn sh ox 2)) on) else on)) ∧ (TI mn (if w = 0 then a1 else tm) fr (if w = 0 then (ovE mn a1 hw fr (fun _ => (shF rn sh ox 2)) en) else en) (if w = 0 then (ovH mn a1 hw fr (fun _ => (shF rn sh ox 2))) else hw)) ∧ (rH0 mn ox (if w = 0 then (ovH mn a1 hw fr (fun _ => (shF rn sh ox 2))) else hw) rd) ∧ (rWi cl (if w = 0 then a1 else tm) wo ci ti) ∧ (z = z2) := by
  subst k_tm k_rn k_it k_ks k_bk k_cl k_mn k_ap k_hs k_be k_zo k_wh k_rd k_rt k_fr k_en k_ho k_hw k_wo k_ci k_an k_ah k_ad
  have hL := rlL k_op k_h0 k_or k_sq g_cl.1
  have hww : w = w2 := px_1.trans pm_1.symm
  subst hww
  have hz : z = z2 := px_0.trans pm_0.symm
  by_cases h : w = 0
  · have hs := ps_0 (px_1.symm.trans h)
    simp only [if_pos h]
    exact ⟨(by first | rfl | trivial), (by first | rfl | trivial), pE hL, pH hL, OI_ov k_oi g_wh, TI_ov k_ti hs.2 (fun k => (g_fr k).1) (fun _ => (shF_r k_sh).2.2.2.2.1), H0_ov k_h0, Wi_mono k_wi hs.2, hz⟩
  · simp only [if_neg h]
    exact ⟨(by first | rfl | trivial), (by first | rfl | trivial), (by first | rfl | trivial), (by first | rfl | trivial), k_oi, k_ti, k_h0, k_wi, hz⟩

set_option maxHeartbeats 4000000 in
theorem rl_climber {ap ap2 bk bk2 cl cl2 fk fk2 fp fp2 it it2 ks ks2 mn mn2 om ox rn rn2 st st2 tm tm2 tp tp2 z w z2 w2 : Int} {ad ad2 ah ah2 an an2 be be2 ci ci2 en en2 fr fr2 ho ho2 hs hs2 hw hw2 isn itm kd kk ky la nu od on ou pa pn rd rd2 re ro rt rt2 se sh ta ta2 ti tr up wh wh2 wo wo2 zo zo2 : Int → Int} (k_st : st = st2) (k_tm : tm = tm2) (k_rn : rn = rn2) (k_it : it = it2) (k_ks : ks = ks2) (k_bk : bk = bk2) (k_cl : cl = cl2) (k_mn : mn = mn2) (k_ap : ap = ap2) (k_hs : hs = hs2) (k_be : be = be2) (k_zo : zo = zo2) (k_wh : wh = wh2) (k_rd : rd = rd2) (k_rt : rt = rt2) (k_fr : fr = fr2) (k_en : en = en2) (k_ho : ho = ho2) (k_hw : hw = hw2) (k_wo : wo = wo2) (k_ci : ci = ci2) (k_an : an = an2) (k_ah : ah = ah2) (k_ad : ad = ad2) (k_sq : rSq rn sh ro tr se re) (k_cd : rCd it itm nu pa pn) (k_kd : rKd ks kk kd ky up) (k_op : rOp cl ox om mn) (k_la : rLa cl la isn) (k_lo : rLo cl ox la) (k_om : rOm cl la od) (k_oi : OI mn wh hw on) (k_ti : TI mn tm fr en hw) (k_h0 : rH0 mn ox hw rd) (k_ck : rCk mn cl wh) (k_or : rOr cl ox rn) (k_wt : rWt cl ti ou) (k_wi : rWi cl tm wo ci ti) (k_sh : shOk rn sh) (k_bx : ∀ k, 0 ≤ k → k < 20 → be k ≤ mn) (k_rp : 0 < rn2 → rpOk it2 pa) (k_bm : ∀ k, 0 ≤ k → k < 20 → be2 k ≤ mn2) (k_tp : tp = tp2) (k_ta : ∀ k, ta2 k % 256 = ta k) (k_fk : fk = fk2) (k_fp : fp = fp2) (g_cl : 0 ≤ cl ∧ cl ≤ 16) (g_mn : 0 ≤ mn ∧ mn ≤ 300) (g_rn : 0 ≤ rn ∧ rn ≤ 4) (g_ks : 0 ≤ ks ∧ ks ≤ 4) (g_ox : 0 ≤ ox ∧ ox ≤ 3) (g_tm : 0 ≤ tm ∧ tm ≤ 1000000) (g_wh : ∀ k, 0 ≤ wh k ∧ wh k ≤ 15) (g_fr : ∀ k, 0 ≤ fr k ∧ fr k ≤ 1000000) (g_la : ∀ k, 0 ≤ la k ∧ la k ≤ 3) (g_ti : ∀ k, 0 ≤ ti k ∧ ti k ≤ 20) (px_0 : z = (if w = 0 then cl else (-1))) (px_1 : w = (if rn = 0 then 1 else if 16 ≤ cl then 3 else if 0 < mn ∨ 0 < ox then 10 else 0)) (pm_0 : z2 = (if w2 = 0 then cl2 else (-1))) (pm_1 : w2 = (if rn2 = 0 then 1 else if 16 ≤ cl2 then 3 else if 0 < mn2 ∨ 0 < om then 10 else 0)) : (w = w2) ∧ ((if w = 0 then cl + 1 else cl) = (if w2 = 0 then cl2 + 1 else cl2)) ∧ (rOp (if w = 0 then cl + 1 else cl) ox (if w2 = 0 then 0 else om) mn) ∧ (rLa (if w = 0 then cl + 1 else cl) (if w = 0 then u1 la cl 0 else la) (if w2 = 0 then u1 isn cl2 1 else isn)) ∧ (rLo (if w = 0 then cl + 1 else cl) ox (if w = 0 then u1 la cl 0 else la)) ∧ (rOm (if w = 0 then cl + 1 else cl) (if w = 0 then u1 la cl 0 else la) (if w2 = 0 then u1 od 0 (cl2 + 1) else od)) ∧ (rCk mn (if w = 0 then cl + 1 else cl) wh) ∧ (rOr (if w = 0 then cl + 1 else cl) ox rn) ∧ (rWt (if w = 0 then cl + 1 else cl) ti (if w2 = 0 then u1 ou cl2 0 else ou)) ∧ (rWi (if w = 0 then cl + 1 else cl) tm wo ci ti) ∧ (z = z2) := by
  subst k_tm k_rn k_it k_ks k_bk k_cl k_mn k_ap k_hs k_be k_zo k_wh k_rd k_rt k_fr k_en k_ho k_hw k_wo k_ci k_an k_ah k_ad
  have hww : w = w2 := by
    rw [px_1, pm_1]
    refine ite_c Iff.rfl (fun _ => rfl) (fun _ => ite_c Iff.rfl (fun _ => rfl) (fun _ => ite_c ?_ (fun _ => rfl) (fun _ => rfl)))
    by_cases hc : cl = 0
    · have := k_op.2 hc; omega
    · have := k_op.1 (by omega); omega
  subst hww
  have hz : z = z2 := px_0.trans pm_0.symm
  by_cases h : w = 0
  · obtain ⟨h1, q1⟩ := ch1 px_1 h (by decide)
    obtain ⟨h2, q2⟩ := ch1 q1 h (by decide)
    obtain ⟨h3, _⟩ := ch1 q2 h (by decide)
    have hox : ox = 0 := by omega
    simp only [if_pos h]
    refine ⟨(by first | rfl | trivial), (by first | rfl | trivial), ⟨fun _ => hox, fun q => by omega⟩, ?_, ?_, ?_, fun k k0 k1 => by have := k_ck k k0 k1; omega, fun _ => by omega, ?_, ?_, hz⟩
    · intro r c r0 r1 c0
      refine ⟨fun c1 => ?_, fun c1 c2 => ?_⟩
      · by_cases e : c = cl
        · subst e
          rw [u1_s]
          by_cases er : r = 0
          · subst er
            rw [show 16 * 0 + c = c by omega, u1_s]
            exact ⟨fun _ => Int.le_refl 0, fun _ => by decide⟩
          · rw [u1_n (by omega), ((k_la r c r0 r1 c0).2 (Int.le_refl _) (by omega))]
            exact ⟨fun q => absurd rfl q, fun q => by omega⟩
        · rw [u1_n (by omega), u1_n e]
          exact (k_la r c r0 r1 c0).1 (by omega)
      · rw [u1_n (by omega)]
        exact (k_la r c r0 r1 c0).2 (by omega) c2
    · intro c c0 c1
      by_cases e : c = cl
      · subst e; rw [u1_s]; omega
      · rw [u1_n e]; exact k_lo c c0 (by omega)
    · intro r r0 r1
      by_cases er : r = 0
      · subst er
        rw [u1_s]
        exact (cn_full (by omega) (fun j j0 j1 => decide_eq_true (by by_cases e : j = cl; (subst e; rw [u1_s]; omega); (rw [u1_n e]; exact (g_la j).1)))).symm
      · rw [u1_n er, cn_n g_cl.1 (decide_eq_false (by rw [u1_s]; omega)), k_om r r0 r1]
        exact cn_eq (fun j j0 j1 => by unfold pIn; rw [u1_n (by omega)])
    · intro c c0 c1
      refine ⟨fun c2 => ?_, fun c2 => (k_wt c c0 c1).2 (by omega)⟩
      by_cases e : c = cl
      · subst e; rw [u1_s]; exact (k_wt c c0 c1).2 (Int.le_refl _)
      · rw [u1_n e]; exact (k_wt c c0 c1).1 (by omega)
    · intro c c0 c1
      by_cases e : c = cl
      · subst e; intro i i0 i1; have := (k_wt c c0 (by omega)).2 (Int.le_refl _); omega
      · exact k_wi c c0 (by omega)
  · simp only [if_neg h]
    exact ⟨(by first | rfl | trivial), (by first | rfl | trivial), k_op, k_la, k_lo, k_om, k_ck, k_or, k_wt, k_wi, hz⟩

set_option maxHeartbeats 4000000 in
theorem rl_route {ap ap2 bk bk2 cl cl2 fk fk2 fp fp2 it it2 ks ks2 mn mn2 om ox rn rn2 st st2 tm tm2 tp tp2 z w z2 w2 a1 a2 a3 a4 a5 a6 : Int} {ad ad2 ah ah2 an an2 be be2 ci ci2 en en2 fr fr2 ho ho2 hs hs2 hw hw2 isn itm kd kk ky la nu od on ou pa pn rd rd2 re ro rt rt2 se sh ta ta2 ti tr up wh wh2 wo wo2 zo zo2 : Int → Int} (k_st : st = st2) (k_tm : tm = tm2) (k_rn : rn = rn2) (k_it : it = it2) (k_ks : ks = ks2) (k_bk : bk = bk2) (k_cl : cl = cl2) (k_mn : mn = mn2) (k_ap : ap = ap2) (k_hs : hs = hs2) (k_be : be = be2) (k_zo : zo = zo2) (k_wh : wh = wh2) (k_rd : rd = rd2) (k_rt : rt = rt2) (k_fr : fr = fr2) (k_en : en = en2) (k_ho : ho = ho2) (k_hw : hw = hw2) (k_wo : wo = wo2) (k_ci : ci = ci2) (k_an : an = an2) (k_ah : ah = ah2) (k_ad : ad = ad2) (k_sq : rSq rn sh ro tr se re) (k_cd : rCd it itm nu pa pn) (k_kd : rKd ks kk kd ky up) (k_op : rOp cl ox om mn) (k_la : rLa cl la isn) (k_lo : rLo cl ox la) (k_om : rOm cl la od) (k_oi : OI mn wh hw on) (k_ti : TI mn tm fr en hw) (k_h0 : rH0 mn ox hw rd) (k_ck : rCk mn cl wh) (k_or : rOr cl ox rn) (k_wt : rWt cl ti ou) (k_wi : rWi cl tm wo ci ti) (k_sh : shOk rn sh) (k_bx : ∀ k, 0 ≤ k → k < 20 → be k ≤ mn) (k_rp : 0 < rn2 → rpOk it2 pa) (k_bm : ∀ k, 0 ≤ k → k < 20 → be2 k ≤ mn2) (k_tp : tp = tp2) (k_ta : ∀ k, ta2 k % 256 = ta k) (k_fk : fk = fk2) (k_fp : fp = fp2) (g_cl : 0 ≤ cl ∧ cl ≤ 16) (g_mn : 0 ≤ mn ∧ mn ≤ 300) (g_rn : 0 ≤ rn ∧ rn ≤ 4) (g_ks : 0 ≤ ks ∧ ks ≤ 4) (g_ox : 0 ≤ ox ∧ ox ≤ 3) (g_tm : 0 ≤ tm ∧ tm ≤ 1000000) (g_wh : ∀ k, 0 ≤ wh k ∧ wh k ≤ 15) (g_fr : ∀ k, 0 ≤ fr k ∧ fr k ≤ 1000000) (g_la : ∀ k, 0 ≤ la k ∧ la k ≤ 3) (g_ti : ∀ k, 0 ≤ ti k ∧ ti k ≤ 20) (px_0 : z = (if w = 0 then 1 else 0)) (px_1 : w = (if ¬ ((0 ≤ a1 ∧ a1 < rn) ∧ 0 ≤ a2 ∧ a2 < sh (a1 * 4)) then 1 else if ¬ ((2 ≤ a3 ∧ a3 ≤ 60) ∧ (a4 = 0 ∨ (0 < a4 ∧ a4 ≤ a3)) ∧ (a5 = 0 ∨ (a4 ≠ 0 ∧ a4 < a5 ∧ a5 ≤ a3)) ∧ (a6 = 0 ∨ (a5 ≠ 0 ∧ a5 < a6 ∧ a6 ≤ a3))) then 2 else if 0 < be (a1 * 5 + a2) then 10 else 0)) (pm_0 : z2 = (if w2 = 0 then 1 else 0)) (pm_1 : w2 = (if ¬ ((0 ≤ a1 ∧ a1 < rn2) ∧ 0 ≤ a2 ∧ a2 < ro a1) then 1 else if ¬ ((2 ≤ a3 ∧ a3 ≤ 60) ∧ (a4 = 0 ∨ (0 < a4 ∧ a4 ≤ a3)) ∧ (a5 = 0 ∨ (a4 ≠ 0 ∧ a4 < a5 ∧ a5 ≤ a3)) ∧ (a6 = 0 ∨ (a5 ≠ 0 ∧ a5 < a6 ∧ a6 ≤ a3))) then 2 else if 0 < be2 (a1 * 5 + a2) then 10 else 0)) : (w = w2) ∧ ((if w = 0 then u1 hs (a1 * 5 + a2) a3 else hs) = (if w2 = 0 then u1 hs2 (a1 * 5 + a2) a3 else hs2)) ∧ ((if w = 0 then u1 (u1 (u1 zo ((a1 * 5 + a2) * 3 + 0) a4) ((a1 * 5 + a2) * 3 + 1) a5) ((a1 * 5 + a2) * 3 + 2) a6 else zo) = (if w2 = 0 then u1 (u1 (u1 zo2 ((a1 * 5 + a2) * 3 + 0) a4) ((a1 * 5 + a2) * 3 + 1) a5) ((a1 * 5 + a2) * 3 + 2) a6 else zo2)) ∧ (z = z2) := by
  subst k_tm k_rn k_it k_ks k_bk k_cl k_mn k_ap k_hs k_be k_zo k_wh k_rd k_rt k_fr k_en k_ho k_hw k_wo k_ci k_an k_ah k_ad
  have hww : w = w2 := by
    rw [px_1, pm_1]
    exact ite_c (not_congr (kr_iff k_sq)) (fun _ => rfl) (fun _ => rfl)
  subst hww
  exact ⟨(by first | rfl | trivial), (by first | rfl | trivial), (by first | rfl | trivial), px_0.trans pm_0.symm⟩

set_option maxHeartbeats 4000000 in
theorem rl_told {ap ap2 bk bk2 cl cl2 fk fk2 fp fp2 it it2 ks ks2 mn mn2 om ox rn rn2 st st2 tm tm2 tp tp2 z w z2 w2 a1 a2 a3 : Int} {ad ad2 ah ah2 an an2 be be2 ci ci2 en en2 fr fr2 ho ho2 hs hs2 hw hw2 isn itm kd kk ky la nu od on ou pa pn rd rd2 re ro rt rt2 se sh ta ta2 ti tr up wh wh2 wo wo2 zo zo2 : Int → Int} (k_st : st = st2) (k_tm : tm = tm2) (k_rn : rn = rn2) (k_it : it = it2) (k_ks : ks = ks2) (k_bk : bk = bk2) (k_cl : cl = cl2) (k_mn : mn = mn2) (k_ap : ap = ap2) (k_hs : hs = hs2) (k_be : be = be2) (k_zo : zo = zo2) (k_wh : wh = wh2) (k_rd : rd = rd2) (k_rt : rt = rt2) (k_fr : fr = fr2) (k_en : en = en2) (k_ho : ho = ho2) (k_hw : hw = hw2) (k_wo : wo = wo2) (k_ci : ci = ci2) (k_an : an = an2) (k_ah : ah = ah2) (k_ad : ad = ad2) (k_sq : rSq rn sh ro tr se re) (k_cd : rCd it itm nu pa pn) (k_kd : rKd ks kk kd ky up) (k_op : rOp cl ox om mn) (k_la : rLa cl la isn) (k_lo : rLo cl ox la) (k_om : rOm cl la od) (k_oi : OI mn wh hw on) (k_ti : TI mn tm fr en hw) (k_h0 : rH0 mn ox hw rd) (k_ck : rCk mn cl wh) (k_or : rOr cl ox rn) (k_wt : rWt cl ti ou) (k_wi : rWi cl tm wo ci ti) (k_sh : shOk rn sh) (k_bx : ∀ k, 0 ≤ k → k < 20 → be k ≤ mn) (k_rp : 0 < rn2 → rpOk it2 pa) (k_bm : ∀ k, 0 ≤ k → k < 20 → be2 k ≤ mn2) (k_tp : tp = tp2) (k_ta : ∀ k, ta2 k % 256 = ta k) (k_fk : fk = fk2) (k_fp : fp = fp2) (g_cl : 0 ≤ cl ∧ cl ≤ 16) (g_mn : 0 ≤ mn ∧ mn ≤ 300) (g_rn : 0 ≤ rn ∧ rn ≤ 4) (g_ks : 0 ≤ ks ∧ ks ≤ 4) (g_ox : 0 ≤ ox ∧ ox ≤ 3) (g_tm : 0 ≤ tm ∧ tm ≤ 1000000) (g_wh : ∀ k, 0 ≤ wh k ∧ wh k ≤ 15) (g_fr : ∀ k, 0 ≤ fr k ∧ fr k ≤ 1000000) (g_la : ∀ k, 0 ≤ la k ∧ la k ≤ 3) (g_ti : ∀ k, 0 ≤ ti k ∧ ti k ≤ 20) (px_0 : z = (if w ≠ 0 then (-1) else if a2 = (-1) then (if a3 = 4 then cn (pIn la a1) cl.toNat else sh (a1 * 4 + a3)) else if a3 = 0 then hs (a1 * 5 + a2) else if a3 = 4 then be (a1 * 5 + a2) else zo ((a1 * 5 + a2) * 3 + (a3 - 1)))) (px_1 : (-1) ≤ z ∧ z ≤ 999999) (px_2 : w = (if ¬ ((a2 = (-1) ∧ 0 ≤ a1 ∧ a1 < rn) ∨ (a2 ≠ (-1) ∧ ((0 ≤ a1 ∧ a1 < rn) ∧ 0 ≤ a2 ∧ a2 < sh (a1 * 4)))) then 1 else if a3 < 0 ∨ 4 < a3 then 2 else 0)) (pm_0 : z2 = (if w2 ≠ 0 then (-1) else if a2 = (-1) then (if a3 = 0 then ro a1 else if a3 = 1 then tr a1 else if a3 = 2 then se a1 else if a3 = 3 then re a1 else od a1) else if a3 = 0 then hs2 (a1 * 5 + a2) else if a3 = 4 then be2 (a1 * 5 + a2) else zo2 ((a1 * 5 + a2) * 3 + (a3 - 1)))) (pm_1 : (-1) ≤ z2 ∧ z2 ≤ 999) (pm_2 : w2 = (if ¬ ((a2 = (-1) ∧ 0 ≤ a1 ∧ a1 < rn2) ∨ (a2 ≠ (-1) ∧ ((0 ≤ a1 ∧ a1 < rn2) ∧ 0 ≤ a2 ∧ a2 < ro a1))) then 1 else if a3 < 0 ∨ 4 < a3 then 2 else 0)) : (w = w2) ∧ (z = z2) := by
  subst k_tm k_rn k_it k_ks k_bk k_cl k_mn k_ap k_hs k_be k_zo k_wh k_rd k_rt k_fr k_en k_ho k_hw k_wo k_ci k_an k_ah k_ad
  have hww : w = w2 := by
    rw [px_2, pm_2]
    exact ite_c (not_congr (or_congr Iff.rfl (and_congr Iff.rfl (kr_iff k_sq)))) (fun _ => rfl) (fun _ => rfl)
  subst hww
  refine ⟨(by first | rfl | trivial), ?_⟩
  rw [px_0, pm_0]
  refine ite_c Iff.rfl (fun _ => rfl) (fun h => ?_)
  obtain ⟨h1, q1⟩ := ch1 px_2 (Classical.not_not.mp h) (by decide)
  obtain ⟨h2, _⟩ := ch1 q1 (Classical.not_not.mp h) (by decide)
  refine ite_c Iff.rfl (fun ha => ?_) (fun _ => rfl)
  have hr : 0 ≤ a1 ∧ a1 < rn := by rcases Classical.not_not.mp h1 with q | q; exact q.2; exact q.2.1
  have hq := k_sq a1 hr.1 hr.2
  have ho := k_om a1 hr.1 (by omega)
  rcases (show a3 = 0 ∨ a3 = 1 ∨ a3 = 2 ∨ a3 = 3 ∨ a3 = 4 by omega) with e | e | e | e | e
  · subst e; rw [if_neg (by decide), if_pos rfl, Int.add_zero]; exact hq.1
  · subst e; rw [if_neg (by decide), if_neg (by decide), if_pos rfl]; exact hq.2.1
  · subst e; rw [if_neg (by decide), if_neg (by decide), if_neg (by decide), if_pos rfl]; exact hq.2.2.1
  · subst e; rw [if_neg (by decide), if_neg (by decide), if_neg (by decide), if_neg (by decide), if_pos rfl]; exact hq.2.2.2
  · subst e; rw [if_pos rfl, if_neg (by decide), if_neg (by decide), if_neg (by decide), if_neg (by decide)]; exact ho.symm

set_option maxHeartbeats 4000000 in
theorem rl_begin {ap ap2 bk bk2 cl cl2 fk fk2 fp fp2 it it2 ks ks2 mn mn2 om ox rn rn2 st st2 tm tm2 tp tp2 z w z2 w2 a1 a2 a3 : Int} {ad ad2 ah ah2 an an2 be be2 ci ci2 en en2 fr fr2 ho ho2 hs hs2 hw hw2 isn itm kd kk ky la nu od on ou pa pn rd rd2 re ro rt rt2 se sh ta ta2 ti tr up wh wh2 wo wo2 zo zo2 : Int → Int} (k_st : st = st2) (k_tm : tm = tm2) (k_rn : rn = rn2) (k_it : it = it2) (k_ks : ks = ks2) (k_bk : bk = bk2) (k_cl : cl = cl2) (k_mn : mn = mn2) (k_ap : ap = ap2) (k_hs : hs = hs2) (k_be : be = be2) (k_zo : zo = zo2) (k_wh : wh = wh2) (k_rd : rd = rd2) (k_rt : rt = rt2) (k_fr : fr = fr2) (k_en : en = en2) (k_ho : ho = ho2) (k_hw : hw = hw2) (k_wo : wo = wo2) (k_ci : ci = ci2) (k_an : an = an2) (k_ah : ah = ah2) (k_ad : ad = ad2) (k_sq : rSq rn sh ro tr se re) (k_cd : rCd it itm nu pa pn) (k_kd : rKd ks kk kd ky up) (k_op : rOp cl ox om mn) (k_la : rLa cl la isn) (k_lo : rLo cl ox la) (k_om : rOm cl la od) (k_oi : OI mn wh hw on) (k_ti : TI mn tm fr en hw) (k_h0 : rH0 mn ox hw rd) (k_ck : rCk mn cl wh) (k_or : rOr cl ox rn) (k_wt : rWt cl ti ou) (k_wi : rWi cl tm wo ci ti) (k_sh : shOk rn sh) (k_bx : ∀ k, 0 ≤ k → k < 20 → be k ≤ mn) (k_rp : 0 < rn2 → rpOk it2 pa) (k_bm : ∀ k, 0 ≤ k → k < 20 → be2 k ≤ mn2) (k_tp : tp = tp2) (k_ta : ∀ k, ta2 k % 256 = ta k) (k_fk : fk = fk2) (k_fp : fp = fp2) (g_cl : 0 ≤ cl ∧ cl ≤ 16) (g_mn : 0 ≤ mn ∧ mn ≤ 300) (g_rn : 0 ≤ rn ∧ rn ≤ 4) (g_ks : 0 ≤ ks ∧ ks ≤ 4) (g_ox : 0 ≤ ox ∧ ox ≤ 3) (g_tm : 0 ≤ tm ∧ tm ≤ 1000000) (g_wh : ∀ k, 0 ≤ wh k ∧ wh k ≤ 15) (g_fr : ∀ k, 0 ≤ fr k ∧ fr k ≤ 1000000) (g_la : ∀ k, 0 ≤ la k ∧ la k ≤ 3) (g_ti : ∀ k, 0 ≤ ti k ∧ ti k ≤ 20) (px_0 : z = (if w = 0 then mn else (-1))) (px_1 : w = (if ¬ ((0 ≤ a1 ∧ a1 < cl) ∧ ((0 ≤ ox ∧ ox < rn) ∧ 0 ≤ a2 ∧ a2 < sh (ox * 4))) then 1 else if (if a3 < 0 ∨ 1000000 < a3 then (2 : Int) else if a3 < tm then 9 else 0) ≠ 0 then (if a3 < 0 ∨ 1000000 < a3 then (2 : Int) else if a3 < tm then 9 else 0) else (if ¬ ((0 ≤ a1 ∧ a1 < cl) ∧ ox ≤ la a1) then 4 else if (ovO a3 fr (fun _ => (shF rn sh ox 2)) on) a1 ≠ 0 then 5 else if 1 ≤ cn (pTo wh rd rt (ovH mn a3 hw fr (fun _ => (shF rn sh ox 2))) a1 ox a2) mn.toNat ∨ shF rn sh ox 1 ≤ cn (pDo wh rd rt (ovH mn a3 hw fr (fun _ => (shF rn sh ox 2))) a1 ox a2) mn.toNat then 6 else if 300 ≤ mn then 3 else if 1 ≤ cn (pSe wh rd rt fr (ovE mn a3 hw fr (fun _ => (shF rn sh ox 2)) en) wo ci ti a3 a1 ox a2) mn.toNat then 7 else if a3 < rsF (mxE wh rd (ovE mn a3 hw fr (fun _ => (shF rn sh ox 2)) en) a1 ox mn.toNat) (shF rn sh ox 3) then 8 else 0))) (px_2 : ∀ k, 0 ≤ k → k < 20 → (if w = 0 then u1 be (ox * 5 + a2) (be (ox * 5 + a2) + 1) else be) k ≤ (if w = 0 then mn + 1 else mn)) (pm_0 : z2 = (if w2 = 0 then mn2 else (-1))) (pm_1 : w2 = (if ¬ ((0 ≤ a1 ∧ a1 < cl2) ∧ ((0 ≤ om ∧ om < rn2) ∧ 0 ≤ a2 ∧ a2 < ro om)) then 1 else if (if a3 < 0 ∨ 1000000 < a3 then (2 : Int) else if a3 < tm2 then 9 else 0) ≠ 0 then (if a3 < 0 ∨ 1000000 < a3 then (2 : Int) else if a3 < tm2 then 9 else 0) else (if isn (16 * om + a1) = 0 then 4 else if (ovO a3 fr2 (fun k => se (rd2 k)) on) a1 ≠ 0 then 5 else if 1 ≤ cn (pTo wh2 rd2 rt2 (ovH mn2 a3 hw2 fr2 (fun k => se (rd2 k))) a1 om a2) mn2.toNat ∨ tr om ≤ cn (pDo wh2 rd2 rt2 (ovH mn2 a3 hw2 fr2 (fun k => se (rd2 k))) a1 om a2) mn2.toNat then 6 else if 300 ≤ mn2 then 3 else if 1 ≤ cn (pSe wh2 rd2 rt2 fr2 (ovE mn2 a3 hw2 fr2 (fun k => se (rd2 k)) en2) wo2 ci2 ou a3 a1 om a2) mn2.toNat then 7 else if a3 < rsF (mxE wh2 rd2 (ovE mn2 a3 hw2 fr2 (fun k => se (rd2 k)) en2) a1 om mn2.toNat) (re om) then 8 else 0))) (pm_2 : ∀ k, 0 ≤ k → k < 20 → (if w2 = 0 then u1 be2 (om * 5 + a2) (be2 (om * 5 + a2) + 1) else be2) k ≤ (if w2 = 0 then mn2 + 1 else mn2)) : (w = w2) ∧ ((if w = 1 ∨ w = 2 ∨ w = 9 then tm else a3) = (if w2 = 1 ∨ w2 = 2 ∨ w2 = 9 then tm2 else a3)) ∧ ((if w = 0 then mn + 1 else mn) = (if w2 = 0 then mn2 + 1 else mn2)) ∧ ((if w = 0 then u1 be (ox * 5 + a2) (be (ox * 5 + a2) + 1) else be) = (if w2 = 0 then u1 be2 (om * 5 + a2) (be2 (om * 5 + a2) + 1) else be2)) ∧ ((if w = 0 then u1 wh mn a1 else wh) = (if w2 = 0 then u1 wh2 mn2 a1 else wh2)) ∧ ((if w = 0 then u1 rd mn ox else rd) = (if w2 = 0 then u1 rd2 mn2 om else rd2)) ∧ ((if w = 0 then u1 rt mn a2 else rt) = (if w2 = 0 then u1 rt2 mn2 a2 else rt2)) ∧ ((if w = 0 then u1 fr mn a3 else fr) = (if w2 = 0 then u1 fr2 mn2 a3 else fr2)) ∧ ((if w = 1 ∨ w = 2 ∨ w = 9 then en else if w = 0 then u1 (ovE mn a3 hw fr (fun _ => (shF rn sh ox 2)) en) mn (-1) else (ovE mn a3 hw fr (fun _ => (shF rn sh ox 2)) en)) = (if w2 = 1 ∨ w2 = 2 ∨ w2 = 9 then en2 else if w2 = 0 then u1 (ovE mn2 a3 hw2 fr2 (fun k => se (rd2 k)) en2) mn2 (-1) else (ovE mn2 a3 hw2 fr2 (fun k => se (rd2 k)) en2))) ∧ ((if w = 0 then u1 ho mn 0 else ho) = (if w2 = 0 then u1 ho2 mn2 0 else ho2)) ∧ ((if w = 1 ∨ w = 2 ∨ w = 9 then hw else if w = 0 then u1 (ovH mn a3 hw fr (fun _ => (shF rn sh ox 2))) mn 0 else (ovH mn a3 hw fr (fun _ => (shF rn sh ox 2)))) = (if w2 = 1 ∨ w2 = 2 ∨ w2 = 9 then hw2 else if w2 = 0 then u1 (ovH mn2 a3 hw2 fr2 (fun k => se (rd2 k))) mn2 0 else (ovH mn2 a3 hw2 fr2 (fun k => se (rd2 k))))) ∧ (rOp cl ox om (if w = 0 then mn + 1 else mn)) ∧ (OI (if w = 0 then mn + 1 else mn) (if w = 0 then u1 wh mn a1 else wh) (if w = 1 ∨ w = 2 ∨ w = 9 then hw else if w = 0 then u1 (ovH mn a3 hw fr (fun _ => (shF rn sh ox 2))) mn 0 else (ovH mn a3 hw fr (fun _ => (shF rn sh ox 2)))) (if w = 1 ∨ w = 2 ∨ w = 9 then on else if w = 0 then u1 (ovO a3 fr (fun _ => (shF rn sh ox 2)) on) a1 (mn + 1) else (ovO a3 fr (fun _ => (shF rn sh ox 2)) on))) ∧ (TI (if w = 0 then mn + 1 else mn) (if w = 1 ∨ w = 2 ∨ w = 9 then tm else a3) (if w = 0 then u1 fr mn a3 else fr) (if w = 1 ∨ w = 2 ∨ w = 9 then en else if w = 0 then u1 (ovE mn a3 hw fr (fun _ => (shF rn sh ox 2)) en) mn (-1) else (ovE mn a3 hw fr (fun _ => (shF rn sh ox 2)) en)) (if w = 1 ∨ w = 2 ∨ w = 9 then hw else if w = 0 then u1 (ovH mn a3 hw fr (fun _ => (shF rn sh ox 2))) mn 0 else (ovH mn a3 hw fr (fun _ => (shF rn sh ox 2))))) ∧ (rH0 (if w = 0 then mn + 1 else mn) ox (if w = 1 ∨ w = 2 ∨ w = 9 then hw else if w = 0 then u1 (ovH mn a3 hw fr (fun _ => (shF rn sh ox 2))) mn 0 else (ovH mn a3 hw fr (fun _ => (shF rn sh ox 2)))) (if w = 0 then u1 rd mn ox else rd)) ∧ (rCk (if w = 0 then mn + 1 else mn) cl (if w = 0 then u1 wh mn a1 else wh)) ∧ (rWi cl (if w = 1 ∨ w = 2 ∨ w = 9 then tm else a3) wo ci ti) ∧ (∀ k, 0 ≤ k → k < 20 → (if w = 0 then u1 be (ox * 5 + a2) (be (ox * 5 + a2) + 1) else be) k ≤ (if w = 0 then mn + 1 else mn)) ∧ (∀ k, 0 ≤ k → k < 20 → (if w2 = 0 then u1 be2 (om * 5 + a2) (be2 (om * 5 + a2) + 1) else be2) k ≤ (if w2 = 0 then mn2 + 1 else mn2)) ∧ (z = z2) := by
  subst k_tm k_rn k_it k_ks k_bk k_cl k_mn k_ap k_hs k_be k_zo k_wh k_rd k_rt k_fr k_en k_ho k_hw k_wo k_ci k_an k_ah k_ad
  by_cases hB : 0 ≤ a1 ∧ a1 < cl
  · have hoo : ox = om := k_op.1 (by omega)
    subst hoo
    have hor := k_or (by omega)
    have hL := rlL k_op k_h0 k_or k_sq g_cl.1
    have s1 := sh_k1 k_sq hor
    have s3 := sh_k3 k_sq hor
    have hti := (k_wt a1 hB.1 (by omega)).1 hB.2
    rw [← pO k_oi hL, ← pH hL, ← pE hL] at pm_1
    have hww : w = w2 := by
      rw [px_1, pm_1]
      exact ite_c (not_congr (and_congr Iff.rfl (kr_iff k_sq))) (fun _ => rfl) (fun hb => ite_c Iff.rfl (fun _ => rfl) (fun _ => ite_c ⟨fun q => by have h9 := in_iff k_la (x := ox) ⟨hor.1, by omega⟩ hB; exact Classical.not_not.mp (fun e => q ⟨hB, h9.mpr e⟩), fun q e => (in_iff k_la (x := ox) ⟨hor.1, by omega⟩ hB).mp e.2 q⟩ (fun _ => rfl) (fun _ => ite_c Iff.rfl (fun _ => rfl) (fun _ => ite_c (by rw [s1]) (fun _ => rfl) (fun _ => ite_c Iff.rfl (fun _ => rfl) (fun _ => ite_c (by rw [pSe_ti hti]) (fun _ => rfl) (fun _ => ite_c (by rw [s3]) (fun _ => rfl) (fun _ => rfl))))))))
    subst hww
    have hz : z = z2 := px_0.trans pm_0.symm
    rw [← pH hL, ← pE hL]
    by_cases hN : w = 1 ∨ w = 2 ∨ w = 9
    · have h0 : ¬ w = 0 := by omega
      simp only [if_pos hN, if_neg h0]
      exact ⟨(by first | rfl | trivial), (by first | rfl | trivial), (by first | rfl | trivial), (by first | rfl | trivial), (by first | rfl | trivial), (by first | rfl | trivial), (by first | rfl | trivial), (by first | rfl | trivial), (by first | rfl | trivial), (by first | rfl | trivial), (by first | rfl | trivial), k_op, k_oi, k_ti, k_h0, k_ck, k_wi, k_bx, k_bm, hz⟩
    · obtain ⟨hb, hs, hr⟩ := np3 px_1 hN
      have hO2 : OI mn wh (ovH mn a3 hw fr (fun _ => shF rn sh ox 2)) (ovO a3 fr (fun _ => shF rn sh ox 2) on) := OI_ov k_oi g_wh
      have hT2 : TI mn a3 fr (ovE mn a3 hw fr (fun _ => shF rn sh ox 2) en) (ovH mn a3 hw fr (fun _ => shF rn sh ox 2)) := TI_ov k_ti hs.2 (fun k => (g_fr k).1) (fun _ => (shF_r k_sh).2.2.2.2.1)
      have hH2 : rH0 mn ox (ovH mn a3 hw fr (fun _ => shF rn sh ox 2)) rd := H0_ov k_h0
      have hW2 := Wi_mono k_wi hs.2
      by_cases h0 : w = 0
      · have hon := (ch5 hr h0 (by decide) (by decide)).2
        simp only [if_neg hN, if_pos h0] at px_2 pm_2 ⊢
        exact ⟨(by first | rfl | trivial), (by first | rfl | trivial), (by first | rfl | trivial), (by first | rfl | trivial), (by first | rfl | trivial), (by first | rfl | trivial), (by first | rfl | trivial), (by first | rfl | trivial), (by first | rfl | trivial), (by first | rfl | trivial), (by first | rfl | trivial), ⟨fun _ => rfl, fun q => by omega⟩, OI_start hO2 g_mn.1 ⟨hB.1, by omega⟩ (Classical.not_not.mp hon), TI_start hT2, H0_start hH2, Ck_start k_ck hB.2, hW2, px_2, pm_2, hz⟩
      · simp only [if_neg hN, if_neg h0]
        exact ⟨(by first | rfl | trivial), (by first | rfl | trivial), (by first | rfl | trivial), (by first | rfl | trivial), (by first | rfl | trivial), (by first | rfl | trivial), (by first | rfl | trivial), (by first | rfl | trivial), (by first | rfl | trivial), (by first | rfl | trivial), (by first | rfl | trivial), k_op, hO2, hT2, hH2, k_ck, hW2, k_bx, k_bm, hz⟩
  · have e1 : w = 1 := by rw [px_1, if_pos (fun q => hB q.1)]
    have e2 : w2 = 1 := by rw [pm_1, if_pos (fun q => hB q.1)]
    clear px_1 pm_1 px_2 pm_2
    subst e1 e2
    exact ⟨(by first | rfl | trivial), (by first | rfl | trivial), (by first | rfl | trivial), (by first | rfl | trivial), (by first | rfl | trivial), (by first | rfl | trivial), (by first | rfl | trivial), (by first | rfl | trivial), (by first | rfl | trivial), (by first | rfl | trivial), (by first | rfl | trivial), k_op, k_oi, k_ti, k_h0, k_ck, k_wi, k_bx, k_bm, px_0.trans pm_0.symm⟩

set_option maxHeartbeats 4000000 in
theorem rl_reach {ap ap2 bk bk2 cl cl2 fk fk2 fp fp2 it it2 ks ks2 mn mn2 om ox rn rn2 st st2 tm tm2 tp tp2 z w z2 w2 a1 a2 a3 : Int} {ad ad2 ah ah2 an an2 be be2 ci ci2 en en2 fr fr2 ho ho2 hs hs2 hw hw2 isn itm kd kk ky la nu od on ou pa pn rd rd2 re ro rt rt2 se sh ta ta2 ti tr up wh wh2 wo wo2 zo zo2 : Int → Int} (k_st : st = st2) (k_tm : tm = tm2) (k_rn : rn = rn2) (k_it : it = it2) (k_ks : ks = ks2) (k_bk : bk = bk2) (k_cl : cl = cl2) (k_mn : mn = mn2) (k_ap : ap = ap2) (k_hs : hs = hs2) (k_be : be = be2) (k_zo : zo = zo2) (k_wh : wh = wh2) (k_rd : rd = rd2) (k_rt : rt = rt2) (k_fr : fr = fr2) (k_en : en = en2) (k_ho : ho = ho2) (k_hw : hw = hw2) (k_wo : wo = wo2) (k_ci : ci = ci2) (k_an : an = an2) (k_ah : ah = ah2) (k_ad : ad = ad2) (k_sq : rSq rn sh ro tr se re) (k_cd : rCd it itm nu pa pn) (k_kd : rKd ks kk kd ky up) (k_op : rOp cl ox om mn) (k_la : rLa cl la isn) (k_lo : rLo cl ox la) (k_om : rOm cl la od) (k_oi : OI mn wh hw on) (k_ti : TI mn tm fr en hw) (k_h0 : rH0 mn ox hw rd) (k_ck : rCk mn cl wh) (k_or : rOr cl ox rn) (k_wt : rWt cl ti ou) (k_wi : rWi cl tm wo ci ti) (k_sh : shOk rn sh) (k_bx : ∀ k, 0 ≤ k → k < 20 → be k ≤ mn) (k_rp : 0 < rn2 → rpOk it2 pa) (k_bm : ∀ k, 0 ≤ k → k < 20 → be2 k ≤ mn2) (k_tp : tp = tp2) (k_ta : ∀ k, ta2 k % 256 = ta k) (k_fk : fk = fk2) (k_fp : fp = fp2) (g_cl : 0 ≤ cl ∧ cl ≤ 16) (g_mn : 0 ≤ mn ∧ mn ≤ 300) (g_rn : 0 ≤ rn ∧ rn ≤ 4) (g_ks : 0 ≤ ks ∧ ks ≤ 4) (g_ox : 0 ≤ ox ∧ ox ≤ 3) (g_tm : 0 ≤ tm ∧ tm ≤ 1000000) (g_wh : ∀ k, 0 ≤ wh k ∧ wh k ≤ 15) (g_fr : ∀ k, 0 ≤ fr k ∧ fr k ≤ 1000000) (g_la : ∀ k, 0 ≤ la k ∧ la k ≤ 3) (g_ti : ∀ k, 0 ≤ ti k ∧ ti k ≤ 20) (px_0 : z = (if w ≠ 0 then (-1) else if a2 < hs (rd ((ovO a3 fr (fun _ => (shF rn sh ox 2)) on) a1 - 1) * 5 + rt ((ovO a3 fr (fun _ => (shF rn sh ox 2)) on) a1 - 1)) then 0 else 1)) (px_1 : (-1) ≤ z ∧ z ≤ 1) (px_2 : w = (if ¬ (0 ≤ a1 ∧ a1 < cl) then 1 else if a2 < 1 ∨ 60 < a2 then 2 else if (if a3 < 0 ∨ 1000000 < a3 then (2 : Int) else if a3 < tm then 9 else 0) ≠ 0 then (if a3 < 0 ∨ 1000000 < a3 then (2 : Int) else if a3 < tm then 9 else 0) else if (ovO a3 fr (fun _ => (shF rn sh ox 2)) on) a1 = 0 then 5 else if a2 ≤ ho ((ovO a3 fr (fun _ => (shF rn sh ox 2)) on) a1 - 1) ∨ hs (rd ((ovO a3 fr (fun _ => (shF rn sh ox 2)) on) a1 - 1) * 5 + rt ((ovO a3 fr (fun _ => (shF rn sh ox 2)) on) a1 - 1)) < a2 then 10 else 0)) (pm_0 : z2 = (if w2 ≠ 0 then (-1) else if a2 < hs2 (rd2 ((ovO a3 fr2 (fun k => se (rd2 k)) on) a1 - 1) * 5 + rt2 ((ovO a3 fr2 (fun k => se (rd2 k)) on) a1 - 1)) then 0 else 1)) (pm_1 : (-1) ≤ z2 ∧ z2 ≤ 1) (pm_2 : w2 = (if ¬ (0 ≤ a1 ∧ a1 < cl2) then 1 else if a2 < 1 ∨ 60 < a2 then 2 else if (if a3 < 0 ∨ 1000000 < a3 then (2 : Int) else if a3 < tm2 then 9 else 0) ≠ 0 then (if a3 < 0 ∨ 1000000 < a3 then (2 : Int) else if a3 < tm2 then 9 else 0) else if (ovO a3 fr2 (fun k => se (rd2 k)) on) a1 = 0 then 5 else if a2 ≤ ho2 ((ovO a3 fr2 (fun k => se (rd2 k)) on) a1 - 1) ∨ hs2 (rd2 ((ovO a3 fr2 (fun k => se (rd2 k)) on) a1 - 1) * 5 + rt2 ((ovO a3 fr2 (fun k => se (rd2 k)) on) a1 - 1)) < a2 then 10 else 0)) : (w = w2) ∧ ((if w = 1 ∨ w = 2 ∨ w = 9 then tm else a3) = (if w2 = 1 ∨ w2 = 2 ∨ w2 = 9 then tm2 else a3)) ∧ ((if w = 1 ∨ w = 2 ∨ w = 9 then en else if w = 0 ∧ ¬ a2 < hs (rd ((ovO a3 fr (fun _ => (shF rn sh ox 2)) on) a1 - 1) * 5 + rt ((ovO a3 fr (fun _ => (shF rn sh ox 2)) on) a1 - 1)) then u1 (ovE mn a3 hw fr (fun _ => (shF rn sh ox 2)) en) ((ovO a3 fr (fun _ => (shF rn sh ox 2)) on) a1 - 1) a3 else (ovE mn a3 hw fr (fun _ => (shF rn sh ox 2)) en)) = (if w2 = 1 ∨ w2 = 2 ∨ w2 = 9 then en2 else if w2 = 0 ∧ ¬ a2 < hs2 (rd2 ((ovO a3 fr2 (fun k => se (rd2 k)) on) a1 - 1) * 5 + rt2 ((ovO a3 fr2 (fun k => se (rd2 k)) on) a1 - 1)) then u1 (ovE mn2 a3 hw2 fr2 (fun k => se (rd2 k)) en2) ((ovO a3 fr2 (fun k => se (rd2 k)) on) a1 - 1) a3 else (ovE mn2 a3 hw2 fr2 (fun k => se (rd2 k)) en2))) ∧ ((if w = 0 then u1 ho ((ovO a3 fr (fun _ => (shF rn sh ox 2)) on) a1 - 1) a2 else ho) = (if w2 = 0 then u1 ho2 ((ovO a3 fr2 (fun k => se (rd2 k)) on) a1 - 1) a2 else ho2)) ∧ ((if w = 1 ∨ w = 2 ∨ w = 9 then hw else if w = 0 ∧ ¬ a2 < hs (rd ((ovO a3 fr (fun _ => (shF rn sh ox 2)) on) a1 - 1) * 5 + rt ((ovO a3 fr (fun _ => (shF rn sh ox 2)) on) a1 - 1)) then u1 (ovH mn a3 hw fr (fun _ => (shF rn sh ox 2))) ((ovO a3 fr (fun _ => (shF rn sh ox 2)) on) a1 - 1) 1 else (ovH mn a3 hw fr (fun _ => (shF rn sh ox 2)))) = (if w2 = 1 ∨ w2 = 2 ∨ w2 = 9 then hw2 else if w2 = 0 ∧ ¬ a2 < hs2 (rd2 ((ovO a3 fr2 (fun k => se (rd2 k)) on) a1 - 1) * 5 + rt2 ((ovO a3 fr2 (fun k => se (rd2 k)) on) a1 - 1)) then u1 (ovH mn2 a3 hw2 fr2 (fun k => se (rd2 k))) ((ovO a3 fr2 (fun k => se (rd2 k)) on) a1 - 1) 1 else (ovH mn2 a3 hw2 fr2 (fun k => se (rd2 k))))) ∧ (OI mn wh (if w = 1 ∨ w = 2 ∨ w = 9 then hw else if w = 0 ∧ ¬ a2 < hs (rd ((ovO a3 fr (fun _ => (shF rn sh ox 2)) on) a1 - 1) * 5 + rt ((ovO a3 fr (fun _ => (shF rn sh ox 2)) on) a1 - 1)) then u1 (ovH mn a3 hw fr (fun _ => (shF rn sh ox 2))) ((ovO a3 fr (fun _ => (shF rn sh ox 2)) on) a1 - 1) 1 else (ovH mn a3 hw fr (fun _ => (shF rn sh ox 2)))) (if w = 1 ∨ w = 2 ∨ w = 9 then on else if w = 0 ∧ ¬ a2 < hs (rd ((ovO a3 fr (fun _ => (shF rn sh ox 2)) on) a1 - 1) * 5 + rt ((ovO a3 fr (fun _ => (shF rn sh ox 2)) on) a1 - 1)) then u1 (ovO a3 fr (fun _ => (shF rn sh ox 2)) on) a1 0 else (ovO a3 fr (fun _ => (shF rn sh ox 2)) on))) ∧ (TI mn (if w = 1 ∨ w = 2 ∨ w = 9 then tm else a3) fr (if w = 1 ∨ w = 2 ∨ w = 9 then en else if w = 0 ∧ ¬ a2 < hs (rd ((ovO a3 fr (fun _ => (shF rn sh ox 2)) on) a1 - 1) * 5 + rt ((ovO a3 fr (fun _ => (shF rn sh ox 2)) on) a1 - 1)) then u1 (ovE mn a3 hw fr (fun _ => (shF rn sh ox 2)) en) ((ovO a3 fr (fun _ => (shF rn sh ox 2)) on) a1 - 1) a3 else (ovE mn a3 hw fr (fun _ => (shF rn sh ox 2)) en)) (if w = 1 ∨ w = 2 ∨ w = 9 then hw else if w = 0 ∧ ¬ a2 < hs (rd ((ovO a3 fr (fun _ => (shF rn sh ox 2)) on) a1 - 1) * 5 + rt ((ovO a3 fr (fun _ => (shF rn sh ox 2)) on) a1 - 1)) then u1 (ovH mn a3 hw fr (fun _ => (shF rn sh ox 2))) ((ovO a3 fr (fun _ => (shF rn sh ox 2)) on) a1 - 1) 1 else (ovH mn a3 hw fr (fun _ => (shF rn sh ox 2))))) ∧ (rH0 mn ox (if w = 1 ∨ w = 2 ∨ w = 9 then hw else if w = 0 ∧ ¬ a2 < hs (rd ((ovO a3 fr (fun _ => (shF rn sh ox 2)) on) a1 - 1) * 5 + rt ((ovO a3 fr (fun _ => (shF rn sh ox 2)) on) a1 - 1)) then u1 (ovH mn a3 hw fr (fun _ => (shF rn sh ox 2))) ((ovO a3 fr (fun _ => (shF rn sh ox 2)) on) a1 - 1) 1 else (ovH mn a3 hw fr (fun _ => (shF rn sh ox 2)))) rd) ∧ (rWi cl (if w = 1 ∨ w = 2 ∨ w = 9 then tm else a3) wo ci ti) ∧ (z = z2) := by
  subst k_tm k_rn k_it k_ks k_bk k_cl k_mn k_ap k_hs k_be k_zo k_wh k_rd k_rt k_fr k_en k_ho k_hw k_wo k_ci k_an k_ah k_ad
  have hL := rlL k_op k_h0 k_or k_sq g_cl.1
  rw [← pO k_oi hL] at pm_0 pm_2
  have hww : w = w2 := px_2.trans pm_2.symm
  subst hww
  have hz : z = z2 := px_0.trans pm_0.symm
  rw [← pO k_oi hL, ← pH hL, ← pE hL]
  by_cases hN : w = 1 ∨ w = 2 ∨ w = 9
  · have h0 : ¬ w = 0 := by omega
    simp only [if_pos hN, if_neg h0]
    exact ⟨(by first | rfl | trivial), (by first | rfl | trivial), (by first | rfl | trivial), (by first | rfl | trivial), (by first | rfl | trivial), k_oi, k_ti, k_h0, k_wi, hz⟩
  · obtain ⟨hb, hsb, hr⟩ := np4 px_2 hN
    have hO2 : OI mn wh (ovH mn a3 hw fr (fun _ => shF rn sh ox 2)) (ovO a3 fr (fun _ => shF rn sh ox 2) on) := OI_ov k_oi g_wh
    have hT2 : TI mn a3 fr (ovE mn a3 hw fr (fun _ => shF rn sh ox 2) en) (ovH mn a3 hw fr (fun _ => shF rn sh ox 2)) := TI_ov k_ti hsb.2 (fun k => (g_fr k).1) (fun _ => (shF_r k_sh).2.2.2.2.1)
    have hH2 : rH0 mn ox (ovH mn a3 hw fr (fun _ => shF rn sh ox 2)) rd := H0_ov k_h0
    have hW2 := Wi_mono k_wi hsb.2
    have h16 : 0 ≤ a1 ∧ a1 < 16 := ⟨hb.1, by omega⟩
    have hge := (hO2.1 a1 h16.1 h16.2).1
    clear px_2 pm_2 px_0 pm_0
    simp only [if_neg hN]
    generalize hJ : ovO a3 fr (fun _ => shF rn sh ox 2) on = O2 at *
    generalize hs (rd (O2 a1 - 1) * 5 + rt (O2 a1 - 1)) = LA at *
    by_cases h0 : w = 0
    · have hne := (ch1 hr h0 (by decide)).1
      by_cases hl : a2 < LA
      · have hc : ¬ (w = 0 ∧ ¬ a2 < LA) := fun q => q.2 hl
        simp only [if_neg hc]
        exact ⟨(by first | rfl | trivial), (by first | rfl | trivial), (by first | rfl | trivial), (by first | rfl | trivial), (by first | rfl | trivial), hO2, hT2, hH2, hW2, hz⟩
      · have hc : w = 0 ∧ ¬ a2 < LA := ⟨h0, hl⟩
        simp only [if_pos hc]
        exact ⟨(by first | rfl | trivial), (by first | rfl | trivial), (by first | rfl | trivial), (by first | rfl | trivial), (by first | rfl | trivial), OI_fin hO2 h16 (by omega) (by decide), TI_fin hT2 (by decide) hsb.1.1, H0_fin hH2 (by decide), hW2, hz⟩
    · have hc : ¬ (w = 0 ∧ ¬ a2 < LA) := fun q => h0 q.1
      simp only [if_neg hc]
      exact ⟨(by first | rfl | trivial), (by first | rfl | trivial), (by first | rfl | trivial), (by first | rfl | trivial), (by first | rfl | trivial), hO2, hT2, hH2, hW2, hz⟩

set_option maxHeartbeats 4000000 in
theorem rl_fall {ap ap2 bk bk2 cl cl2 fk fk2 fp fp2 it it2 ks ks2 mn mn2 om ox rn rn2 st st2 tm tm2 tp tp2 z w z2 w2 a1 a2 a3 : Int} {ad ad2 ah ah2 an an2 be be2 ci ci2 en en2 fr fr2 ho ho2 hs hs2 hw hw2 isn itm kd kk ky la nu od on ou pa pn rd rd2 re ro rt rt2 se sh ta ta2 ti tr up wh wh2 wo wo2 zo zo2 : Int → Int} (k_st : st = st2) (k_tm : tm = tm2) (k_rn : rn = rn2) (k_it : it = it2) (k_ks : ks = ks2) (k_bk : bk = bk2) (k_cl : cl = cl2) (k_mn : mn = mn2) (k_ap : ap = ap2) (k_hs : hs = hs2) (k_be : be = be2) (k_zo : zo = zo2) (k_wh : wh = wh2) (k_rd : rd = rd2) (k_rt : rt = rt2) (k_fr : fr = fr2) (k_en : en = en2) (k_ho : ho = ho2) (k_hw : hw = hw2) (k_wo : wo = wo2) (k_ci : ci = ci2) (k_an : an = an2) (k_ah : ah = ah2) (k_ad : ad = ad2) (k_sq : rSq rn sh ro tr se re) (k_cd : rCd it itm nu pa pn) (k_kd : rKd ks kk kd ky up) (k_op : rOp cl ox om mn) (k_la : rLa cl la isn) (k_lo : rLo cl ox la) (k_om : rOm cl la od) (k_oi : OI mn wh hw on) (k_ti : TI mn tm fr en hw) (k_h0 : rH0 mn ox hw rd) (k_ck : rCk mn cl wh) (k_or : rOr cl ox rn) (k_wt : rWt cl ti ou) (k_wi : rWi cl tm wo ci ti) (k_sh : shOk rn sh) (k_bx : ∀ k, 0 ≤ k → k < 20 → be k ≤ mn) (k_rp : 0 < rn2 → rpOk it2 pa) (k_bm : ∀ k, 0 ≤ k → k < 20 → be2 k ≤ mn2) (k_tp : tp = tp2) (k_ta : ∀ k, ta2 k % 256 = ta k) (k_fk : fk = fk2) (k_fp : fp = fp2) (g_cl : 0 ≤ cl ∧ cl ≤ 16) (g_mn : 0 ≤ mn ∧ mn ≤ 300) (g_rn : 0 ≤ rn ∧ rn ≤ 4) (g_ks : 0 ≤ ks ∧ ks ≤ 4) (g_ox : 0 ≤ ox ∧ ox ≤ 3) (g_tm : 0 ≤ tm ∧ tm ≤ 1000000) (g_wh : ∀ k, 0 ≤ wh k ∧ wh k ≤ 15) (g_fr : ∀ k, 0 ≤ fr k ∧ fr k ≤ 1000000) (g_la : ∀ k, 0 ≤ la k ∧ la k ≤ 3) (g_ti : ∀ k, 0 ≤ ti k ∧ ti k ≤ 20) (px_0 : z = (if w = 0 then 1 else 0)) (px_1 : w = (if ¬ (0 ≤ a1 ∧ a1 < cl) then 1 else if (if a2 < 0 ∨ 1000000 < a2 then (2 : Int) else if a2 < tm then 9 else 0) ≠ 0 then (if a2 < 0 ∨ 1000000 < a2 then (2 : Int) else if a2 < tm then 9 else 0) else if (ovO a2 fr (fun _ => (shF rn sh ox 2)) on) a1 = 0 then 5 else 0)) (pm_0 : z2 = (if w2 = 0 then 1 else 0)) (pm_1 : w2 = (if ¬ (0 ≤ a1 ∧ a1 < cl2) then 1 else if (if a2 < 0 ∨ 1000000 < a2 then (2 : Int) else if a2 < tm2 then 9 else 0) ≠ 0 then (if a2 < 0 ∨ 1000000 < a2 then (2 : Int) else if a2 < tm2 then 9 else 0) else if (ovO a2 fr2 (fun k => se (rd2 k)) on) a1 = 0 then 5 else 0)) : (w = w2) ∧ ((if w = 1 ∨ w = 2 ∨ w = 9 then tm else a2) = (if w2 = 1 ∨ w2 = 2 ∨ w2 = 9 then tm2 else a2)) ∧ ((if w = 1 ∨ w = 2 ∨ w = 9 then en else if w = 0 then u1 (ovE mn a2 hw fr (fun _ => (shF rn sh ox 2)) en) ((ovO a2 fr (fun _ => (shF rn sh ox 2)) on) a1 - 1) a2 else (ovE mn a2 hw fr (fun _ => (shF rn sh ox 2)) en)) = (if w2 = 1 ∨ w2 = 2 ∨ w2 = 9 then en2 else if w2 = 0 then u1 (ovE mn2 a2 hw2 fr2 (fun k => se (rd2 k)) en2) ((ovO a2 fr2 (fun k => se (rd2 k)) on) a1 - 1) a2 else (ovE mn2 a2 hw2 fr2 (fun k => se (rd2 k)) en2))) ∧ ((if w = 1 ∨ w = 2 ∨ w = 9 then hw else if w = 0 then u1 (ovH mn a2 hw fr (fun _ => (shF rn sh ox 2))) ((ovO a2 fr (fun _ => (shF rn sh ox 2)) on) a1 - 1) (if a3 = 0 then 2 else 4) else (ovH mn a2 hw fr (fun _ => (shF rn sh ox 2)))) = (if w2 = 1 ∨ w2 = 2 ∨ w2 = 9 then hw2 else if w2 = 0 then u1 (ovH mn2 a2 hw2 fr2 (fun k => se (rd2 k))) ((ovO a2 fr2 (fun k => se (rd2 k)) on) a1 - 1) (if a3 = 0 then 2 else 4) else (ovH mn2 a2 hw2 fr2 (fun k => se (rd2 k))))) ∧ (OI mn wh (if w = 1 ∨ w = 2 ∨ w = 9 then hw else if w = 0 then u1 (ovH mn a2 hw fr (fun _ => (shF rn sh ox 2))) ((ovO a2 fr (fun _ => (shF rn sh ox 2)) on) a1 - 1) (if a3 = 0 then 2 else 4) else (ovH mn a2 hw fr (fun _ => (shF rn sh ox 2)))) (if w = 1 ∨ w = 2 ∨ w = 9 then on else if w = 0 then u1 (ovO a2 fr (fun _ => (shF rn sh ox 2)) on) a1 0 else (ovO a2 fr (fun _ => (shF rn sh ox 2)) on))) ∧ (TI mn (if w = 1 ∨ w = 2 ∨ w = 9 then tm else a2) fr (if w = 1 ∨ w = 2 ∨ w = 9 then en else if w = 0 then u1 (ovE mn a2 hw fr (fun _ => (shF rn sh ox 2)) en) ((ovO a2 fr (fun _ => (shF rn sh ox 2)) on) a1 - 1) a2 else (ovE mn a2 hw fr (fun _ => (shF rn sh ox 2)) en)) (if w = 1 ∨ w = 2 ∨ w = 9 then hw else if w = 0 then u1 (ovH mn a2 hw fr (fun _ => (shF rn sh ox 2))) ((ovO a2 fr (fun _ => (shF rn sh ox 2)) on) a1 - 1) (if a3 = 0 then 2 else 4) else (ovH mn a2 hw fr (fun _ => (shF rn sh ox 2))))) ∧ (rH0 mn ox (if w = 1 ∨ w = 2 ∨ w = 9 then hw else if w = 0 then u1 (ovH mn a2 hw fr (fun _ => (shF rn sh ox 2))) ((ovO a2 fr (fun _ => (shF rn sh ox 2)) on) a1 - 1) (if a3 = 0 then 2 else 4) else (ovH mn a2 hw fr (fun _ => (shF rn sh ox 2)))) rd) ∧ (rWi cl (if w = 1 ∨ w = 2 ∨ w = 9 then tm else a2) wo ci ti) ∧ (z = z2) := by
  subst k_tm k_rn k_it k_ks k_bk k_cl k_mn k_ap k_hs k_be k_zo k_wh k_rd k_rt k_fr k_en k_ho k_hw k_wo k_ci k_an k_ah k_ad
  have hL := rlL k_op k_h0 k_or k_sq g_cl.1
  rw [← pO k_oi hL] at pm_1
  have hww : w = w2 := px_1.trans pm_1.symm
  subst hww
  have hz : z = z2 := px_0.trans pm_0.symm
  rw [← pO k_oi hL, ← pH hL, ← pE hL]
  have hv : (if a3 = 0 then (2 : Int) else 4) ≠ 0 := by split <;> decide
  by_cases hN : w = 1 ∨ w = 2 ∨ w = 9
  · have h0 : ¬ w = 0 := by omega
    simp only [if_pos hN]
    exact ⟨(by first | rfl | trivial), (by first | rfl | trivial), (by first | rfl | trivial), (by first | rfl | trivial), k_oi, k_ti, k_h0, k_wi, hz⟩
  · obtain ⟨hb, hsb, hr⟩ := np3 px_1 hN
    have hO2 : OI mn wh (ovH mn a2 hw fr (fun _ => shF rn sh ox 2)) (ovO a2 fr (fun _ => shF rn sh ox 2) on) := OI_ov k_oi g_wh
    have hT2 : TI mn a2 fr (ovE mn a2 hw fr (fun _ => shF rn sh ox 2) en) (ovH mn a2 hw fr (fun _ => shF rn sh ox 2)) := TI_ov k_ti hsb.2 (fun k => (g_fr k).1) (fun _ => (shF_r k_sh).2.2.2.2.1)
    have hH2 : rH0 mn ox (ovH mn a2 hw fr (fun _ => shF rn sh ox 2)) rd := H0_ov k_h0
    have hW2 := Wi_mono k_wi hsb.2
    have h16 : 0 ≤ a1 ∧ a1 < 16 := ⟨hb.1, by omega⟩
    have hge := (hO2.1 a1 h16.1 h16.2).1
    by_cases h0 : w = 0
    · have hne := (ch1 hr h0 (by decide)).1
      simp only [if_neg hN, if_pos h0]
      exact ⟨(by first | rfl | trivial), (by first | rfl | trivial), (by first | rfl | trivial), (by first | rfl | trivial), OI_fin hO2 h16 (by omega) hv, TI_fin hT2 hv hsb.1.1, H0_fin hH2 hv, hW2, hz⟩
    · simp only [if_neg hN, if_neg h0]
      exact ⟨(by first | rfl | trivial), (by first | rfl | trivial), (by first | rfl | trivial), (by first | rfl | trivial), hO2, hT2, hH2, hW2, hz⟩

set_option maxHeartbeats 4000000 in
theorem rl_out {ap ap2 bk bk2 cl cl2 fk fk2 fp fp2 it it2 ks ks2 mn mn2 om ox rn rn2 st st2 tm tm2 tp tp2 z w z2 w2 a1 a2 a3 : Int} {ad ad2 ah ah2 an an2 be be2 ci ci2 en en2 fr fr2 ho ho2 hs hs2 hw hw2 isn itm kd kk ky la nu od on ou pa pn rd rd2 re ro rt rt2 se sh ta ta2 ti tr up wh wh2 wo wo2 zo zo2 : Int → Int} (k_st : st = st2) (k_tm : tm = tm2) (k_rn : rn = rn2) (k_it : it = it2) (k_ks : ks = ks2) (k_bk : bk = bk2) (k_cl : cl = cl2) (k_mn : mn = mn2) (k_ap : ap = ap2) (k_hs : hs = hs2) (k_be : be = be2) (k_zo : zo = zo2) (k_wh : wh = wh2) (k_rd : rd = rd2) (k_rt : rt = rt2) (k_fr : fr = fr2) (k_en : en = en2) (k_ho : ho = ho2) (k_hw : hw = hw2) (k_wo : wo = wo2) (k_ci : ci = ci2) (k_an : an = an2) (k_ah : ah = ah2) (k_ad : ad = ad2) (k_sq : rSq rn sh ro tr se re) (k_cd : rCd it itm nu pa pn) (k_kd : rKd ks kk kd ky up) (k_op : rOp cl ox om mn) (k_la : rLa cl la isn) (k_lo : rLo cl ox la) (k_om : rOm cl la od) (k_oi : OI mn wh hw on) (k_ti : TI mn tm fr en hw) (k_h0 : rH0 mn ox hw rd) (k_ck : rCk mn cl wh) (k_or : rOr cl ox rn) (k_wt : rWt cl ti ou) (k_wi : rWi cl tm wo ci ti) (k_sh : shOk rn sh) (k_bx : ∀ k, 0 ≤ k → k < 20 → be k ≤ mn) (k_rp : 0 < rn2 → rpOk it2 pa) (k_bm : ∀ k, 0 ≤ k → k < 20 → be2 k ≤ mn2) (k_tp : tp = tp2) (k_ta : ∀ k, ta2 k % 256 = ta k) (k_fk : fk = fk2) (k_fp : fp = fp2) (g_cl : 0 ≤ cl ∧ cl ≤ 16) (g_mn : 0 ≤ mn ∧ mn ≤ 300) (g_rn : 0 ≤ rn ∧ rn ≤ 4) (g_ks : 0 ≤ ks ∧ ks ≤ 4) (g_ox : 0 ≤ ox ∧ ox ≤ 3) (g_tm : 0 ≤ tm ∧ tm ≤ 1000000) (g_wh : ∀ k, 0 ≤ wh k ∧ wh k ≤ 15) (g_fr : ∀ k, 0 ≤ fr k ∧ fr k ≤ 1000000) (g_la : ∀ k, 0 ≤ la k ∧ la k ≤ 3) (g_ti : ∀ k, 0 ≤ ti k ∧ ti k ≤ 20) (px_0 : z = (if w = 0 then 1 else 0)) (px_1 : w = (if ¬ (0 ≤ a1 ∧ a1 < cl) then 1 else if (if a2 < 0 ∨ 1000000 < a2 then (2 : Int) else if a2 < tm then 9 else 0) ≠ 0 then (if a2 < 0 ∨ 1000000 < a2 then (2 : Int) else if a2 < tm then 9 else 0) else if ((0 < ti a1 ∧ ci (a1 * 20 + ti a1 - 1) = (-1)) ∧ a3 = 1) ∨ (¬ (0 < ti a1 ∧ ci (a1 * 20 + ti a1 - 1) = (-1)) ∧ a3 = 0) then 10 else if a3 = 1 ∧ 20 ≤ ti a1 then 3 else 0)) (pm_0 : z2 = (if w2 = 0 then 1 else 0)) (pm_1 : w2 = (if ¬ (0 ≤ a1 ∧ a1 < cl2) then 1 else if (if a2 < 0 ∨ 1000000 < a2 then (2 : Int) else if a2 < tm2 then 9 else 0) ≠ 0 then (if a2 < 0 ∨ 1000000 < a2 then (2 : Int) else if a2 < tm2 then 9 else 0) else if ((0 < ou a1 ∧ ci2 (a1 * 20 + ou a1 - 1) = (-1)) ∧ a3 = 1) ∨ (¬ (0 < ou a1 ∧ ci2 (a1 * 20 + ou a1 - 1) = (-1)) ∧ a3 = 0) then 10 else if a3 = 1 ∧ 20 ≤ ou a1 then 3 else 0)) (h3 : a3 = 0 ∨ a3 = 1) : (w = w2) ∧ ((if w = 1 ∨ w = 2 ∨ w = 9 then tm else a2) = (if w2 = 1 ∨ w2 = 2 ∨ w2 = 9 then tm2 else a2)) ∧ ((if w = 1 ∨ w = 2 ∨ w = 9 then en else (ovE mn a2 hw fr (fun _ => (shF rn sh ox 2)) en)) = (if w2 = 1 ∨ w2 = 2 ∨ w2 = 9 then en2 else (ovE mn2 a2 hw2 fr2 (fun k => se (rd2 k)) en2))) ∧ ((if w = 1 ∨ w = 2 ∨ w = 9 then hw else (ovH mn a2 hw fr (fun _ => (shF rn sh ox 2)))) = (if w2 = 1 ∨ w2 = 2 ∨ w2 = 9 then hw2 else (ovH mn2 a2 hw2 fr2 (fun k => se (rd2 k))))) ∧ ((if w = 0 ∧ a3 ≠ 0 then u1 wo (a1 * 20 + ti a1) a2 else wo) = (if w2 = 0 ∧ a3 ≠ 0 then u1 wo2 (a1 * 20 + ou a1) a2 else wo2)) ∧ ((if w = 0 then (if a3 ≠ 0 then u1 ci (a1 * 20 + ti a1) (-1) else u1 ci (a1 * 20 + ti a1 - 1) a2) else ci) = (if w2 = 0 then (if a3 ≠ 0 then u1 ci2 (a1 * 20 + ou a1) (-1) else u1 ci2 (a1 * 20 + ou a1 - 1) a2) else ci2)) ∧ (OI mn wh (if w = 1 ∨ w = 2 ∨ w = 9 then hw else (ovH mn a2 hw fr (fun _ => (shF rn sh ox 2)))) (if w = 1 ∨ w = 2 ∨ w = 9 then on else (ovO a2 fr (fun _ => (shF rn sh ox 2)) on))) ∧ (TI mn (if w = 1 ∨ w = 2 ∨ w = 9 then tm else a2) fr (if w = 1 ∨ w = 2 ∨ w = 9 then en else (ovE mn a2 hw fr (fun _ => (shF rn sh ox 2)) en)) (if w = 1 ∨ w = 2 ∨ w = 9 then hw else (ovH mn a2 hw fr (fun _ => (shF rn sh ox 2))))) ∧ (rH0 mn ox (if w = 1 ∨ w = 2 ∨ w = 9 then hw else (ovH mn a2 hw fr (fun _ => (shF rn sh ox 2)))) rd) ∧ (rWt cl (if w = 0 ∧ a3 ≠ 0 then u1 ti a1 (ti a1 + 1) else ti) (if w2 = 0 ∧ a3 ≠ 0 then u1 ou a1 (ou a1 + 1) else ou)) ∧ (rWi cl (if w = 1 ∨ w = 2 ∨ w = 9 then tm else a2) (if w = 0 ∧ a3 ≠ 0 then u1 wo (a1 * 20 + ti a1) a2 else wo) (if w = 0 then (if a3 ≠ 0 then u1 ci (a1 * 20 + ti a1) (-1) else u1 ci (a1 * 20 + ti a1 - 1) a2) else ci) (if w = 0 ∧ a3 ≠ 0 then u1 ti a1 (ti a1 + 1) else ti)) ∧ (z = z2) := by
  subst k_tm k_rn k_it k_ks k_bk k_cl k_mn k_ap k_hs k_be k_zo k_wh k_rd k_rt k_fr k_en k_ho k_hw k_wo k_ci k_an k_ah k_ad
  have hL := rlL k_op k_h0 k_or k_sq g_cl.1
  rw [← pH hL, ← pE hL]
  by_cases hB : 0 ≤ a1 ∧ a1 < cl
  · have hti := (k_wt a1 hB.1 (by omega)).1 hB.2
    rw [← hti] at pm_1
    have hww : w = w2 := px_1.trans pm_1.symm
    subst hww
    have hz : z = z2 := px_0.trans pm_0.symm
    rw [← hti]
    by_cases hN : w = 1 ∨ w = 2 ∨ w = 9
    · have h0 : ¬ w = 0 := by omega
      have h1 : ¬ (w = 0 ∧ a3 ≠ 0) := fun q => h0 q.1
      simp only [if_pos hN, if_neg h0, if_neg h1]
      exact ⟨(by first | rfl | trivial), (by first | rfl | trivial), (by first | rfl | trivial), (by first | rfl | trivial), (by first | rfl | trivial), (by first | rfl | trivial), k_oi, k_ti, k_h0, k_wt, k_wi, hz⟩
    · obtain ⟨hb, hsb, hr⟩ := np3 px_1 hN
      have hO2 : OI mn wh (ovH mn a2 hw fr (fun _ => shF rn sh ox 2)) (ovO a2 fr (fun _ => shF rn sh ox 2) on) := OI_ov k_oi g_wh
      have hT2 : TI mn a2 fr (ovE mn a2 hw fr (fun _ => shF rn sh ox 2) en) (ovH mn a2 hw fr (fun _ => shF rn sh ox 2)) := TI_ov k_ti hsb.2 (fun k => (g_fr k).1) (fun _ => (shF_r k_sh).2.2.2.2.1)
      have hH2 : rH0 mn ox (ovH mn a2 hw fr (fun _ => shF rn sh ox 2)) rd := H0_ov k_h0
      have hW2 := Wi_mono k_wi hsb.2
      have gt := g_ti a1
      simp only [if_neg hN]
      by_cases h0 : w = 0
      · have hq := ch5 hr h0 (by decide) (by decide)
        by_cases h3 : a3 = 0
        · have h1 : ¬ (w = 0 ∧ a3 ≠ 0) := fun q => q.2 h3
          have hu : 0 < ti a1 ∧ ci (a1 * 20 + ti a1 - 1) = -1 := by
            by_cases q : 0 < ti a1 ∧ ci (a1 * 20 + ti a1 - 1) = -1
            · exact q
            · exact absurd (Or.inr ⟨q, h3⟩) hq.1
          have h3n : ¬ (a3 ≠ 0) := fun q => q h3
          simp only [if_pos h0, if_neg h1, if_neg h3n]
          refine ⟨(by first | rfl | trivial), (by first | rfl | trivial), (by first | rfl | trivial), (by first | rfl | trivial), (by first | rfl | trivial), (by first | rfl | trivial), hO2, hT2, hH2, k_wt, ?_, hz⟩
          intro c c0 c1 i i0 i1
          have h9 := hW2 c c0 c1 i i0 i1
          have gc := g_ti c
          by_cases e : c * 20 + i = a1 * 20 + ti a1 - 1
          · rw [e] at h9 ⊢
            rw [u1_s]
            have hca : c = a1 := by omega
            have h8 := (k_wi c c0 c1 i i0 i1).1
            rw [e] at h8
            exact ⟨h9.1, fun _ => by omega⟩
          · rw [u1_n e]; exact h9
        · have h1 : w = 0 ∧ a3 ≠ 0 := ⟨h0, h3⟩
          have h31 : a3 = 1 := by omega
          have h20 : ¬ 20 ≤ ti a1 := fun q => hq.2 ⟨h31, q⟩
          have h3n : a3 ≠ 0 := h3
          simp only [if_pos h0, if_pos h1, if_pos h3n]
          refine ⟨(by first | rfl | trivial), (by first | rfl | trivial), (by first | rfl | trivial), (by first | rfl | trivial), (by first | rfl | trivial), (by first | rfl | trivial), hO2, hT2, hH2, ?_, ?_, hz⟩
          · intro c c0 c1
            by_cases e : c = a1
            · subst e; rw [u1_s, u1_s]; exact ⟨fun _ => rfl, fun q => by omega⟩
            · rw [u1_n e, u1_n e]; exact k_wt c c0 c1
          · intro c c0 c1 i i0 i1
            have gc := g_ti c
            by_cases e : c = a1
            · subst e
              rw [u1_s] at i1
              by_cases e2 : i = ti c
              · subst e2; rw [u1_s, u1_s]; exact ⟨Int.le_refl _, fun q => absurd rfl q⟩
              · rw [u1_n (by omega), u1_n (by omega)]; exact hW2 c c0 c1 i i0 (by omega)
            · rw [u1_n e] at i1
              rw [u1_n (by omega), u1_n (by omega)]; exact hW2 c c0 c1 i i0 i1
      · have h1 : ¬ (w = 0 ∧ a3 ≠ 0) := fun q => h0 q.1
        simp only [if_neg h0, if_neg h1]
        exact ⟨(by first | rfl | trivial), (by first | rfl | trivial), (by first | rfl | trivial), (by first | rfl | trivial), (by first | rfl | trivial), (by first | rfl | trivial), hO2, hT2, hH2, k_wt, hW2, hz⟩
  · have e1 : w = 1 := by rw [px_1, if_pos hB]
    have e2 : w2 = 1 := by rw [pm_1, if_pos hB]
    clear px_1 pm_1
    subst e1 e2
    exact ⟨(by first | rfl | trivial), (by first | rfl | trivial), (by first | rfl | trivial), (by first | rfl | trivial), (by first | rfl | trivial), (by first | rfl | trivial), k_oi, k_ti, k_h0, k_wt, k_wi, px_0.trans pm_0.symm⟩

set_option maxHeartbeats 4000000 in
theorem rl_now {ap ap2 bk bk2 cl cl2 fk fk2 fp fp2 it it2 ks ks2 mn mn2 om ox rn rn2 st st2 tm tm2 tp tp2 z z2 : Int} {ad ad2 ah ah2 an an2 be be2 ci ci2 en en2 fr fr2 ho ho2 hs hs2 hw hw2 isn itm kd kk ky la nu od on ou pa pn rd rd2 re ro rt rt2 se sh ta ta2 ti tr up wh wh2 wo wo2 zo zo2 : Int → Int} (k_st : st = st2) (k_tm : tm = tm2) (k_rn : rn = rn2) (k_it : it = it2) (k_ks : ks = ks2) (k_bk : bk = bk2) (k_cl : cl = cl2) (k_mn : mn = mn2) (k_ap : ap = ap2) (k_hs : hs = hs2) (k_be : be = be2) (k_zo : zo = zo2) (k_wh : wh = wh2) (k_rd : rd = rd2) (k_rt : rt = rt2) (k_fr : fr = fr2) (k_en : en = en2) (k_ho : ho = ho2) (k_hw : hw = hw2) (k_wo : wo = wo2) (k_ci : ci = ci2) (k_an : an = an2) (k_ah : ah = ah2) (k_ad : ad = ad2) (k_sq : rSq rn sh ro tr se re) (k_cd : rCd it itm nu pa pn) (k_kd : rKd ks kk kd ky up) (k_op : rOp cl ox om mn) (k_la : rLa cl la isn) (k_lo : rLo cl ox la) (k_om : rOm cl la od) (k_oi : OI mn wh hw on) (k_ti : TI mn tm fr en hw) (k_h0 : rH0 mn ox hw rd) (k_ck : rCk mn cl wh) (k_or : rOr cl ox rn) (k_wt : rWt cl ti ou) (k_wi : rWi cl tm wo ci ti) (k_sh : shOk rn sh) (k_bx : ∀ k, 0 ≤ k → k < 20 → be k ≤ mn) (k_rp : 0 < rn2 → rpOk it2 pa) (k_bm : ∀ k, 0 ≤ k → k < 20 → be2 k ≤ mn2) (k_tp : tp = tp2) (k_ta : ∀ k, ta2 k % 256 = ta k) (k_fk : fk = fk2) (k_fp : fp = fp2) (g_cl : 0 ≤ cl ∧ cl ≤ 16) (g_mn : 0 ≤ mn ∧ mn ≤ 300) (g_rn : 0 ≤ rn ∧ rn ≤ 4) (g_ks : 0 ≤ ks ∧ ks ≤ 4) (g_ox : 0 ≤ ox ∧ ox ≤ 3) (g_tm : 0 ≤ tm ∧ tm ≤ 1000000) (g_wh : ∀ k, 0 ≤ wh k ∧ wh k ≤ 15) (g_fr : ∀ k, 0 ≤ fr k ∧ fr k ≤ 1000000) (g_la : ∀ k, 0 ≤ la k ∧ la k ≤ 3) (g_ti : ∀ k, 0 ≤ ti k ∧ ti k ≤ 20) (px_0 : z = tm) (px_1 : 0 ≤ z ∧ z ≤ 1000000) (pm_0 : z2 = tm2) (pm_1 : 0 ≤ z2 ∧ z2 ≤ 1000000) : ((0 : Int) = (0 : Int)) ∧ (z = z2) := by
  subst k_tm k_rn k_it k_ks k_bk k_cl k_mn k_ap k_hs k_be k_zo k_wh k_rd k_rt k_fr k_en k_ho k_hw k_wo k_ci k_an k_ah k_ad
  exact ⟨(by first | rfl | trivial), px_0.trans pm_0.symm⟩

set_option maxHeartbeats 4000000 in
theorem rl_tried {ap ap2 bk bk2 cl cl2 fk fk2 fp fp2 it it2 ks ks2 mn mn2 om ox rn rn2 st st2 tm tm2 tp tp2 z w z2 w2 a1 a2 : Int} {ad ad2 ah ah2 an an2 be be2 ci ci2 en en2 fr fr2 ho ho2 hs hs2 hw hw2 isn itm kd kk ky la nu od on ou pa pn rd rd2 re ro rt rt2 se sh ta ta2 ti tr up wh wh2 wo wo2 zo zo2 : Int → Int} (k_st : st = st2) (k_tm : tm = tm2) (k_rn : rn = rn2) (k_it : it = it2) (k_ks : ks = ks2) (k_bk : bk = bk2) (k_cl : cl = cl2) (k_mn : mn = mn2) (k_ap : ap = ap2) (k_hs : hs = hs2) (k_be : be = be2) (k_zo : zo = zo2) (k_wh : wh = wh2) (k_rd : rd = rd2) (k_rt : rt = rt2) (k_fr : fr = fr2) (k_en : en = en2) (k_ho : ho = ho2) (k_hw : hw = hw2) (k_wo : wo = wo2) (k_ci : ci = ci2) (k_an : an = an2) (k_ah : ah = ah2) (k_ad : ad = ad2) (k_sq : rSq rn sh ro tr se re) (k_cd : rCd it itm nu pa pn) (k_kd : rKd ks kk kd ky up) (k_op : rOp cl ox om mn) (k_la : rLa cl la isn) (k_lo : rLo cl ox la) (k_om : rOm cl la od) (k_oi : OI mn wh hw on) (k_ti : TI mn tm fr en hw) (k_h0 : rH0 mn ox hw rd) (k_ck : rCk mn cl wh) (k_or : rOr cl ox rn) (k_wt : rWt cl ti ou) (k_wi : rWi cl tm wo ci ti) (k_sh : shOk rn sh) (k_bx : ∀ k, 0 ≤ k → k < 20 → be k ≤ mn) (k_rp : 0 < rn2 → rpOk it2 pa) (k_bm : ∀ k, 0 ≤ k → k < 20 → be2 k ≤ mn2) (k_tp : tp = tp2) (k_ta : ∀ k, ta2 k % 256 = ta k) (k_fk : fk = fk2) (k_fp : fp = fp2) (g_cl : 0 ≤ cl ∧ cl ≤ 16) (g_mn : 0 ≤ mn ∧ mn ≤ 300) (g_rn : 0 ≤ rn ∧ rn ≤ 4) (g_ks : 0 ≤ ks ∧ ks ≤ 4) (g_ox : 0 ≤ ox ∧ ox ≤ 3) (g_tm : 0 ≤ tm ∧ tm ≤ 1000000) (g_wh : ∀ k, 0 ≤ wh k ∧ wh k ≤ 15) (g_fr : ∀ k, 0 ≤ fr k ∧ fr k ≤ 1000000) (g_la : ∀ k, 0 ≤ la k ∧ la k ≤ 3) (g_ti : ∀ k, 0 ≤ ti k ∧ ti k ≤ 20) (px_0 : z = (if w ≠ 0 then (-1) else if a2 = 0 then wh a1 else if a2 = 1 then rd a1 else if a2 = 2 then rt a1 else if a2 = 3 then fr a1 else if a2 = 4 then en a1 else if a2 = 5 then ho a1 else hw a1)) (px_1 : (-1) ≤ z ∧ z ≤ 1000999) (px_2 : w = (if ¬ (0 ≤ a1 ∧ a1 < mn) then 1 else if a2 < 0 ∨ 6 < a2 then 2 else 0)) (pm_0 : z2 = (if w2 ≠ 0 then (-1) else if a2 = 0 then wh2 a1 else if a2 = 1 then rd2 a1 else if a2 = 2 then rt2 a1 else if a2 = 3 then fr2 a1 else if a2 = 4 then en2 a1 else if a2 = 5 then ho2 a1 else hw2 a1)) (pm_1 : (-1) ≤ z2 ∧ z2 ≤ 1000999) (pm_2 : w2 = (if ¬ (0 ≤ a1 ∧ a1 < mn2) then 1 else if a2 < 0 ∨ 6 < a2 then 2 else 0)) : (w = w2) ∧ (z = z2) := by
  subst k_tm k_rn k_it k_ks k_bk k_cl k_mn k_ap k_hs k_be k_zo k_wh k_rd k_rt k_fr k_en k_ho k_hw k_wo k_ci k_an k_ah k_ad
  have hww : w = w2 := px_2.trans pm_2.symm
  subst hww
  exact ⟨(by first | rfl | trivial), px_0.trans pm_0.symm⟩

set_option maxHeartbeats 4000000 in
theorem rl_seen {ap ap2 bk bk2 cl cl2 fk fk2 fp fp2 it it2 ks ks2 mn mn2 om ox rn rn2 st st2 tm tm2 tp tp2 z w z2 w2 a1 a2 : Int} {ad ad2 ah ah2 an an2 be be2 ci ci2 en en2 fr fr2 ho ho2 hs hs2 hw hw2 isn itm kd kk ky la nu od on ou pa pn rd rd2 re ro rt rt2 se sh ta ta2 ti tr up wh wh2 wo wo2 zo zo2 : Int → Int} (k_st : st = st2) (k_tm : tm = tm2) (k_rn : rn = rn2) (k_it : it = it2) (k_ks : ks = ks2) (k_bk : bk = bk2) (k_cl : cl = cl2) (k_mn : mn = mn2) (k_ap : ap = ap2) (k_hs : hs = hs2) (k_be : be = be2) (k_zo : zo = zo2) (k_wh : wh = wh2) (k_rd : rd = rd2) (k_rt : rt = rt2) (k_fr : fr = fr2) (k_en : en = en2) (k_ho : ho = ho2) (k_hw : hw = hw2) (k_wo : wo = wo2) (k_ci : ci = ci2) (k_an : an = an2) (k_ah : ah = ah2) (k_ad : ad = ad2) (k_sq : rSq rn sh ro tr se re) (k_cd : rCd it itm nu pa pn) (k_kd : rKd ks kk kd ky up) (k_op : rOp cl ox om mn) (k_la : rLa cl la isn) (k_lo : rLo cl ox la) (k_om : rOm cl la od) (k_oi : OI mn wh hw on) (k_ti : TI mn tm fr en hw) (k_h0 : rH0 mn ox hw rd) (k_ck : rCk mn cl wh) (k_or : rOr cl ox rn) (k_wt : rWt cl ti ou) (k_wi : rWi cl tm wo ci ti) (k_sh : shOk rn sh) (k_bx : ∀ k, 0 ≤ k → k < 20 → be k ≤ mn) (k_rp : 0 < rn2 → rpOk it2 pa) (k_bm : ∀ k, 0 ≤ k → k < 20 → be2 k ≤ mn2) (k_tp : tp = tp2) (k_ta : ∀ k, ta2 k % 256 = ta k) (k_fk : fk = fk2) (k_fp : fp = fp2) (g_cl : 0 ≤ cl ∧ cl ≤ 16) (g_mn : 0 ≤ mn ∧ mn ≤ 300) (g_rn : 0 ≤ rn ∧ rn ≤ 4) (g_ks : 0 ≤ ks ∧ ks ≤ 4) (g_ox : 0 ≤ ox ∧ ox ≤ 3) (g_tm : 0 ≤ tm ∧ tm ≤ 1000000) (g_wh : ∀ k, 0 ≤ wh k ∧ wh k ≤ 15) (g_fr : ∀ k, 0 ≤ fr k ∧ fr k ≤ 1000000) (g_la : ∀ k, 0 ≤ la k ∧ la k ≤ 3) (g_ti : ∀ k, 0 ≤ ti k ∧ ti k ≤ 20) (px_0 : z = (if w ≠ 0 then (-1) else if 1 ≤ cn (pSe wh rd rt fr en wo ci ti tm a1 ox a2) mn.toNat then 1 else 0)) (px_1 : (-1) ≤ z ∧ z ≤ 1) (px_2 : w = (if ¬ ((0 ≤ a1 ∧ a1 < cl) ∧ ((0 ≤ ox ∧ ox < rn) ∧ 0 ≤ a2 ∧ a2 < sh (ox * 4))) then 1 else 0)) (pm_0 : z2 = (if w2 ≠ 0 then (-1) else if 1 ≤ cn (pSe wh2 rd2 rt2 fr2 en2 wo2 ci2 ou tm2 a1 om a2) mn2.toNat then 1 else 0)) (pm_1 : (-1) ≤ z2 ∧ z2 ≤ 1) (pm_2 : w2 = (if ¬ ((0 ≤ a1 ∧ a1 < cl2) ∧ ((0 ≤ om ∧ om < rn2) ∧ 0 ≤ a2 ∧ a2 < ro om)) then 1 else 0)) : (w = w2) ∧ (z = z2) := by
  subst k_tm k_rn k_it k_ks k_bk k_cl k_mn k_ap k_hs k_be k_zo k_wh k_rd k_rt k_fr k_en k_ho k_hw k_wo k_ci k_an k_ah k_ad
  by_cases hB : 0 ≤ a1 ∧ a1 < cl
  · have hoo : ox = om := k_op.1 (by omega)
    subst hoo
    have hti := (k_wt a1 hB.1 (by omega)).1 hB.2
    have hww : w = w2 := by
      rw [px_2, pm_2]
      exact ite_c (not_congr (and_congr Iff.rfl (kr_iff k_sq))) (fun _ => rfl) (fun _ => rfl)
    subst hww
    refine ⟨(by first | rfl | trivial), ?_⟩
    rw [px_0, pm_0, pSe_ti hti]
  · have e1 : w = 1 := by rw [px_2, if_pos (fun q => hB q.1)]
    have e2 : w2 = 1 := by rw [pm_2, if_pos (fun q => hB q.1)]
    clear px_2 pm_2
    subst e1 e2
    exact ⟨(by first | rfl | trivial), px_0.trans pm_0.symm⟩

set_option maxHeartbeats 4000000 in
theorem rl_ready {ap ap2 bk bk2 cl cl2 fk fk2 fp fp2 it it2 ks ks2 mn mn2 om ox rn rn2 st st2 tm tm2 tp tp2 z w z2 w2 a1 : Int} {ad ad2 ah ah2 an an2 be be2 ci ci2 en en2 fr fr2 ho ho2 hs hs2 hw hw2 isn itm kd kk ky la nu od on ou pa pn rd rd2 re ro rt rt2 se sh ta ta2 ti tr up wh wh2 wo wo2 zo zo2 : Int → Int} (k_st : st = st2) (k_tm : tm = tm2) (k_rn : rn = rn2) (k_it : it = it2) (k_ks : ks = ks2) (k_bk : bk = bk2) (k_cl : cl = cl2) (k_mn : mn = mn2) (k_ap : ap = ap2) (k_hs : hs = hs2) (k_be : be = be2) (k_zo : zo = zo2) (k_wh : wh = wh2) (k_rd : rd = rd2) (k_rt : rt = rt2) (k_fr : fr = fr2) (k_en : en = en2) (k_ho : ho = ho2) (k_hw : hw = hw2) (k_wo : wo = wo2) (k_ci : ci = ci2) (k_an : an = an2) (k_ah : ah = ah2) (k_ad : ad = ad2) (k_sq : rSq rn sh ro tr se re) (k_cd : rCd it itm nu pa pn) (k_kd : rKd ks kk kd ky up) (k_op : rOp cl ox om mn) (k_la : rLa cl la isn) (k_lo : rLo cl ox la) (k_om : rOm cl la od) (k_oi : OI mn wh hw on) (k_ti : TI mn tm fr en hw) (k_h0 : rH0 mn ox hw rd) (k_ck : rCk mn cl wh) (k_or : rOr cl ox rn) (k_wt : rWt cl ti ou) (k_wi : rWi cl tm wo ci ti) (k_sh : shOk rn sh) (k_bx : ∀ k, 0 ≤ k → k < 20 → be k ≤ mn) (k_rp : 0 < rn2 → rpOk it2 pa) (k_bm : ∀ k, 0 ≤ k → k < 20 → be2 k ≤ mn2) (k_tp : tp = tp2) (k_ta : ∀ k, ta2 k % 256 = ta k) (k_fk : fk = fk2) (k_fp : fp = fp2) (g_cl : 0 ≤ cl ∧ cl ≤ 16) (g_mn : 0 ≤ mn ∧ mn ≤ 300) (g_rn : 0 ≤ rn ∧ rn ≤ 4) (g_ks : 0 ≤ ks ∧ ks ≤ 4) (g_ox : 0 ≤ ox ∧ ox ≤ 3) (g_tm : 0 ≤ tm ∧ tm ≤ 1000000) (g_wh : ∀ k, 0 ≤ wh k ∧ wh k ≤ 15) (g_fr : ∀ k, 0 ≤ fr k ∧ fr k ≤ 1000000) (g_la : ∀ k, 0 ≤ la k ∧ la k ≤ 3) (g_ti : ∀ k, 0 ≤ ti k ∧ ti k ≤ 20) (px_0 : z = (if w ≠ 0 then (-1) else if tm ≤ rsF (mxE wh rd en a1 ox mn.toNat) (shF rn sh ox 3) then rsF (mxE wh rd en a1 ox mn.toNat) (shF rn sh ox 3) else tm)) (px_1 : (-1) ≤ z ∧ z ≤ 1001998) (px_2 : w = (if ¬ (0 ≤ a1 ∧ a1 < cl) then 1 else if on a1 ≠ 0 then 5 else 0)) (pm_0 : z2 = (if w2 ≠ 0 then (-1) else if tm2 ≤ rsF (mxE wh2 rd2 en2 a1 om mn2.toNat) (re om) then rsF (mxE wh2 rd2 en2 a1 om mn2.toNat) (re om) else tm2)) (pm_1 : (-1) ≤ z2 ∧ z2 ≤ 1001998) (pm_2 : w2 = (if ¬ (0 ≤ a1 ∧ a1 < cl2) then 1 else if on a1 ≠ 0 then 5 else 0)) : (w = w2) ∧ (z = z2) := by
  subst k_tm k_rn k_it k_ks k_bk k_cl k_mn k_ap k_hs k_be k_zo k_wh k_rd k_rt k_fr k_en k_ho k_hw k_wo k_ci k_an k_ah k_ad
  have hww : w = w2 := px_2.trans pm_2.symm
  subst hww
  refine ⟨(by first | rfl | trivial), ?_⟩
  by_cases hB : 0 ≤ a1 ∧ a1 < cl
  · have hoo : ox = om := k_op.1 (by omega)
    subst hoo
    rw [px_0, pm_0, sh_k3 k_sq (k_or (by omega))]
  · have e1 : w = 1 := by rw [px_2, if_pos hB]
    rw [px_0, pm_0, if_pos (by omega), if_pos (by omega)]

set_option maxHeartbeats 4000000 in
theorem rl_appeal {ap ap2 bk bk2 cl cl2 fk fk2 fp fp2 it it2 ks ks2 mn mn2 om ox rn rn2 st st2 tm tm2 tp tp2 z w z2 w2 a1 a2 a3 : Int} {ad ad2 ah ah2 an an2 be be2 ci ci2 en en2 fr fr2 ho ho2 hs hs2 hw hw2 isn itm kd kk ky la nu od on ou pa pn rd rd2 re ro rt rt2 se sh ta ta2 ti tr up wh wh2 wo wo2 zo zo2 : Int → Int} (k_st : st = st2) (k_tm : tm = tm2) (k_rn : rn = rn2) (k_it : it = it2) (k_ks : ks = ks2) (k_bk : bk = bk2) (k_cl : cl = cl2) (k_mn : mn = mn2) (k_ap : ap = ap2) (k_hs : hs = hs2) (k_be : be = be2) (k_zo : zo = zo2) (k_wh : wh = wh2) (k_rd : rd = rd2) (k_rt : rt = rt2) (k_fr : fr = fr2) (k_en : en = en2) (k_ho : ho = ho2) (k_hw : hw = hw2) (k_wo : wo = wo2) (k_ci : ci = ci2) (k_an : an = an2) (k_ah : ah = ah2) (k_ad : ad = ad2) (k_sq : rSq rn sh ro tr se re) (k_cd : rCd it itm nu pa pn) (k_kd : rKd ks kk kd ky up) (k_op : rOp cl ox om mn) (k_la : rLa cl la isn) (k_lo : rLo cl ox la) (k_om : rOm cl la od) (k_oi : OI mn wh hw on) (k_ti : TI mn tm fr en hw) (k_h0 : rH0 mn ox hw rd) (k_ck : rCk mn cl wh) (k_or : rOr cl ox rn) (k_wt : rWt cl ti ou) (k_wi : rWi cl tm wo ci ti) (k_sh : shOk rn sh) (k_bx : ∀ k, 0 ≤ k → k < 20 → be k ≤ mn) (k_rp : 0 < rn2 → rpOk it2 pa) (k_bm : ∀ k, 0 ≤ k → k < 20 → be2 k ≤ mn2) (k_tp : tp = tp2) (k_ta : ∀ k, ta2 k % 256 = ta k) (k_fk : fk = fk2) (k_fp : fp = fp2) (g_cl : 0 ≤ cl ∧ cl ≤ 16) (g_mn : 0 ≤ mn ∧ mn ≤ 300) (g_rn : 0 ≤ rn ∧ rn ≤ 4) (g_ks : 0 ≤ ks ∧ ks ≤ 4) (g_ox : 0 ≤ ox ∧ ox ≤ 3) (g_tm : 0 ≤ tm ∧ tm ≤ 1000000) (g_wh : ∀ k, 0 ≤ wh k ∧ wh k ≤ 15) (g_fr : ∀ k, 0 ≤ fr k ∧ fr k ≤ 1000000) (g_la : ∀ k, 0 ≤ la k ∧ la k ≤ 3) (g_ti : ∀ k, 0 ≤ ti k ∧ ti k ≤ 20) (px_0 : z = (if w = 0 then 1 else 0)) (px_1 : w = (if ¬ (0 ≤ a1 ∧ a1 < mn) then 1 else if a2 < 0 ∨ hs (rd a1 * 5 + rt a1) < a2 ∨ ¬ (0 ≤ a3 ∧ a3 ≤ 999) then 2 else if hw a1 = 0 ∨ hw a1 = 4 then 10 else if 40 ≤ ap then 3 else 0)) (pm_0 : z2 = (if w2 = 0 then 1 else 0)) (pm_1 : w2 = (if ¬ (0 ≤ a1 ∧ a1 < mn2) then 1 else if a2 < 0 ∨ hs2 (rd2 a1 * 5 + rt2 a1) < a2 ∨ ¬ (0 ≤ a3 ∧ a3 ≤ 999) then 2 else if hw2 a1 = 0 ∨ hw2 a1 = 4 then 10 else if 40 ≤ ap2 then 3 else 0)) : (w = w2) ∧ ((if w = 0 then ap + 1 else ap) = (if w2 = 0 then ap2 + 1 else ap2)) ∧ ((if w = 0 then u1 an ap a1 else an) = (if w2 = 0 then u1 an2 ap2 a1 else an2)) ∧ ((if w = 0 then u1 ah ap a2 else ah) = (if w2 = 0 then u1 ah2 ap2 a2 else ah2)) ∧ ((if w = 0 then u1 ad ap a3 else ad) = (if w2 = 0 then u1 ad2 ap2 a3 else ad2)) ∧ (z = z2) := by
  subst k_tm k_rn k_it k_ks k_bk k_cl k_mn k_ap k_hs k_be k_zo k_wh k_rd k_rt k_fr k_en k_ho k_hw k_wo k_ci k_an k_ah k_ad
  have hww : w = w2 := px_1.trans pm_1.symm
  subst hww
  exact ⟨(by first | rfl | trivial), (by first | rfl | trivial), (by first | rfl | trivial), (by first | rfl | trivial), (by first | rfl | trivial), px_0.trans pm_0.symm⟩

set_option maxHeartbeats 4000000 in
theorem rl_of {ap ap2 bk bk2 cl cl2 fk fk2 fp fp2 it it2 ks ks2 mn mn2 om ox rn rn2 st st2 tm tm2 tp tp2 z w z2 w2 a1 a2 a3 a4 a5 : Int} {ad ad2 ah ah2 an an2 be be2 ci ci2 en en2 fr fr2 ho ho2 hs hs2 hw hw2 isn itm kd kk ky la nu od on ou pa pn rd rd2 re ro rt rt2 se sh ta ta2 ti tr up wh wh2 wo wo2 zo zo2 : Int → Int} (k_st : st = st2) (k_tm : tm = tm2) (k_rn : rn = rn2) (k_it : it = it2) (k_ks : ks = ks2) (k_bk : bk = bk2) (k_cl : cl = cl2) (k_mn : mn = mn2) (k_ap : ap = ap2) (k_hs : hs = hs2) (k_be : be = be2) (k_zo : zo = zo2) (k_wh : wh = wh2) (k_rd : rd = rd2) (k_rt : rt = rt2) (k_fr : fr = fr2) (k_en : en = en2) (k_ho : ho = ho2) (k_hw : hw = hw2) (k_wo : wo = wo2) (k_ci : ci = ci2) (k_an : an = an2) (k_ah : ah = ah2) (k_ad : ad = ad2) (k_sq : rSq rn sh ro tr se re) (k_cd : rCd it itm nu pa pn) (k_kd : rKd ks kk kd ky up) (k_op : rOp cl ox om mn) (k_la : rLa cl la isn) (k_lo : rLo cl ox la) (k_om : rOm cl la od) (k_oi : OI mn wh hw on) (k_ti : TI mn tm fr en hw) (k_h0 : rH0 mn ox hw rd) (k_ck : rCk mn cl wh) (k_or : rOr cl ox rn) (k_wt : rWt cl ti ou) (k_wi : rWi cl tm wo ci ti) (k_sh : shOk rn sh) (k_bx : ∀ k, 0 ≤ k → k < 20 → be k ≤ mn) (k_rp : 0 < rn2 → rpOk it2 pa) (k_bm : ∀ k, 0 ≤ k → k < 20 → be2 k ≤ mn2) (k_tp : tp = tp2) (k_ta : ∀ k, ta2 k % 256 = ta k) (k_fk : fk = fk2) (k_fp : fp = fp2) (g_cl : 0 ≤ cl ∧ cl ≤ 16) (g_mn : 0 ≤ mn ∧ mn ≤ 300) (g_rn : 0 ≤ rn ∧ rn ≤ 4) (g_ks : 0 ≤ ks ∧ ks ≤ 4) (g_ox : 0 ≤ ox ∧ ox ≤ 3) (g_tm : 0 ≤ tm ∧ tm ≤ 1000000) (g_wh : ∀ k, 0 ≤ wh k ∧ wh k ≤ 15) (g_fr : ∀ k, 0 ≤ fr k ∧ fr k ≤ 1000000) (g_la : ∀ k, 0 ≤ la k ∧ la k ≤ 3) (g_ti : ∀ k, 0 ≤ ti k ∧ ti k ≤ 20) (px_0 : z = (if w ≠ 0 then (-1) else if a5 = 6 then evR itm nu (gFd wh rd rt fr en ho hw an ah ad hs zo mn ap a4 a1 a2 a3) it else gFd wh rd rt fr en ho hw an ah ad hs zo mn ap a4 a1 a2 a3 a5)) (px_1 : (-1000000000) ≤ z ∧ z ≤ 1000000000) (px_2 : w = (if ¬ (((0 ≤ a1 ∧ a1 < rn) ∧ 0 ≤ a2 ∧ a2 < sh (a1 * 4)) ∧ (0 ≤ a3 ∧ a3 < cl)) then 1 else if ¬ (0 ≤ a4 ∧ a4 ≤ 999) ∨ a5 < 0 ∨ 6 < a5 then 2 else 0)) (pm_0 : z2 = (if w2 ≠ 0 then (-1) else if a5 = 6 then evR (fun k => mcG (pa k)) pn (gFd wh2 rd2 rt2 fr2 en2 ho2 hw2 an2 ah2 ad2 hs2 zo2 mn2 ap2 a4 a1 a2 a3) it2 else gFd wh2 rd2 rt2 fr2 en2 ho2 hw2 an2 ah2 ad2 hs2 zo2 mn2 ap2 a4 a1 a2 a3 a5)) (pm_1 : (-1000000000) ≤ z2 ∧ z2 ≤ 1000000000) (pm_2 : w2 = (if ¬ (((0 ≤ a1 ∧ a1 < rn2) ∧ 0 ≤ a2 ∧ a2 < ro a1) ∧ (0 ≤ a3 ∧ a3 < cl2)) then 1 else if ¬ (0 ≤ a4 ∧ a4 ≤ 999) ∨ a5 < 0 ∨ 6 < a5 then 2 else 0)) : (w = w2) ∧ (z = z2) := by
  subst k_tm k_rn k_it k_ks k_bk k_cl k_mn k_ap k_hs k_be k_zo k_wh k_rd k_rt k_fr k_en k_ho k_hw k_wo k_ci k_an k_ah k_ad
  have hww : w = w2 := by
    rw [px_2, pm_2]
    exact ite_c (not_congr (and_congr (kr_iff k_sq) Iff.rfl)) (fun _ => rfl) (fun _ => rfl)
  subst hww
  refine ⟨(by first | rfl | trivial), ?_⟩
  rw [px_0, pm_0]
  exact ite_c Iff.rfl (fun _ => rfl) (fun _ => ite_c Iff.rfl (fun _ => (fun fa => evR_it rfl (it2 := fun k => mcG (pa k)) (fun k k0 k1 => k_cd k k0 k1) fa) _) (fun _ => rfl))

set_option maxHeartbeats 4000000 in
theorem rl_key {ap ap2 bk bk2 cl cl2 fk fk2 fp fp2 it it2 ks ks2 mn mn2 om ox rn rn2 st st2 tm tm2 tp tp2 z w z2 w2 a1 a2 a3 a4 : Int} {ad ad2 ah ah2 an an2 be be2 ci ci2 en en2 fr fr2 ho ho2 hs hs2 hw hw2 isn itm kd kk ky la nu od on ou pa pn rd rd2 re ro rt rt2 se sh ta ta2 ti tr up wh wh2 wo wo2 zo zo2 : Int → Int} (k_st : st = st2) (k_tm : tm = tm2) (k_rn : rn = rn2) (k_it : it = it2) (k_ks : ks = ks2) (k_bk : bk = bk2) (k_cl : cl = cl2) (k_mn : mn = mn2) (k_ap : ap = ap2) (k_hs : hs = hs2) (k_be : be = be2) (k_zo : zo = zo2) (k_wh : wh = wh2) (k_rd : rd = rd2) (k_rt : rt = rt2) (k_fr : fr = fr2) (k_en : en = en2) (k_ho : ho = ho2) (k_hw : hw = hw2) (k_wo : wo = wo2) (k_ci : ci = ci2) (k_an : an = an2) (k_ah : ah = ah2) (k_ad : ad = ad2) (k_sq : rSq rn sh ro tr se re) (k_cd : rCd it itm nu pa pn) (k_kd : rKd ks kk kd ky up) (k_op : rOp cl ox om mn) (k_la : rLa cl la isn) (k_lo : rLo cl ox la) (k_om : rOm cl la od) (k_oi : OI mn wh hw on) (k_ti : TI mn tm fr en hw) (k_h0 : rH0 mn ox hw rd) (k_ck : rCk mn cl wh) (k_or : rOr cl ox rn) (k_wt : rWt cl ti ou) (k_wi : rWi cl tm wo ci ti) (k_sh : shOk rn sh) (k_bx : ∀ k, 0 ≤ k → k < 20 → be k ≤ mn) (k_rp : 0 < rn2 → rpOk it2 pa) (k_bm : ∀ k, 0 ≤ k → k < 20 → be2 k ≤ mn2) (k_tp : tp = tp2) (k_ta : ∀ k, ta2 k % 256 = ta k) (k_fk : fk = fk2) (k_fp : fp = fp2) (g_cl : 0 ≤ cl ∧ cl ≤ 16) (g_mn : 0 ≤ mn ∧ mn ≤ 300) (g_rn : 0 ≤ rn ∧ rn ≤ 4) (g_ks : 0 ≤ ks ∧ ks ≤ 4) (g_ox : 0 ≤ ox ∧ ox ≤ 3) (g_tm : 0 ≤ tm ∧ tm ≤ 1000000) (g_wh : ∀ k, 0 ≤ wh k ∧ wh k ≤ 15) (g_fr : ∀ k, 0 ≤ fr k ∧ fr k ≤ 1000000) (g_la : ∀ k, 0 ≤ la k ∧ la k ≤ 3) (g_ti : ∀ k, 0 ≤ ti k ∧ ti k ≤ 20) (px_0 : z = (if w ≠ 0 then (-1) else (kvF itm nu kk (fun r => sh (r * 4)) it (gFd wh rd rt fr en ho hw an ah ad hs zo mn ap a3)) a1 a2 a4)) (px_1 : w = (if ¬ (((0 ≤ a1 ∧ a1 < rn) ∧ (0 ≤ a2 ∧ a2 < cl) ∧ a1 ≤ la a2) ∧ 0 ≤ a4 ∧ a4 < ks) then 1 else if ¬ (0 ≤ a3 ∧ a3 ≤ 999) then 2 else 0)) (pm_0 : z2 = (if w2 ≠ 0 then (-1) else (kvF (fun k => mcG (pa k)) pn ky ro it2 (gFd wh2 rd2 rt2 fr2 en2 ho2 hw2 an2 ah2 ad2 hs2 zo2 mn2 ap2 a3)) a1 a2 a4)) (pm_1 : (-5000000000) ≤ z2 ∧ z2 ≤ 5000000000) (pm_2 : w2 = (if ¬ (((0 ≤ a1 ∧ a1 < rn2) ∧ (0 ≤ a2 ∧ a2 < cl2) ∧ isn (16 * a1 + a2) ≠ 0) ∧ 0 ≤ a4 ∧ a4 < ks2) then 1 else if ¬ (0 ≤ a3 ∧ a3 ≤ 999) then 2 else 0)) : (w = w2) ∧ (z = z2) := by
  subst k_tm k_rn k_it k_ks k_bk k_cl k_mn k_ap k_hs k_be k_zo k_wh k_rd k_rt k_fr k_en k_ho k_hw k_wo k_ci k_an k_ah k_ad
  have hww : w = w2 := by
    rw [px_1, pm_2]
    exact ite_c (not_congr (and_congr (inr_iff k_la g_rn.2) Iff.rfl)) (fun _ => rfl) (fun _ => rfl)
  subst hww
  refine ⟨(by first | rfl | trivial), ?_⟩
  rw [px_0, pm_0]
  refine ite_c Iff.rfl (fun _ => rfl) (fun h => ?_)
  have h1 := Classical.not_not.mp (ch1 px_1 (Classical.not_not.mp h) (by decide)).1
  unfold kvF
  dsimp only
  rw [(k_sq a1 h1.1.1.1 h1.1.1.2).1, (k_kd a4 h1.2.1 h1.2.2).1]
  exact kV_ev (fun fa => evR_it rfl (it2 := fun k => mcG (pa k)) (fun k k0 k1 => k_cd k k0 k1) fa)

set_option maxHeartbeats 4000000 in
theorem rl_rank {ap ap2 bk bk2 cl cl2 fk fk2 fp fp2 it it2 ks ks2 mn mn2 om ox rn rn2 st st2 tm tm2 tp tp2 z w z2 w2 a1 a2 a3 : Int} {ad ad2 ah ah2 an an2 be be2 ci ci2 en en2 fr fr2 ho ho2 hs hs2 hw hw2 isn itm kd kk ky la nu od on ou pa pn rd rd2 re ro rt rt2 se sh ta ta2 ti tr up wh wh2 wo wo2 zo zo2 : Int → Int} (k_st : st = st2) (k_tm : tm = tm2) (k_rn : rn = rn2) (k_it : it = it2) (k_ks : ks = ks2) (k_bk : bk = bk2) (k_cl : cl = cl2) (k_mn : mn = mn2) (k_ap : ap = ap2) (k_hs : hs = hs2) (k_be : be = be2) (k_zo : zo = zo2) (k_wh : wh = wh2) (k_rd : rd = rd2) (k_rt : rt = rt2) (k_fr : fr = fr2) (k_en : en = en2) (k_ho : ho = ho2) (k_hw : hw = hw2) (k_wo : wo = wo2) (k_ci : ci = ci2) (k_an : an = an2) (k_ah : ah = ah2) (k_ad : ad = ad2) (k_sq : rSq rn sh ro tr se re) (k_cd : rCd it itm nu pa pn) (k_kd : rKd ks kk kd ky up) (k_op : rOp cl ox om mn) (k_la : rLa cl la isn) (k_lo : rLo cl ox la) (k_om : rOm cl la od) (k_oi : OI mn wh hw on) (k_ti : TI mn tm fr en hw) (k_h0 : rH0 mn ox hw rd) (k_ck : rCk mn cl wh) (k_or : rOr cl ox rn) (k_wt : rWt cl ti ou) (k_wi : rWi cl tm wo ci ti) (k_sh : shOk rn sh) (k_bx : ∀ k, 0 ≤ k → k < 20 → be k ≤ mn) (k_rp : 0 < rn2 → rpOk it2 pa) (k_bm : ∀ k, 0 ≤ k → k < 20 → be2 k ≤ mn2) (k_tp : tp = tp2) (k_ta : ∀ k, ta2 k % 256 = ta k) (k_fk : fk = fk2) (k_fp : fp = fp2) (g_cl : 0 ≤ cl ∧ cl ≤ 16) (g_mn : 0 ≤ mn ∧ mn ≤ 300) (g_rn : 0 ≤ rn ∧ rn ≤ 4) (g_ks : 0 ≤ ks ∧ ks ≤ 4) (g_ox : 0 ≤ ox ∧ ox ≤ 3) (g_tm : 0 ≤ tm ∧ tm ≤ 1000000) (g_wh : ∀ k, 0 ≤ wh k ∧ wh k ≤ 15) (g_fr : ∀ k, 0 ≤ fr k ∧ fr k ≤ 1000000) (g_la : ∀ k, 0 ≤ la k ∧ la k ≤ 3) (g_ti : ∀ k, 0 ≤ ti k ∧ ti k ≤ 20) (px_0 : z = (if w ≠ 0 then (-1) else rkF (kvF itm nu kk (fun r => sh (r * 4)) it (gFd wh rd rt fr en ho hw an ah ad hs zo mn ap a3)) kd ks bk la cl a1 a2)) (px_1 : (-1) ≤ z ∧ z ≤ 17) (px_2 : w = (if ¬ ((0 ≤ a1 ∧ a1 < rn) ∧ (0 ≤ a2 ∧ a2 < cl) ∧ a1 ≤ la a2) then 1 else if ¬ (0 ≤ a3 ∧ a3 ≤ 999) then 2 else 0)) (pm_0 : z2 = (if w2 ≠ 0 then (-1) else rkF (kvF (fun k => mcG (pa k)) pn ky ro it2 (gFd wh2 rd2 rt2 fr2 en2 ho2 hw2 an2 ah2 ad2 hs2 zo2 mn2 ap2 a3)) (fun k => 1 - up k) ks2 bk2 (liF isn a1) cl2 a1 a2)) (pm_1 : (-1) ≤ z2 ∧ z2 ≤ 17) (pm_2 : w2 = (if ¬ ((0 ≤ a1 ∧ a1 < rn2) ∧ (0 ≤ a2 ∧ a2 < cl2) ∧ isn (16 * a1 + a2) ≠ 0) then 1 else if ¬ (0 ≤ a3 ∧ a3 ≤ 999) then 2 else 0)) : (w = w2) ∧ (z = z2) := by
  subst k_tm k_rn k_it k_ks k_bk k_cl k_mn k_ap k_hs k_be k_zo k_wh k_rd k_rt k_fr k_en k_ho k_hw k_wo k_ci k_an k_ah k_ad
  have hww : w = w2 := by
    rw [px_2, pm_2]
    exact ite_c (not_congr (inr_iff k_la g_rn.2)) (fun _ => rfl) (fun _ => rfl)
  subst hww
  refine ⟨(by first | rfl | trivial), ?_⟩
  rw [px_0, pm_0]
  refine ite_c Iff.rfl (fun _ => rfl) (fun h => ?_)
  have h1 := Classical.not_not.mp (ch1 px_2 (Classical.not_not.mp h) (by decide)).1
  exact rkF_la g_ks.1 h1.1.1 h1.2.1 (fun o o0 o1 => liF_le ((k_la a1 o h1.1.1 (by omega) o0).1 o1)) (fun k k0 k1 => (k_kd k k0 k1).2) (fun s o k s0 s1 o0 o1 k0 k1 => by unfold kvF; dsimp only; rw [(k_sq s s0 (by omega)).1, (k_kd k k0 k1).1]; exact kV_ev (fun fa => evR_it rfl (it2 := fun k => mcG (pa k)) (fun k k0 k1 => k_cd k k0 k1) fa))

set_option maxHeartbeats 4000000 in
theorem rl_order {ap ap2 bk bk2 cl cl2 fk fk2 fp fp2 it it2 ks ks2 mn mn2 om ox rn rn2 st st2 tm tm2 tp tp2 z w z2 w2 a1 a2 : Int} {ad ad2 ah ah2 an an2 be be2 ci ci2 en en2 fr fr2 ho ho2 hs hs2 hw hw2 isn itm kd kk ky la nu od on ou pa pn rd rd2 re ro rt rt2 se sh ta ta2 ti tr up wh wh2 wo wo2 zo zo2 : Int → Int} (k_st : st = st2) (k_tm : tm = tm2) (k_rn : rn = rn2) (k_it : it = it2) (k_ks : ks = ks2) (k_bk : bk = bk2) (k_cl : cl = cl2) (k_mn : mn = mn2) (k_ap : ap = ap2) (k_hs : hs = hs2) (k_be : be = be2) (k_zo : zo = zo2) (k_wh : wh = wh2) (k_rd : rd = rd2) (k_rt : rt = rt2) (k_fr : fr = fr2) (k_en : en = en2) (k_ho : ho = ho2) (k_hw : hw = hw2) (k_wo : wo = wo2) (k_ci : ci = ci2) (k_an : an = an2) (k_ah : ah = ah2) (k_ad : ad = ad2) (k_sq : rSq rn sh ro tr se re) (k_cd : rCd it itm nu pa pn) (k_kd : rKd ks kk kd ky up) (k_op : rOp cl ox om mn) (k_la : rLa cl la isn) (k_lo : rLo cl ox la) (k_om : rOm cl la od) (k_oi : OI mn wh hw on) (k_ti : TI mn tm fr en hw) (k_h0 : rH0 mn ox hw rd) (k_ck : rCk mn cl wh) (k_or : rOr cl ox rn) (k_wt : rWt cl ti ou) (k_wi : rWi cl tm wo ci ti) (k_sh : shOk rn sh) (k_bx : ∀ k, 0 ≤ k → k < 20 → be k ≤ mn) (k_rp : 0 < rn2 → rpOk it2 pa) (k_bm : ∀ k, 0 ≤ k → k < 20 → be2 k ≤ mn2) (k_tp : tp = tp2) (k_ta : ∀ k, ta2 k % 256 = ta k) (k_fk : fk = fk2) (k_fp : fp = fp2) (g_cl : 0 ≤ cl ∧ cl ≤ 16) (g_mn : 0 ≤ mn ∧ mn ≤ 300) (g_rn : 0 ≤ rn ∧ rn ≤ 4) (g_ks : 0 ≤ ks ∧ ks ≤ 4) (g_ox : 0 ≤ ox ∧ ox ≤ 3) (g_tm : 0 ≤ tm ∧ tm ≤ 1000000) (g_wh : ∀ k, 0 ≤ wh k ∧ wh k ≤ 15) (g_fr : ∀ k, 0 ≤ fr k ∧ fr k ≤ 1000000) (g_la : ∀ k, 0 ≤ la k ∧ la k ≤ 3) (g_ti : ∀ k, 0 ≤ ti k ∧ ti k ≤ 20) (px_0 : (-1) ≤ z ∧ z ≤ 16) (px_1 : w = (if ¬ ((0 ≤ a1 ∧ a1 < rn) ∧ 0 ≤ a2 ∧ a2 < cn (pIn la a1) cl.toNat) then 1 else 0)) (pm_0 : (-1) ≤ z2 ∧ z2 ≤ 15) (pm_1 : w2 = (if ¬ ((0 ≤ a1 ∧ a1 < rn2) ∧ 0 ≤ a2 ∧ a2 < od a1) then 1 else 0)) : (w = w2) := by
  subst k_tm k_rn k_it k_ks k_bk k_cl k_mn k_ap k_hs k_be k_zo k_wh k_rd k_rt k_fr k_en k_ho k_hw k_wo k_ci k_an k_ah k_ad
  rw [px_1, pm_1]
  refine ite_c (not_congr ⟨fun q => ⟨q.1, q.2.1, ?_⟩, fun q => ⟨q.1, q.2.1, ?_⟩⟩) (fun _ => rfl) (fun _ => rfl)
  · rw [k_om a1 q.1.1 (by omega)]; exact q.2.2
  · rw [← k_om a1 q.1.1 (by omega)]; exact q.2.2

set_option maxHeartbeats 4000000 in
theorem rl_parts {ap ap2 bk bk2 cl cl2 fk fk2 fp fp2 it it2 ks ks2 mn mn2 om ox rn rn2 st st2 tm tm2 tp tp2 z w z2 w2 a1 a2 a3 : Int} {ad ad2 ah ah2 an an2 be be2 ci ci2 en en2 fr fr2 ho ho2 hs hs2 hw hw2 isn itm kd kk ky la nu od on ou pa pn rd rd2 re ro rt rt2 se sh ta ta2 ti tr up wh wh2 wo wo2 zo zo2 : Int → Int} (k_st : st = st2) (k_tm : tm = tm2) (k_rn : rn = rn2) (k_it : it = it2) (k_ks : ks = ks2) (k_bk : bk = bk2) (k_cl : cl = cl2) (k_mn : mn = mn2) (k_ap : ap = ap2) (k_hs : hs = hs2) (k_be : be = be2) (k_zo : zo = zo2) (k_wh : wh = wh2) (k_rd : rd = rd2) (k_rt : rt = rt2) (k_fr : fr = fr2) (k_en : en = en2) (k_ho : ho = ho2) (k_hw : hw = hw2) (k_wo : wo = wo2) (k_ci : ci = ci2) (k_an : an = an2) (k_ah : ah = ah2) (k_ad : ad = ad2) (k_sq : rSq rn sh ro tr se re) (k_cd : rCd it itm nu pa pn) (k_kd : rKd ks kk kd ky up) (k_op : rOp cl ox om mn) (k_la : rLa cl la isn) (k_lo : rLo cl ox la) (k_om : rOm cl la od) (k_oi : OI mn wh hw on) (k_ti : TI mn tm fr en hw) (k_h0 : rH0 mn ox hw rd) (k_ck : rCk mn cl wh) (k_or : rOr cl ox rn) (k_wt : rWt cl ti ou) (k_wi : rWi cl tm wo ci ti) (k_sh : shOk rn sh) (k_bx : ∀ k, 0 ≤ k → k < 20 → be k ≤ mn) (k_rp : 0 < rn2 → rpOk it2 pa) (k_bm : ∀ k, 0 ≤ k → k < 20 → be2 k ≤ mn2) (k_tp : tp = tp2) (k_ta : ∀ k, ta2 k % 256 = ta k) (k_fk : fk = fk2) (k_fp : fp = fp2) (g_cl : 0 ≤ cl ∧ cl ≤ 16) (g_mn : 0 ≤ mn ∧ mn ≤ 300) (g_rn : 0 ≤ rn ∧ rn ≤ 4) (g_ks : 0 ≤ ks ∧ ks ≤ 4) (g_ox : 0 ≤ ox ∧ ox ≤ 3) (g_tm : 0 ≤ tm ∧ tm ≤ 1000000) (g_wh : ∀ k, 0 ≤ wh k ∧ wh k ≤ 15) (g_fr : ∀ k, 0 ≤ fr k ∧ fr k ≤ 1000000) (g_la : ∀ k, 0 ≤ la k ∧ la k ≤ 3) (g_ti : ∀ k, 0 ≤ ti k ∧ ti k ≤ 20) (px_0 : z = (if w ≠ 0 then (-1) else prC la a1 (tgU (fun c t => evR itm nu (gFd wh rd rt fr en ho hw an ah ad hs zo mn ap a3 a1 t c) it) a2) cl.toNat)) (px_1 : (-1) ≤ z ∧ z ≤ 256) (px_2 : w = (if ¬ (0 ≤ a1 ∧ a1 < rn) then 1 else if a2 < 0 ∨ pw2 (shF rn sh a1 0) ≤ a2 ∨ ¬ (0 ≤ a3 ∧ a3 ≤ 999) then 2 else 0)) (pm_0 : z2 = (if w2 ≠ 0 then (-1) else prC (liF isn a1) a1 (tgU (fun c t => evR (fun k => mcG (pa k)) pn (gFd wh2 rd2 rt2 fr2 en2 ho2 hw2 an2 ah2 ad2 hs2 zo2 mn2 ap2 a3 a1 t c) it2) a2) cl2.toNat)) (pm_1 : (-1) ≤ z2 ∧ z2 ≤ 256) (pm_2 : w2 = (if ¬ (0 ≤ a1 ∧ a1 < rn2) then 1 else if a2 < 0 ∨ pw2 (ro a1) ≤ a2 ∨ ¬ (0 ≤ a3 ∧ a3 ≤ 999) then 2 else 0)) : (w = w2) ∧ (z = z2) := by
  subst k_tm k_rn k_it k_ks k_bk k_cl k_mn k_ap k_hs k_be k_zo k_wh k_rd k_rt k_fr k_en k_ho k_hw k_wo k_ci k_an k_ah k_ad
  have hww : w = w2 := by
    rw [px_2, pm_2]
    refine ite_c Iff.rfl (fun _ => rfl) (fun h => ?_)
    rw [sh_k0 k_sq (Classical.not_not.mp h)]
  subst hww
  refine ⟨(by first | rfl | trivial), ?_⟩
  rw [px_0, pm_0]
  refine ite_c Iff.rfl (fun _ => rfl) (fun h => ?_)
  have h1 := Classical.not_not.mp (ch1 px_2 (Classical.not_not.mp h) (by decide)).1
  rw [pt_ev (g := fun c t => gFd wh rd rt fr en ho hw an ah ad hs zo mn ap a3 a1 t c) (fun fa => evR_it rfl (it2 := fun k => mcG (pa k)) (fun k k0 k1 => k_cd k k0 k1) fa)]
  exact prC_la _ (fun k hk => liF_le ((k_la a1 k h1.1 (by omega) (by omega)).1 (by omega)))

set_option maxHeartbeats 4000000 in
theorem rl_choose {ap ap2 bk bk2 cl cl2 fk fk2 fp fp2 it it2 ks ks2 mn mn2 om ox rn rn2 st st2 tm tm2 tp tp2 z w z2 w2 a1 a2 a3 : Int} {ad ad2 ah ah2 an an2 be be2 ci ci2 en en2 fr fr2 ho ho2 hs hs2 hw hw2 isn itm kd kk ky la nu od on ou pa pn rd rd2 re ro rt rt2 se sh ta ta2 ti tr up wh wh2 wo wo2 zo zo2 : Int → Int} (k_st : st = st2) (k_tm : tm = tm2) (k_rn : rn = rn2) (k_it : it = it2) (k_ks : ks = ks2) (k_bk : bk = bk2) (k_cl : cl = cl2) (k_mn : mn = mn2) (k_ap : ap = ap2) (k_hs : hs = hs2) (k_be : be = be2) (k_zo : zo = zo2) (k_wh : wh = wh2) (k_rd : rd = rd2) (k_rt : rt = rt2) (k_fr : fr = fr2) (k_en : en = en2) (k_ho : ho = ho2) (k_hw : hw = hw2) (k_wo : wo = wo2) (k_ci : ci = ci2) (k_an : an = an2) (k_ah : ah = ah2) (k_ad : ad = ad2) (k_sq : rSq rn sh ro tr se re) (k_cd : rCd it itm nu pa pn) (k_kd : rKd ks kk kd ky up) (k_op : rOp cl ox om mn) (k_la : rLa cl la isn) (k_lo : rLo cl ox la) (k_om : rOm cl la od) (k_oi : OI mn wh hw on) (k_ti : TI mn tm fr en hw) (k_h0 : rH0 mn ox hw rd) (k_ck : rCk mn cl wh) (k_or : rOr cl ox rn) (k_wt : rWt cl ti ou) (k_wi : rWi cl tm wo ci ti) (k_sh : shOk rn sh) (k_bx : ∀ k, 0 ≤ k → k < 20 → be k ≤ mn) (k_rp : 0 < rn2 → rpOk it2 pa) (k_bm : ∀ k, 0 ≤ k → k < 20 → be2 k ≤ mn2) (k_tp : tp = tp2) (k_ta : ∀ k, ta2 k % 256 = ta k) (k_fk : fk = fk2) (k_fp : fp = fp2) (g_cl : 0 ≤ cl ∧ cl ≤ 16) (g_mn : 0 ≤ mn ∧ mn ≤ 300) (g_rn : 0 ≤ rn ∧ rn ≤ 4) (g_ks : 0 ≤ ks ∧ ks ≤ 4) (g_ox : 0 ≤ ox ∧ ox ≤ 3) (g_tm : 0 ≤ tm ∧ tm ≤ 1000000) (g_wh : ∀ k, 0 ≤ wh k ∧ wh k ≤ 15) (g_fr : ∀ k, 0 ≤ fr k ∧ fr k ≤ 1000000) (g_la : ∀ k, 0 ≤ la k ∧ la k ≤ 3) (g_ti : ∀ k, 0 ≤ ti k ∧ ti k ≤ 20) (px_0 : z = (if w ≠ 0 then (-1) else (bsF (fun s => prC la a1 (tgU (fun c t => evR itm nu (gFd wh rd rt fr en ho hw an ah ad hs zo mn ap a3 a1 t c) it) s) cl.toNat) bcI a2 (pw2 (shF rn sh a1 0)).toNat).1)) (px_1 : (-1) ≤ z ∧ z ≤ 31) (px_2 : w = (if ¬ (0 ≤ a1 ∧ a1 < rn) then 1 else if a2 < 1 ∨ (shF rn sh a1 0) < a2 ∨ ¬ (0 ≤ a3 ∧ a3 ≤ 999) then 2 else 0)) (pm_0 : z2 = (if w2 ≠ 0 then (-1) else (bsF (fun s => prC (liF isn a1) a1 (tgU (fun c t => evR (fun k => mcG (pa k)) pn (gFd wh2 rd2 rt2 fr2 en2 ho2 hw2 an2 ah2 ad2 hs2 zo2 mn2 ap2 a3 a1 t c) it2) s) cl2.toNat) bcI a2 (pw2 (ro a1)).toNat).1)) (pm_1 : (-1) ≤ z2 ∧ z2 ≤ 31) (pm_2 : w2 = (if ¬ (0 ≤ a1 ∧ a1 < rn2) then 1 else if a2 < 1 ∨ ro a1 < a2 ∨ ¬ (0 ≤ a3 ∧ a3 ≤ 999) then 2 else 0)) : (w = w2) ∧ (z = z2) := by
  subst k_tm k_rn k_it k_ks k_bk k_cl k_mn k_ap k_hs k_be k_zo k_wh k_rd k_rt k_fr k_en k_ho k_hw k_wo k_ci k_an k_ah k_ad
  have hww : w = w2 := by
    rw [px_2, pm_2]
    refine ite_c Iff.rfl (fun _ => rfl) (fun h => ?_)
    rw [sh_k0 k_sq (Classical.not_not.mp h)]
  subst hww
  refine ⟨(by first | rfl | trivial), ?_⟩
  rw [px_0, pm_0]
  refine ite_c Iff.rfl (fun _ => rfl) (fun h => ?_)
  have h1 := Classical.not_not.mp (ch1 px_2 (Classical.not_not.mp h) (by decide)).1
  rw [pt_ev (g := fun c t => gFd wh rd rt fr en ho hw an ah ad hs zo mn ap a3 a1 t c) (fun fa => evR_it rfl (it2 := fun k => mcG (pa k)) (fun k k0 k1 => k_cd k k0 k1) fa), sh_k0 k_sq h1]
  exact congrArg Prod.fst (bsF_eq _ (fun s _ => prC_la _ (fun k hk => liF_le ((k_la a1 k h1.1 (by omega) (by omega)).1 (by omega)))))

set_option maxHeartbeats 4000000 in
theorem rl_advance {ap ap2 bk bk2 cl cl2 fk fk2 fp fp2 it it2 ks ks2 mn mn2 om ox rn rn2 st st2 tm tm2 tp tp2 z w z2 w2 a1 a2 : Int} {ad ad2 ah ah2 an an2 be be2 ci ci2 en en2 fr fr2 ho ho2 hs hs2 hw hw2 isn itm kd kk ky la nu od on ou pa pn rd rd2 re ro rt rt2 se sh ta ta2 ti tr up wh wh2 wo wo2 zo zo2 Ma34_ : Int → Int} (k_st : st = st2) (k_tm : tm = tm2) (k_rn : rn = rn2) (k_it : it = it2) (k_ks : ks = ks2) (k_bk : bk = bk2) (k_cl : cl = cl2) (k_mn : mn = mn2) (k_ap : ap = ap2) (k_hs : hs = hs2) (k_be : be = be2) (k_zo : zo = zo2) (k_wh : wh = wh2) (k_rd : rd = rd2) (k_rt : rt = rt2) (k_fr : fr = fr2) (k_en : en = en2) (k_ho : ho = ho2) (k_hw : hw = hw2) (k_wo : wo = wo2) (k_ci : ci = ci2) (k_an : an = an2) (k_ah : ah = ah2) (k_ad : ad = ad2) (k_sq : rSq rn sh ro tr se re) (k_cd : rCd it itm nu pa pn) (k_kd : rKd ks kk kd ky up) (k_op : rOp cl ox om mn) (k_la : rLa cl la isn) (k_lo : rLo cl ox la) (k_om : rOm cl la od) (k_oi : OI mn wh hw on) (k_ti : TI mn tm fr en hw) (k_h0 : rH0 mn ox hw rd) (k_ck : rCk mn cl wh) (k_or : rOr cl ox rn) (k_wt : rWt cl ti ou) (k_wi : rWi cl tm wo ci ti) (k_sh : shOk rn sh) (k_bx : ∀ k, 0 ≤ k → k < 20 → be k ≤ mn) (k_rp : 0 < rn2 → rpOk it2 pa) (k_bm : ∀ k, 0 ≤ k → k < 20 → be2 k ≤ mn2) (k_tp : tp = tp2) (k_ta : ∀ k, ta2 k % 256 = ta k) (k_fk : fk = fk2) (k_fp : fp = fp2) (g_cl : 0 ≤ cl ∧ cl ≤ 16) (g_mn : 0 ≤ mn ∧ mn ≤ 300) (g_rn : 0 ≤ rn ∧ rn ≤ 4) (g_ks : 0 ≤ ks ∧ ks ≤ 4) (g_ox : 0 ≤ ox ∧ ox ≤ 3) (g_tm : 0 ≤ tm ∧ tm ≤ 1000000) (g_wh : ∀ k, 0 ≤ wh k ∧ wh k ≤ 15) (g_fr : ∀ k, 0 ≤ fr k ∧ fr k ≤ 1000000) (g_la : ∀ k, 0 ≤ la k ∧ la k ≤ 3) (g_ti : ∀ k, 0 ≤ ti k ∧ ti k ≤ 20) (px_0 : z = (if w ≠ 0 then (-1) else cn (pLc la (rkF (kvF itm nu kk (fun r => sh (r * 4)) it (gFd wh rd rt fr en ho hw an ah ad hs zo mn ap a2)) kd ks bk la cl ox) ox a1) cl.toNat)) (px_1 : (-1) ≤ z ∧ z ≤ 16) (px_2 : w = (if a1 < 1 ∨ 16 < a1 ∨ ¬ (0 ≤ a2 ∧ a2 ≤ 999) then 2 else if 1 ≤ cn (pOn on) (16 : Int).toNat then 5 else if cl = 0 ∨ rn ≤ ox + 1 then 10 else 0)) (pm_0 : z2 = (if w2 ≠ 0 then (-1) else cn (pAv (rkF (kvF (fun k => mcG (pa k)) pn ky ro it2 (gFd wh2 rd2 rt2 fr2 en2 ho2 hw2 an2 ah2 ad2 hs2 zo2 mn2 ap2 a2)) (fun k => 1 - up k) ks2 bk2 (liF isn om) cl2 om) a1) cl2.toNat)) (pm_1 : (-1) ≤ z2 ∧ z2 ≤ 16) (pm_2 : w2 = (if a1 < 1 ∨ 16 < a1 ∨ ¬ (0 ≤ a2 ∧ a2 ≤ 999) then 2 else if 1 ≤ cn (pOn on) cl2.toNat then 5 else if om < 0 ∨ rn2 ≤ om + 1 then 10 else 0)) (pm_3 : ∀ c, 0 ≤ c → c < cl2 → Ma34_ c = (if w2 = 0 then 0 else ou c)) : (w = w2) ∧ (rOp cl (if w = 0 then ox + 1 else ox) (if w2 = 0 then om + 1 else om) mn) ∧ (rLa cl (if w = 0 then lcF la (rkF (kvF itm nu kk (fun r => sh (r * 4)) it (gFd wh rd rt fr en ho hw an ah ad hs zo mn ap a2)) kd ks bk la cl ox) ox a1 cl else la) (if w2 = 0 then aiP isn (pAv (rkF (kvF (fun k => mcG (pa k)) pn ky ro it2 (gFd wh2 rd2 rt2 fr2 en2 ho2 hw2 an2 ah2 ad2 hs2 zo2 mn2 ap2 a2)) (fun k => 1 - up k) ks2 bk2 (liF isn om) cl2 om) a1) (om + 1) cl2 else isn)) ∧ (rLo cl (if w = 0 then ox + 1 else ox) (if w = 0 then lcF la (rkF (kvF itm nu kk (fun r => sh (r * 4)) it (gFd wh rd rt fr en ho hw an ah ad hs zo mn ap a2)) kd ks bk la cl ox) ox a1 cl else la)) ∧ (rOm cl (if w = 0 then lcF la (rkF (kvF itm nu kk (fun r => sh (r * 4)) it (gFd wh rd rt fr en ho hw an ah ad hs zo mn ap a2)) kd ks bk la cl ox) ox a1 cl else la) (if w2 = 0 then u1 od (om + 1) (cn (pAv (rkF (kvF (fun k => mcG (pa k)) pn ky ro it2 (gFd wh2 rd2 rt2 fr2 en2 ho2 hw2 an2 ah2 ad2 hs2 zo2 mn2 ap2 a2)) (fun k => 1 - up k) ks2 bk2 (liF isn om) cl2 om) a1) cl2.toNat) else od)) ∧ (rH0 mn (if w = 0 then ox + 1 else ox) hw rd) ∧ (rOr cl (if w = 0 then ox + 1 else ox) rn) ∧ (rWt cl (if w = 0 then gfill ti 16 0 else ti) Ma34_) ∧ (rWi cl tm wo ci (if w = 0 then gfill ti 16 0 else ti)) ∧ (z = z2) := by
  subst k_tm k_rn k_it k_ks k_bk k_cl k_mn k_ap k_hs k_be k_zo k_wh k_rd k_rt k_fr k_en k_ho k_hw k_wo k_ci k_an k_ah k_ad
  have hcn := on_cnt k_oi k_ck g_cl
  have hww : w = w2 := by
    rw [px_2, pm_2, hcn]
    refine ite_c Iff.rfl (fun _ => rfl) (fun _ => ite_c Iff.rfl (fun _ => rfl) (fun _ => ite_c ?_ (fun _ => rfl) (fun _ => rfl)))
    by_cases hc : cl = 0
    · have := k_op.2 hc; omega
    · have := k_op.1 (by omega); omega
  subst hww
  by_cases h : w = 0
  · obtain ⟨h1, q1⟩ := ch1 px_2 h (by decide)
    obtain ⟨h2, q2⟩ := ch1 q1 h (by decide)
    obtain ⟨h3, _⟩ := ch1 q2 h (by decide)
    have hoo : ox = om := k_op.1 (by omega)
    subst hoo
    have hor := k_or (by omega)
    clear px_2 pm_2 q1 q2
    have heq : ∀ c, 0 ≤ c → c < cl → rkF (kvF itm nu kk (fun r => sh (r * 4)) it (gFd wh rd rt fr en ho hw an ah ad hs zo mn ap a2)) kd ks bk la cl ox c = rkF (kvF (fun k => mcG (pa k)) pn ky ro it (gFd wh rd rt fr en ho hw an ah ad hs zo mn ap a2)) (fun k => 1 - up k) ks bk (liF isn ox) cl ox c := fun c c0 c1 => rkF_la g_ks.1 hor.1 ⟨c0, c1⟩ (fun o o0 o1 => liF_le ((k_la ox o hor.1 (by omega) o0).1 o1)) (fun k k0 k1 => (k_kd k k0 k1).2) (fun s o k s0 s1 o0 o1 k0 k1 => by unfold kvF; dsimp only; rw [(k_sq s s0 (by omega)).1, (k_kd k k0 k1).1]; exact kV_ev (fun fa => evR_it rfl (it2 := fun k => mcG (pa k)) (fun k k0 k1 => k_cd k k0 k1) fa))
    have hrr : ∀ c, (ox ≤ la c → 1 ≤ rkF (kvF itm nu kk (fun r => sh (r * 4)) it (gFd wh rd rt fr en ho hw an ah ad hs zo mn ap a2)) kd ks bk la cl ox c) ∧ (¬ ox ≤ la c → rkF (kvF itm nu kk (fun r => sh (r * 4)) it (gFd wh rd rt fr en ho hw an ah ad hs zo mn ap a2)) kd ks bk la cl ox c = -1) := fun c => rkF_r g_cl.1
    simp only [if_pos h] at pm_3 ⊢
    rw [px_0, pm_0, if_neg (fun q => q h), if_neg (fun q => q h)]
    generalize rkF (kvF itm nu kk (fun r => sh (r * 4)) it (gFd wh rd rt fr en ho hw an ah ad hs zo mn ap a2)) kd ks bk la cl ox = RK at *
    generalize rkF (kvF (fun k => mcG (pa k)) pn ky ro it (gFd wh rd rt fr en ho hw an ah ad hs zo mn ap a2)) (fun k => 1 - up k) ks bk (liF isn ox) cl ox = RK2 at *
    have hlc := lc_av (mo := a1) (fun c c0 c1 => k_lo c c0 c1) (fun c _ _ => hrr c) heq
    refine ⟨(by first | rfl | trivial), ⟨fun _ => rfl, fun q => by omega⟩, ?_, ?_, ?_, ?_, fun _ => by omega, ?_, ?_, hlc⟩
    · intro r c r0 r1 c0
      refine ⟨fun c1 => la_adv ⟨c0, c1⟩ g_cl.2 r0 hor.1 (k_lo c c0 c1) (hrr c).1 (hrr c).2 (heq c c0 c1) ((k_la r c r0 r1 c0).1 c1), fun c1 c2 => ?_⟩
      unfold aiP
      rw [if_neg (fun q => by have := q.1; omega)]
      exact (k_la r c r0 r1 c0).2 c1 c2
    · intro c c0 c1
      have h9 := k_lo c c0 c1
      unfold lcF
      split <;> omega
    · intro r r0 r1
      by_cases er : r = ox + 1
      · subst er
        rw [u1_s, ← hlc]
        refine cn_eq (fun j j0 j1 => decide_eq_decide.mpr ?_)
        have h9 := k_lo j j0 j1
        unfold lcF
        split
        · rename_i q
          exact ⟨fun _ => Int.le_refl _, fun _ => q.2⟩
        · rename_i q
          exact ⟨fun q2 => absurd ⟨⟨j0, j1⟩, q2⟩ q, fun q2 => by omega⟩
      · rw [u1_n er, k_om r r0 r1]
        refine cn_eq (fun j j0 j1 => decide_eq_decide.mpr ?_)
        unfold lcF
        split <;> omega
    · intro k k0 k1 hk
      exact absurd hk (on_none k_oi g_wh h2 k0 k1)
    · intro c c0 c1
      have e : gfill ti 16 0 c = 0 := if_pos ⟨c0, c1⟩
      exact ⟨fun c2 => by rw [e, pm_3 c c0 c2], fun _ => e⟩
    · intro c c0 c1 i i0 i1
      have e : gfill ti 16 0 c = 0 := if_pos ⟨c0, by omega⟩
      omega
  · simp only [if_neg h] at pm_3 ⊢
    rw [px_0, pm_0, if_pos h, if_pos h]
    exact ⟨(by first | rfl | trivial), k_op, k_la, k_lo, k_om, k_h0, k_or, fun c c0 c1 => ⟨fun c2 => by rw [pm_3 c c0 c2]; exact (k_wt c c0 c1).1 c2, (k_wt c c0 c1).2⟩, k_wi, (by first | rfl | trivial)⟩

set_option maxHeartbeats 4000000 in
theorem rl_load {ap ap2 bk bk2 cl cl2 fk fk2 fp fp2 it it2 ks ks2 mn mn2 om ox rn rn2 st st2 tm tm2 tp tp2 z Xw0 Xw1 Xw2 Xw3 Xw4 Xw21 Xw22 Xw23 Xw24 w Xw26 Xw27 Xw28 z2 w2 Mw4 Mw5 Mw12 Mw13 Mw14 Mw18 Mw22 Mw23 Mw24 Mw25 Mw26 a1 : Int} {ad ad2 ah ah2 an an2 be be2 ci ci2 en en2 fr fr2 ho ho2 hs hs2 hw hw2 isn itm kd kk ky la nu od on ou pa pn rd rd2 re ro rt rt2 se sh ta ta2 ti tr up wh wh2 wo wo2 zo zo2 Xa1_ Xa2_ Xa3_ Xa4_ Xa5_ Xa15_ Xa16_ Xa17_ Xa27_ Xa31_ Ma1_ Ma2_ Ma3_ Ma4_ Ma9_ Ma10_ Ma13_ Ma15_ Ma18_ Ma20_ Ma19_ Ma21_ Ma23_ : Int → Int} (k_st : st = st2) (k_tm : tm = tm2) (k_rn : rn = rn2) (k_it : it = it2) (k_ks : ks = ks2) (k_bk : bk = bk2) (k_cl : cl = cl2) (k_mn : mn = mn2) (k_ap : ap = ap2) (k_hs : hs = hs2) (k_be : be = be2) (k_zo : zo = zo2) (k_wh : wh = wh2) (k_rd : rd = rd2) (k_rt : rt = rt2) (k_fr : fr = fr2) (k_en : en = en2) (k_ho : ho = ho2) (k_hw : hw = hw2) (k_wo : wo = wo2) (k_ci : ci = ci2) (k_an : an = an2) (k_ah : ah = ah2) (k_ad : ad = ad2) (k_sq : rSq rn sh ro tr se re) (k_cd : rCd it itm nu pa pn) (k_kd : rKd ks kk kd ky up) (k_op : rOp cl ox om mn) (k_la : rLa cl la isn) (k_lo : rLo cl ox la) (k_om : rOm cl la od) (k_oi : OI mn wh hw on) (k_ti : TI mn tm fr en hw) (k_h0 : rH0 mn ox hw rd) (k_ck : rCk mn cl wh) (k_or : rOr cl ox rn) (k_wt : rWt cl ti ou) (k_wi : rWi cl tm wo ci ti) (k_sh : shOk rn sh) (k_bx : ∀ k, 0 ≤ k → k < 20 → be k ≤ mn) (k_rp : 0 < rn2 → rpOk it2 pa) (k_bm : ∀ k, 0 ≤ k → k < 20 → be2 k ≤ mn2) (k_tp : tp = tp2) (k_ta : ∀ k, ta2 k % 256 = ta k) (k_fk : fk = fk2) (k_fp : fp = fp2) (g_cl : 0 ≤ cl ∧ cl ≤ 16) (g_mn : 0 ≤ mn ∧ mn ≤ 300) (g_rn : 0 ≤ rn ∧ rn ≤ 4) (g_ks : 0 ≤ ks ∧ ks ≤ 4) (g_ox : 0 ≤ ox ∧ ox ≤ 3) (g_tm : 0 ≤ tm ∧ tm ≤ 1000000) (g_wh : ∀ k, 0 ≤ wh k ∧ wh k ≤ 15) (g_fr : ∀ k, 0 ≤ fr k ∧ fr k ≤ 1000000) (g_la : ∀ k, 0 ≤ la k ∧ la k ≤ 3) (g_ti : ∀ k, 0 ≤ ti k ∧ ti k ≤ 20) (px_0 : (-1) ≤ z ∧ z ≤ 4) (px_1 : shOk Xw1 Xa1_) (px_2 : ∀ k, 0 ≤ k → k < 20 → Xa16_ k ≤ Xw23) (px_3 : (0 ≤ a1 ∧ a1 ≤ tp → Xw0 = 0) ∧ (¬ (0 ≤ a1 ∧ a1 ≤ tp) → Xw0 = tp)) (px_4 : (0 ≤ a1 ∧ a1 ≤ tp) → Xw27 = (txt ta a1 702 (run bW ta a1 0) 0 0 0 0).1 ∧ ((txt ta a1 702 (run bW ta a1 0) 0 0 0 0).1 = 0 → Xw28 = (-1) ∧ z = (txt ta a1 702 (run bW ta a1 0) 0 0 0 0).2.2) ∧ ((txt ta a1 702 (run bW ta a1 0) 0 0 0 0).1 ≠ 0 → Xw28 = (txt ta a1 702 (run bW ta a1 0) 0 0 0 0).2.1 ∧ z = (-1))) (px_5 : ¬ (0 ≤ a1 ∧ a1 ≤ tp) → Xw27 = fk ∧ Xw28 = fp ∧ z = (-1)) (px_6 : w = (if ¬ (0 ≤ a1 ∧ a1 ≤ tp) then 2 else if (txt ta a1 702 (run bW ta a1 0) 0 0 0 0).1 ≠ 0 then 10 else 0)) (px_7 : w ≠ 0 → Xw1 = rn ∧ Xw2 = it ∧ Xw3 = ks ∧ Xw4 = bk ∧ Xw21 = cl ∧ Xw22 = ox ∧ Xw23 = mn ∧ Xw24 = ap ∧ Xw26 = tm ∧ Xa1_ = sh ∧ Xa2_ = itm ∧ Xa3_ = nu ∧ Xa4_ = kk ∧ Xa5_ = kd ∧ Xa15_ = hs ∧ Xa16_ = be ∧ Xa17_ = zo ∧ Xa27_ = on ∧ Xa31_ = ti) (px_8 : w = 0 → Xw21 = 0 ∧ Xw22 = 0 ∧ Xw23 = 0 ∧ Xw24 = 0 ∧ Xw26 = 0 ∧ Xa15_ = gfill hs 20 10 ∧ Xa16_ = gfill be 20 0 ∧ Xa17_ = gfill zo 60 0 ∧ Xa27_ = gfill on 16 0 ∧ Xa31_ = gfill ti 16 0) (px_9 : w = 0 → (∀ j, 0 ≤ j → j < Xw1 → shC ta a1 (rdP ta a1 702 (run bW ta a1 0) 0 j) Xa1_ j) ∧ repC id (exL ta a1 (txP ta a1 261 702 (run bW ta a1 0) (-1))) Xa2_ Xa3_ Xw2 ∧ kyOk ta a1 (txP ta a1 262 702 (run bW ta a1 0) (-1)) Xa4_ Xa5_ Xw3 ∧ Xw4 = tiV ta a1 (txP ta a1 263 702 (run bW ta a1 0) (-1))) (px_10 : w = 0 → z = Xw1) (pm_0 : (-1) ≤ z2 ∧ z2 ≤ 4) (pm_1 : ∀ k, 0 ≤ k → k < 20 → Ma20_ k ≤ Mw25) (pm_2 : 0 < Mw12 → rpOk Mw13 Ma9_) (pm_3 : (0 ≤ a1 ∧ a1 ≤ tp2) → Mw4 = (txt ta a1 702 (run bW ta a1 0) 0 0 0 0).1 ∧ ((txt ta a1 702 (run bW ta a1 0) 0 0 0 0).1 = 0 → Mw5 = (-1) ∧ z2 = (txt ta a1 702 (run bW ta a1 0) 0 0 0 0).2.2) ∧ ((txt ta a1 702 (run bW ta a1 0) 0 0 0 0).1 ≠ 0 → Mw5 = (txt ta a1 702 (run bW ta a1 0) 0 0 0 0).2.1 ∧ z2 = (-1))) (pm_4 : ¬ (0 ≤ a1 ∧ a1 ≤ tp2) → Mw4 = fk2 ∧ Mw5 = fp2 ∧ z2 = (-1)) (pm_5 : w2 = (if ¬ (0 ≤ a1 ∧ a1 ≤ tp2) then 2 else if (txt ta a1 702 (run bW ta a1 0) 0 0 0 0).1 ≠ 0 then 10 else 0)) (pm_6 : w2 ≠ 0 → Mw12 = rn2 ∧ Mw13 = it2 ∧ Mw14 = ks2 ∧ Mw18 = bk2 ∧ Mw22 = cl2 ∧ Mw23 = om ∧ Mw24 = tm2 ∧ Mw25 = mn2 ∧ Mw26 = ap2 ∧ Ma1_ = ro ∧ Ma2_ = tr ∧ Ma3_ = se ∧ Ma4_ = re ∧ Ma9_ = pa ∧ Ma10_ = pn ∧ Ma13_ = ky ∧ Ma15_ = up ∧ Ma18_ = hs2 ∧ Ma20_ = be2 ∧ Ma19_ = zo2 ∧ Ma21_ = isn ∧ Ma23_ = od) (pm_7 : w2 = 0 → Mw22 = 0 ∧ Mw23 = (-1) ∧ Mw24 = 0 ∧ Mw25 = 0 ∧ Mw26 = 0 ∧ Ma18_ = gfill hs2 20 10 ∧ Ma20_ = gfill be2 20 0 ∧ Ma19_ = gfill zo2 60 0 ∧ (∀ j, 0 ≤ j → j < 64 → Ma21_ j = 0) ∧ (∀ j, 0 ≤ j → j < 4 → Ma23_ j = 0)) (pm_8 : w2 = 0 → (∀ j, 0 ≤ j → j < Mw12 → rwC ta a1 (rdP ta a1 702 (run bW ta a1 0) 0 j) Ma1_ Ma2_ Ma3_ Ma4_ j) ∧ repN mp (exL ta a1 (txP ta a1 261 702 (run bW ta a1 0) (-1))) Ma9_ Ma10_ Mw13 ∧ kyOm ta a1 (txP ta a1 262 702 (run bW ta a1 0) (-1)) Ma13_ Ma15_ Mw14 ∧ Mw18 = tiV ta a1 (txP ta a1 263 702 (run bW ta a1 0) (-1))) (pm_9 : w2 = 0 → z2 = Mw12) (g_it : ∀ k, 0 ≤ Xa2_ k ∧ Xa2_ k ≤ 10) : (w = w2) ∧ (Xw26 = Mw24) ∧ (Xw1 = Mw12) ∧ (Xw2 = Mw13) ∧ (Xw3 = Mw14) ∧ (Xw4 = Mw18) ∧ (Xw21 = Mw22) ∧ (Xw23 = Mw25) ∧ (Xw24 = Mw26) ∧ (Xa15_ = Ma18_) ∧ (Xa16_ = Ma20_) ∧ (Xa17_ = Ma19_) ∧ (rSq Xw1 Xa1_ Ma1_ Ma2_ Ma3_ Ma4_) ∧ (rCd Xw2 Xa2_ Xa3_ Ma9_ Ma10_) ∧ (rKd Xw3 Xa4_ Xa5_ Ma13_ Ma15_) ∧ (rOp Xw21 Xw22 Mw23 Xw23) ∧ (rLa Xw21 la Ma21_) ∧ (rLo Xw21 Xw22 la) ∧ (rOm Xw21 la Ma23_) ∧ (OI Xw23 wh hw Xa27_) ∧ (TI Xw23 Xw26 fr en hw) ∧ (rH0 Xw23 Xw22 hw rd) ∧ (rCk Xw23 Xw21 wh) ∧ (rOr Xw21 Xw22 Xw1) ∧ (rWt Xw21 Xa31_ ou) ∧ (rWi Xw21 Xw26 wo ci Xa31_) ∧ (shOk Xw1 Xa1_) ∧ (∀ k, 0 ≤ k → k < 20 → Xa16_ k ≤ Xw23) ∧ (0 < Mw12 → rpOk Mw13 Ma9_) ∧ (∀ k, 0 ≤ k → k < 20 → Ma20_ k ≤ Mw25) ∧ (Xw0 = (if 0 ≤ a1 ∧ a1 ≤ tp2 then 0 else tp2)) ∧ (Xw27 = Mw4) ∧ (Xw28 = Mw5) ∧ (z = z2) := by
  subst k_tm k_rn k_it k_ks k_bk k_cl k_mn k_ap k_hs k_be k_zo k_wh k_rd k_rt k_fr k_en k_ho k_hw k_wo k_ci k_an k_ah k_ad
  subst k_tp k_fk k_fp
  have hww : w = w2 := px_6.trans pm_5.symm
  subst hww
  obtain ⟨hfk, hfp, hz⟩ := lwR rfl rfl rfl px_4 px_5 pm_3 pm_4
  have htp := lwT px_3 rfl
  by_cases h : w = 0
  · obtain ⟨q1, q2, q3, q4, q5, q6, q7, q8, q9, q10⟩ := px_8 h
    obtain ⟨r1, r2, r3, r4, r5, r6, r7, r8, r9, r10⟩ := pm_7 h
    obtain ⟨x1, x2, x3, x4⟩ := px_9 h
    obtain ⟨y1, y2, y3, y4⟩ := pm_8 h
    have hrn : Xw1 = Mw12 := (px_10 h).symm.trans (hz.trans (pm_9 h))
    have hit : Xw2 = Mw13 := (repC_len _ _ _ _ x2).trans (repN_len _ _ _ _ y2).symm
    have hkk := ky_rel x3 y3
    clear px_4 px_5 pm_3 pm_4 px_6 pm_5 px_7 pm_6 px_8 pm_7 px_9 pm_8 px_10 pm_9 px_3
    subst q1 q2 q3 q4 q5 q6 q7 q8 q9 q10 r1 r2 r3 r4 r5 r6 r7 r8
    refine ⟨rfl, rfl, hrn, hit, hkk.1, x4.trans y4.symm, rfl, rfl, rfl, rfl, rfl, rfl, ?_, ?_, hkk.2, ⟨fun q => absurd q (by decide), fun _ => ⟨rfl, rfl, rfl⟩⟩, ?_, ?_, ?_, OI_fill _ _ _, ?_, ?_, ?_, fun q => absurd q (by decide), ?_, ?_, px_1, px_2, pm_2, pm_1, htp, hfk, hfp, hz⟩
    · intro r r0 r1
      have h1 := x1 r r0 r1
      have h2 := y1 r r0 (by omega)
      have e0 := h1 0 (by decide) (by decide)
      rw [Int.add_zero] at e0
      exact ⟨e0.trans h2.1.symm, (h1 1 (by decide) (by decide)).trans h2.2.1.symm, (h1 2 (by decide) (by decide)).trans h2.2.2.1.symm, (h1 3 (by decide) (by decide)).trans h2.2.2.2.symm⟩
    · intro k k0 k1
      have h1 := code_rel _ _ _ _ _ _ x2 (by rw [hit]; exact y2) k k0 k1
      exact ⟨by rw [h1.1, mcG_mp _ (g_it k)], h1.2⟩
    · intro r c r0 r1 c0
      exact ⟨fun c1 => by omega, fun _ c2 => r9 _ (by omega) (by omega)⟩
    · intro c c0 c1; omega
    · intro r r0 r1; rw [r10 r r0 r1]; rfl
    · intro k k0 k1; omega
    · intro k k0 k1; omega
    · intro k k0 k1; omega
    · intro c c0 c1
      exact ⟨fun c2 => by omega, fun _ => if_pos ⟨c0, c1⟩⟩
    · intro c c0 c1; omega
  · obtain ⟨q1, q2, q3, q4, q5, q6, q7, q8, q9, q10, q11, q12, q13, q14, q15, q16, q17, q18, q19⟩ := px_7 h
    obtain ⟨r1, r2, r3, r4, r5, r6, r7, r8, r9, r10, r11, r12, r13, r14, r15, r16, r17, r18, r19, r20, r21, r22⟩ := pm_6 h
    clear px_4 px_5 pm_3 pm_4 px_6 pm_5 px_7 pm_6 px_8 pm_7 px_9 pm_8 px_10 pm_9 px_3
    subst q1 q2 q3 q4 q5 q6 q7 q8 q9 q10 q11 q12 q13 q14 q15 q16 q17 q18 q19
    subst r1 r2 r3 r4 r5 r6 r7 r8 r9 r10 r11 r12 r13 r14 r15 r16 r17 r18 r19 r20 r21 r22
    exact ⟨rfl, rfl, rfl, rfl, rfl, rfl, rfl, rfl, rfl, rfl, rfl, rfl, k_sq, k_cd, k_kd, k_op, k_la, k_lo, k_om, k_oi, k_ti, k_h0, k_ck, k_or, k_wt, k_wi, px_1, px_2, pm_2, pm_1, htp, hfk, hfp, hz⟩
end
