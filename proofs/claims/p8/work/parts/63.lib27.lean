/-! sums, greatest ones; keys; who is ahead -/
def sumI (g : Int → Int) : Nat → Int
  | 0 => 0
  | k + 1 => sumI g k + g (k : Int)
def mxI (g : Int → Int) : Nat → Int
  | 0 => -1000000000
  | k + 1 => if mxI g k ≤ g (k : Int) then g (k : Int) else mxI g k
theorem sumI_s {g : Int → Int} {x : Int} (h : 0 ≤ x) : sumI g (x + 1).toNat = sumI g x.toNat + g x := by
  obtain ⟨j, rfl⟩ : ∃ j : Nat, x = (j : Int) := ⟨x.toNat, by omega⟩
  rw [show ((j : Int) + 1).toNat = j + 1 by omega, show ((j : Int)).toNat = j by omega]
  rfl
theorem mxI_s {g : Int → Int} {x : Int} (h : 0 ≤ x) : mxI g (x + 1).toNat = if mxI g x.toNat ≤ g x then g x else mxI g x.toNat := by
  obtain ⟨j, rfl⟩ : ∃ j : Nat, x = (j : Int) := ⟨x.toNat, by omega⟩
  rw [show ((j : Int) + 1).toNat = j + 1 by omega, show ((j : Int)).toNat = j by omega]
  rfl
theorem mxI_r {g : Int → Int} (hg : ∀ k, -1000000000 ≤ g k ∧ g k ≤ 1000000000) : ∀ m : Nat, -1000000000 ≤ mxI g m ∧ mxI g m ≤ 1000000000
  | 0 => by show (-1000000000 : Int) ≤ -1000000000 ∧ (-1000000000 : Int) ≤ 1000000000; decide
  | m + 1 => by
    have h := mxI_r hg m
    have h2 := hg m
    show -1000000000 ≤ (if mxI g m ≤ g (m : Int) then g (m : Int) else mxI g m) ∧ (if mxI g m ≤ g (m : Int) then g (m : Int) else mxI g m) ≤ 1000000000
    split <;> omega
theorem sumI_r {g : Int → Int} {b : Int} (hg : ∀ k, -b ≤ g k ∧ g k ≤ b) : ∀ m : Nat, -(b * m) ≤ sumI g m ∧ sumI g m ≤ b * m
  | 0 => by simp [sumI]
  | m + 1 => by
    have h := sumI_r hg m
    have h2 := hg m
    show -(b * ((m + 1 : Nat) : Int)) ≤ sumI g m + g (m : Int) ∧ sumI g m + g (m : Int) ≤ b * ((m + 1 : Nat) : Int)
    have e : b * ((m + 1 : Nat) : Int) = b * (m : Int) + b := by rw [Int.natCast_succ, Int.mul_add, Int.mul_one]
    omega
theorem sumI_eq {g g2 : Int → Int} : ∀ m : Nat, (∀ k : Nat, k < m → g (k : Int) = g2 (k : Int)) → sumI g m = sumI g2 m
  | 0, _ => rfl
  | m + 1, h => by
    show sumI g m + g (m : Int) = sumI g2 m + g2 (m : Int)
    rw [sumI_eq m (fun k hk => h k (by omega)), h m (by omega)]
theorem tot4 {T : Int → Int} {A B C D : Int} : u1 (u1 (u1 (u1 T 0 A) 1 B) 2 C) 3 D 0 = A ∧ u1 (u1 (u1 (u1 T 0 A) 1 B) 2 C) 3 D 1 = B ∧ u1 (u1 (u1 (u1 T 0 A) 1 B) 2 C) 3 D 2 = C ∧ u1 (u1 (u1 (u1 T 0 A) 1 B) 2 C) 3 D 3 = D := ⟨rfl, rfl, rfl, rfl⟩
def kV (it nu : Int → Int) (m : Int) (F : Int → Int → Int → Int → Int) (R kd r c : Int) : Int :=
  if kd = 0 then sumI (fun t => evR it nu (F r t c) m) R.toNat else if kd = 1 then mxI (fun t => evR it nu (F r t c) m) R.toNat else if kd = 2 then sumI (fun t => F r t c 0) R.toNat else sumI (fun t => F r t c 1) R.toNat
theorem kv_pick {it nu T : Int → Int} {m : Int} {F : Int → Int → Int → Int → Int} {R kd r c : Int} (h0 : T 0 = sumI (fun t => evR it nu (F r t c) m) R.toNat) (h1 : T 1 = mxI (fun t => evR it nu (F r t c) m) R.toNat) (h2 : T 2 = sumI (fun t => F r t c 0) R.toNat) (h3 : T 3 = sumI (fun t => F r t c 1) R.toNat) (hk : 0 ≤ kd ∧ kd ≤ 3) : T kd = kV it nu m F R kd r c := by
  unfold kV
  rcases (show kd = 0 ∨ kd = 1 ∨ kd = 2 ∨ kd = 3 by omega) with rfl | rfl | rfl | rfl
  · rw [if_pos rfl]; exact h0
  · rw [if_neg (by decide), if_pos rfl]; exact h1
  · rw [if_neg (by decide), if_neg (by decide), if_pos rfl]; exact h2
  · rw [if_neg (by decide), if_neg (by decide), if_neg (by decide)]; exact h3
section FR
variable {wh rd rt bg en ho hw an ah ad hs zo it nu : Int → Int} {n na d r t c m : Int}
theorem zU_r (b h : Int) : 0 ≤ zU zo b h ∧ zU zo b h ≤ 3 := by unfold zU; (repeat' split) <;> omega
theorem Fd_r (hho : ∀ k, 0 ≤ ho k ∧ ho k ≤ 60) (hah : ∀ k, 0 ≤ ah k ∧ ah k ≤ 60) (hen : ∀ k, (-1) ≤ en k ∧ en k ≤ 1000999) (hbg : ∀ k, 0 ≤ bg k ∧ bg k ≤ 1000000) (hn : 0 ≤ n ∧ n ≤ 300) (i : Int) : (-2000000) ≤ gFd wh rd rt bg en ho hw an ah ad hs zo n na d r t c i ∧ gFd wh rd rt bg en ho hw an ah ad hs zo n na d r t c i ≤ 2000000 := by
  have hk : ∀ k, 0 ≤ Fk an ah ad ho na d k ∧ Fk an ah ad ho na d k ≤ 60 := fun k => kH_r (hho k) hah _
  have o := fS_ok (wh := wh) (rd := rd) (rt := rt) (hw := hw) (c := c) (r := r) (t := t) hk n.toNat
  unfold gFd
  generalize fS wh rd rt hw (Fk an ah ad ho na d) c r t n.toNat = s at o ⊢
  have hz := zU_r (zo := zo) ((r * 5 + t) * 3) s.2.1
  have h1 := hen s.2.2.1
  have h2 := hbg s.2.2.1
  unfold fA
  by_cases h0 : s.1 = 0
  · rw [if_pos h0]; decide
  · rw [if_neg h0]
    have o2 := o.2.2 (by omega)
    have h3 := hk s.2.2.1
    rw [o2.2.1] at h3
    repeat' split
    all_goals omega
theorem pt_r (hn : ∀ k, 0 ≤ nu k ∧ nu k ≤ 999999) (hc : ∀ k, 0 ≤ it k) {fa : Int → Int} (hf : ∀ i, (-2000000) ≤ fa i ∧ fa i ≤ 2000000) : -1000000000 ≤ evR it nu fa m ∧ evR it nu fa m ≤ 1000000000 := evT_bd _ (evL_bd hn (fun i _ _ => by have := hf i; omega) hc _)
theorem kV_r {F : Int → Int → Int → Int → Int} {R kd : Int} (hp : ∀ r t c, -1000000000 ≤ evR it nu (F r t c) m ∧ evR it nu (F r t c) m ≤ 1000000000) (hf : ∀ r t c i, (-2000000) ≤ F r t c i ∧ F r t c i ≤ 2000000) (hR : R ≤ 5) : (-5000000000) ≤ kV it nu m F R kd r c ∧ kV it nu m F R kd r c ≤ 5000000000 := by
  have h1 := sumI_r (g := fun t => evR it nu (F r t c) m) (b := 1000000000) (fun t => hp r t c) R.toNat
  have h2 := mxI_r (g := fun t => evR it nu (F r t c) m) (fun t => hp r t c) R.toNat
  have h3 := sumI_r (g := fun t => F r t c 0) (b := 2000000) (fun t => hf r t c 0) R.toNat
  have h4 := sumI_r (g := fun t => F r t c 1) (b := 2000000) (fun t => hf r t c 1) R.toNat
  unfold kV
  repeat' split
  all_goals omega
end FR
/-- a row of keys in which two differ -/
def ahK (X Y dn : Int → Int) : Nat → Int → Int
  | 0, _ => 0
  | j + 1, i => if X i = Y i then ahK X Y dn j (i + 1) else if (Y i < X i ∧ dn i = 1) ∨ (X i < Y i ∧ dn i ≠ 1) then 1 else 2
def ahR (q : Int → Int → Int → Int) (dn : Int → Int) (ks : Int) (bk a b : Int) : Nat → Int
  | 0 => 0
  | r + 1 => if ahK (q (r : Int) a) (q (r : Int) b) dn ks.toNat 0 ≠ 0 then ahK (q (r : Int) a) (q (r : Int) b) dn ks.toNat 0 else if bk = 0 then 0 else ahR q dn ks bk a b r
section AH
variable {X Y X2 Y2 dn dn2 : Int → Int} {q q2 : Int → Int → Int → Int} {ks bk a b r x : Int}
theorem ahK_e (h0 : x < ks) (h : X x = Y x) : ahK X Y dn (ks - x).toNat x = ahK X Y dn (ks - (x + 1)).toNat (x + 1) := by
  rw [show (ks - x).toNat = (ks - (x + 1)).toNat + 1 by omega]
  conv => lhs; unfold ahK
  rw [if_pos h]
theorem ahK_1 (h0 : x < ks) (h : (Y x < X x ∧ dn x = 1) ∨ (X x < Y x ∧ dn x ≠ 1)) : ahK X Y dn (ks - x).toNat x = 1 := by
  rw [show (ks - x).toNat = (ks - (x + 1)).toNat + 1 by omega]
  unfold ahK
  rw [if_neg (by omega), if_pos h]
theorem ahK_2 (h0 : x < ks) (h : X x ≠ Y x) (h2 : ¬ ((Y x < X x ∧ dn x = 1) ∨ (X x < Y x ∧ dn x ≠ 1))) : ahK X Y dn (ks - x).toNat x = 2 := by
  rw [show (ks - x).toNat = (ks - (x + 1)).toNat + 1 by omega]
  unfold ahK
  rw [if_neg h, if_neg h2]
theorem ahK_z (h0 : ks ≤ x) : ahK X Y dn (ks - x).toNat x = 0 := by
  rw [show (ks - x).toNat = 0 by omega]
  rfl
theorem ahK_s0 : ahK X Y dn (ks - 0).toNat 0 = ahK X Y dn ks.toNat 0 := by rw [Int.sub_zero]
theorem ahK_self : ∀ (j : Nat) (i : Int), ahK X X dn j i = 0
  | 0, _ => rfl
  | j + 1, i => by
    unfold ahK
    rw [if_pos rfl]
    exact ahK_self j (i + 1)
theorem ahK_eq : ∀ (j : Nat) (i : Int), (∀ k, i ≤ k → k < i + j → X k = X2 k ∧ Y k = Y2 k ∧ dn k = dn2 k) → ahK X Y dn j i = ahK X2 Y2 dn2 j i
  | 0, _, _ => rfl
  | j + 1, i, h => by
    have h1 := h i (by omega) (by omega)
    have h2 := ahK_eq j (i + 1) (fun k h3 h4 => h k (by omega) (by omega))
    unfold ahK
    rw [h1.1, h1.2.1, h1.2.2, h2]
theorem ahR_s (h : 0 ≤ r) : ahR q dn ks bk a b (r + 1).toNat = if ahK (q r a) (q r b) dn ks.toNat 0 ≠ 0 then ahK (q r a) (q r b) dn ks.toNat 0 else if bk = 0 then 0 else ahR q dn ks bk a b r.toNat := by
  obtain ⟨j, rfl⟩ : ∃ j : Nat, r = (j : Int) := ⟨r.toNat, by omega⟩
  rw [show ((j : Int) + 1).toNat = j + 1 by omega, show ((j : Int)).toNat = j by omega]
  rfl
theorem ahR_self : ∀ j : Nat, ahR q dn ks bk a a j = 0
  | 0 => rfl
  | j + 1 => by
    unfold ahR
    rw [ahK_self, if_neg (fun h => h rfl)]
    split
    · rfl
    · exact ahR_self j
theorem ahR_eq (hks : 0 ≤ ks) (hdn : ∀ k, 0 ≤ k → k < ks → dn k = dn2 k) : ∀ j : Nat, (∀ r k : Int, 0 ≤ r → r < (j : Int) → (bk = 0 → r = (j : Int) - 1) → 0 ≤ k → k < ks → q r a k = q2 r a k ∧ q r b k = q2 r b k) → ahR q dn ks bk a b j = ahR q2 dn2 ks bk a b j
  | 0, _ => rfl
  | j + 1, h => by
    have h1 : ahK (q (j : Int) a) (q (j : Int) b) dn ks.toNat 0 = ahK (q2 (j : Int) a) (q2 (j : Int) b) dn2 ks.toNat 0 := ahK_eq _ _ (fun k k0 k1 => by
      have h2 := h j k (by omega) (by omega) (by omega) (by omega) (by omega)
      exact ⟨h2.1, h2.2, hdn k (by omega) (by omega)⟩)
    unfold ahR
    rw [h1]
    by_cases hb : bk = 0
    · rw [if_pos hb, if_pos hb]
    · rw [if_neg hb, if_neg hb, ahR_eq hks hdn j (fun r k r0 r1 _ k0 k1 => h r k r0 (by omega) (fun z => absurd z hb) k0 k1)]
end AH
def qG (a : Int → Int) (r c k : Int) : Int := a ((r * 16 + c) * 4 + k)
def pAh (q : Int → Int → Int → Int) (dn : Int → Int) (ks bk : Int) (la : Int → Int) (r c o : Int) : Bool := decide (r ≤ la o ∧ ahR q dn ks bk o c (r + 1).toNat = 1)
/-- the rank of one in a round -/
def rkF (q : Int → Int → Int → Int) (dn : Int → Int) (ks bk : Int) (la : Int → Int) (cl r c : Int) : Int := if r ≤ la c then 1 + cn (pAh q dn ks bk la r c) cl.toNat else -1
/-! sets of routes -/
def btI (s t : Int) : Int := ((iI s >>> (iI t &&& 31)) &&& iI 1).toInt
theorem bt_of {s t x y : Int} (e1 : iI s >>> (iI t &&& 31) = iI x) (e2 : iI x &&& iI 1 = iI y) (hy : 0 ≤ y ∧ y ≤ 1) : btI s t = y := by
  unfold btI
  rw [e1, e2]
  exact iI_toInt ⟨by omega, by omega⟩
def tgS (p : Int → Int) (s : Int) : Nat → Int
  | 0 => 0
  | k + 1 => tgS p s k + (if btI s (k : Int) = 1 then p (k : Int) else 0)
theorem tgS_s {p : Int → Int} {s x : Int} (h : 0 ≤ x) : tgS p s (x + 1).toNat = tgS p s x.toNat + (if btI s x = 1 then p x else 0) := by
  obtain ⟨j, rfl⟩ : ∃ j : Nat, x = (j : Int) := ⟨x.toNat, by omega⟩
  rw [show ((j : Int) + 1).toNat = j + 1 by omega, show ((j : Int)).toNat = j by omega]
  rfl
theorem tgS_r {p : Int → Int} {s : Int} (hp : ∀ k, -2147483648 ≤ p k ∧ p k ≤ 2147483647) : ∀ m : Nat, -(2147483648 * m) ≤ tgS p s m ∧ tgS p s m ≤ 2147483648 * m
  | 0 => by simp [tgS]
  | m + 1 => by
    have h := tgS_r (s := s) hp m
    have h2 := hp m
    show -(2147483648 * ((m + 1 : Nat) : Int)) ≤ tgS p s m + (if btI s (m : Int) = 1 then p (m : Int) else 0) ∧ tgS p s m + (if btI s (m : Int) = 1 then p (m : Int) else 0) ≤ 2147483648 * ((m + 1 : Nat) : Int)
    split <;> omega
theorem tgS_eq {p p2 : Int → Int} {s : Int} : ∀ m : Nat, (∀ k : Nat, k < m → btI s (k : Int) = 1 → p (k : Int) = p2 (k : Int)) → tgS p s m = tgS p2 s m
  | 0, _ => rfl
  | m + 1, h => by
    show tgS p s m + (if btI s (m : Int) = 1 then p (m : Int) else 0) = tgS p2 s m + (if btI s (m : Int) = 1 then p2 (m : Int) else 0)
    rw [tgS_eq m (fun k hk => h k (by omega))]
    by_cases e : btI s (m : Int) = 1
    · rw [if_pos e, if_pos e, h m (by omega) e]
    · rw [if_neg e, if_neg e]
def tgU (E : Int → Int → Int) (s c : Int) : Int := tgS (E c) s (5 : Int).toNat
/-- pairs that a set parts: of each the one with the greater number counted with those ahead of her -/
def pPr (la : Int → Int) (r : Int) (u : Int → Int) (a b : Int) : Bool := decide ((r ≤ la a ∧ r ≤ la b) ∧ u a ≠ u b)
def prC (la : Int → Int) (r : Int) (u : Int → Int) : Nat → Int
  | 0 => 0
  | k + 1 => prC la r u k + cn (pPr la r u (k : Int)) k
theorem prC_s {la u : Int → Int} {r x : Int} (h : 0 ≤ x) : prC la r u (x + 1).toNat = prC la r u x.toNat + cn (pPr la r u x) x.toNat := by
  obtain ⟨j, rfl⟩ : ∃ j : Nat, x = (j : Int) := ⟨x.toNat, by omega⟩
  rw [show ((j : Int) + 1).toNat = j + 1 by omega, show ((j : Int)).toNat = j by omega]
  rfl
theorem prC_eq {la u u2 : Int → Int} {r : Int} : ∀ m : Nat, (∀ k : Nat, k < m → r ≤ la (k : Int) → u (k : Int) = u2 (k : Int)) → prC la r u m = prC la r u2 m
  | 0, _ => rfl
  | m + 1, h => by
    show prC la r u m + cn (pPr la r u (m : Int)) m = prC la r u2 m + cn (pPr la r u2 (m : Int)) m
    rw [prC_eq m (fun k hk => h k (by omega))]
    congr 1
    refine cn_congr m (fun j hj => ?_)
    unfold pPr
    by_cases c : r ≤ la (m : Int) ∧ r ≤ la (j : Int)
    · rw [h m (by omega) c.1, h j (by omega) c.2]
    · exact decide_eq_decide.mpr ⟨fun q => absurd q.1 c, fun q => absurd q.1 c⟩
/-- the set that parts most, of several the first -/
def bsF (P bc : Int → Int) (mn : Int) : Nat → Int × Int
  | 0 => (-1, -1)
  | s + 1 => if bc (s : Int) = mn ∧ (bsF P bc mn s).2 < P (s : Int) then ((s : Int), P (s : Int)) else bsF P bc mn s
theorem bsF_s {P bc : Int → Int} {mn x : Int} (h : 0 ≤ x) : bsF P bc mn (x + 1).toNat = if bc x = mn ∧ (bsF P bc mn x.toNat).2 < P x then (x, P x) else bsF P bc mn x.toNat := by
  obtain ⟨j, rfl⟩ : ∃ j : Nat, x = (j : Int) := ⟨x.toNat, by omega⟩
  rw [show ((j : Int) + 1).toNat = j + 1 by omega, show ((j : Int)).toNat = j by omega]
  rfl
def pw2 (r : Int) : Int := if r = 0 then 1 else if r = 1 then 2 else if r = 2 then 4 else if r = 3 then 8 else if r = 4 then 16 else 32
theorem pw2_r (r : Int) : 1 ≤ pw2 r ∧ pw2 r ≤ 32 := by unfold pw2; (repeat' split) <;> omega
theorem gShlE (r : Int) (h : 0 ≤ r ∧ r ≤ 5) : iI 1 <<< (iI r &&& 31) = iI (pw2 r) := by
  rcases (show r = 0 ∨ r = 1 ∨ r = 2 ∨ r = 3 ∨ r = 4 ∨ r = 5 by omega) with rfl | rfl | rfl | rfl | rfl | rfl <;> decide
/-! rows of keys, as the class fills them -/
theorem fa_i {a b : Int → Int} (h : a 0 = b 0 ∧ a 1 = b 1 ∧ a 2 = b 2 ∧ a 3 = b 3 ∧ a 4 = b 4 ∧ a 5 = b 5) {i : Int} (h0 : 0 ≤ i) (h1 : i < 6) : a i = b i := by
  obtain ⟨e0, e1, e2, e3, e4, e5⟩ := h
  rcases (show i = 0 ∨ i = 1 ∨ i = 2 ∨ i = 3 ∨ i = 4 ∨ i = 5 by omega) with rfl | rfl | rfl | rfl | rfl | rfl <;> assumption
theorem kr_s {d K : Int → Int} {b x i V : Int} (h : ∀ j, 0 ≤ j → j < x → d (b + j) = K j) (hi : i = b + x) (hv : V = K x) : ∀ j, 0 ≤ j → j < x + 1 → u1 d i V (b + j) = K j := fun j h0 h1 => by
  by_cases e : j = x
  · rw [e, hi, u1_s, hv]
  · rw [u1_n (by omega)]; exact h j h0 (by omega)
theorem kr_o {d g : Int → Int} {b x i V : Int} (h : ∀ e, e < b ∨ b + 4 ≤ e → d e = g e) (hi : i = b + x) (hx : 0 ≤ x ∧ x < 4) : ∀ e, e < b ∨ b + 4 ≤ e → u1 d i V e = g e := fun e he => by
  rw [u1_n (by omega)]; exact h e he
def kvF (it nu kk R : Int → Int) (m : Int) (F : Int → Int → Int → Int → Int) : Int → Int → Int → Int := fun r c k => kV it nu m F (R r) (kk k) r c
def krC (q q2 : Int → Int → Int → Int) (ks bk a c hi : Int) : Prop := ∀ r k, 0 ≤ r → r < hi → (bk = 0 → r = a) → 0 ≤ k → k < ks → q r c k = q2 r c k
def krOk (q q2 : Int → Int → Int → Int) (la : Int → Int) (ks bk a x : Int) : Prop := ∀ c, 0 ≤ c → c < x → a ≤ la c → krC q q2 ks bk a c (a + 1)
section KR
variable {g g1 la dn : Int → Int} {q2 : Int → Int → Int → Int} {ks bk a x y cl r c : Int}
theorem krOk_0 : krOk (qG g) q2 la ks bk a 0 := fun c h0 h1 => by omega
theorem krC_0 (h : bk = 0 → a ≤ y) (h2 : bk ≠ 0 → y = 0) (ha : y ≤ a) : krC (qG g) q2 ks bk a c y := fun r k r0 r1 rb => by
  intro _ _
  exfalso
  by_cases e : bk = 0
  · have := h e; have := rb e; omega
  · have := h2 e; omega
theorem krOk_keep (hO : krOk (qG g) q2 la ks bk a x) (hx : x ≤ 15) (hks : ks ≤ 4) (ho : ∀ e, e < (y * 16 + x) * 4 ∨ (y * 16 + x) * 4 + 4 ≤ e → g1 e = g e) : krOk (qG g1) q2 la ks bk a x := fun c c0 c1 c2 r k r0 r1 rb k0 k1 => by
  rw [← hO c c0 c1 c2 r k r0 r1 rb k0 k1]
  exact ho _ (by omega)
theorem krC_s (hC : krC (qG g) q2 ks bk a x y) (hks : ks ≤ 4) (hk : ∀ j, 0 ≤ j → j < ks → g1 ((y * 16 + x) * 4 + j) = q2 y x j) (ho : ∀ e, e < (y * 16 + x) * 4 ∨ (y * 16 + x) * 4 + 4 ≤ e → g1 e = g e) : krC (qG g1) q2 ks bk a x (y + 1) := fun r k r0 r1 rb k0 k1 => by
  by_cases e : r = y
  · rw [e]; exact hk k k0 k1
  · rw [← hC r k r0 (by omega) rb k0 k1]
    exact ho _ (by omega)
theorem krOk_s (hO : krOk (qG g) q2 la ks bk a x) (hC : a ≤ la x → krC (qG g) q2 ks bk a x (a + 1)) : krOk (qG g) q2 la ks bk a (x + 1) := fun c c0 c1 c2 => by
  by_cases e : c = x
  · rw [e] at c2 ⊢; exact hC c2
  · exact hO c c0 (by omega) c2
theorem rk_eq (hO : krOk (qG g) q2 la ks bk r cl) (hks : 0 ≤ ks) (hr : 0 ≤ r) (hc : (0 ≤ c ∧ c < cl) ∧ r ≤ la c) : cn (pAh (qG g) dn ks bk la r c) cl.toNat = cn (pAh q2 dn ks bk la r c) cl.toNat := by
  refine cn_eq (fun o o0 o1 => ?_)
  unfold pAh
  by_cases ho : r ≤ la o
  · have e : ahR (qG g) dn ks bk o c (r + 1).toNat = ahR q2 dn ks bk o c (r + 1).toNat := ahR_eq hks (fun _ _ _ => rfl) _ (fun r' k r0 r1 rb k0 k1 => ⟨hO o o0 o1 ho r' k r0 (by omega) (fun z => by have := rb z; omega) k0 k1, hO c hc.1.1 hc.1.2 hc.2 r' k r0 (by omega) (fun z => by have := rb z; omega) k0 k1⟩)
    rw [e]
  · exact decide_eq_decide.mpr ⟨fun q => absurd q.1 ho, fun q => absurd q.1 ho⟩
theorem rk_s {d K : Int → Int} {V : Int} (h : ∀ c, 0 ≤ c → c < x → d c = K c) (hv : V = K x) : ∀ c, 0 ≤ c → c < x + 1 → u1 d x V c = K c := fun c h0 h1 => by
  by_cases e : c = x
  · rw [e, u1_s, hv]
  · rw [u1_n e]; exact h c h0 (by omega)
end KR
/-- points of all on all routes of a round, as the class lays them -/
def ptOk (p : Int → Int) (E : Int → Int → Int) (x R : Int) : Prop := ∀ c t, 0 ≤ c → c < x → 0 ≤ t → t < R → p (c * 5 + t) = E c t
theorem pt_s {p : Int → Int} {E : Int → Int → Int} {x y R V i : Int} (h : ptOk p E x R) (h2 : ∀ t, 0 ≤ t → t < y → p (x * 5 + t) = E x t) (hR : R ≤ 5) (hy : 0 ≤ y ∧ y < R) (hi : i = x * 5 + y) (hv : V = E x y) : ptOk (u1 p i V) E x R ∧ ∀ t, 0 ≤ t → t < y + 1 → u1 p i V (x * 5 + t) = E x t := by
  refine ⟨fun c t c0 c1 t0 t1 => ?_, fun t t0 t1 => ?_⟩
  · rw [u1_n (by omega)]; exact h c t c0 c1 t0 t1
  · by_cases e : t = y
    · rw [e, hi, u1_s, hv]
    · rw [u1_n (by omega)]; exact h2 t t0 (by omega)
theorem pt_n {p : Int → Int} {E : Int → Int → Int} {x R : Int} (h : ptOk p E x R) (h2 : ∀ t, 0 ≤ t → t < R → p (x * 5 + t) = E x t) : ptOk p E (x + 1) R := fun c t c0 c1 t0 t1 => by
  by_cases e : c = x
  · rw [e]; exact h2 t t0 t1
  · exact h c t c0 (by omega) t0 t1
/-! how many bits -/
def bcU (a : Int32) (k : Int) : Int32 := (a.toUInt32 >>> ((iI k).toUInt32 &&& Int32.toUInt32 31)).toInt32
def bc1 (a : Int32) : Int32 := a - (bcU a 1 &&& iI 1431655765)
def bc2 (a : Int32) : Int32 := (a &&& iI 858993459) + (bcU a 2 &&& iI 858993459)
def bc3 (a : Int32) : Int32 := (a + bcU a 4) &&& iI 252645135
def bc4 (a : Int32) : Int32 := a + bcU a 8
def bc5 (a : Int32) : Int32 := a + bcU a 16
def bcI (a : Int) : Int := (bc5 (bc4 (bc3 (bc2 (bc1 (iI a))))) &&& iI 63).toInt
theorem bc_z : bcI 0 = 0 := by decide
section GO
variable {la rk rk2 p : Int → Int} {E : Int → Int → Int} {op mo cl r R s : Int}
theorem lc_cn (h : ∀ c, 0 ≤ c → c < cl → rk c = rk2 c) : cn (pLc la rk op mo) cl.toNat = cn (pLc la rk2 op mo) cl.toNat := cn_eq (fun j h0 h1 => by unfold pLc; rw [h j h0 h1])
theorem lc_f (h : ∀ c, 0 ≤ c → c < cl → rk c = rk2 c) : lcF la rk op mo cl = lcF la rk2 op mo cl := by
  funext c
  unfold lcF
  by_cases hc : 0 ≤ c ∧ c < cl
  · rw [h c hc.1 hc.2]
  · rw [if_neg (fun q => hc q.1), if_neg (fun q => hc q.1)]
theorem sh_ro {rn : Int} {sh : Int → Int} (h0 : 0 ≤ r) (h1 : r < rn) : shF rn sh r 0 = sh (r * 4) := by
  unfold shF
  rw [if_pos ⟨h0, h1⟩, Int.add_zero]
theorem bt_tab : ∀ s : Fin 32, ∀ t : Fin 5, pw2 ((t : Nat) : Int) ≤ ((s : Nat) : Int) ∨ btI ((s : Nat) : Int) ((t : Nat) : Int) = 0 := by decide +kernel
theorem bt_hi {t : Int} (hs : 0 ≤ s ∧ s < pw2 R) (hR : 0 ≤ R ∧ R ≤ 5) (ht : R ≤ t ∧ t < 5) : btI s t = 0 := by
  have h1 := pw2_r R
  have h2 := bt_tab ⟨s.toNat, by omega⟩ ⟨t.toNat, by omega⟩
  simp only [Int.toNat_of_nonneg hs.1, Int.toNat_of_nonneg (show 0 ≤ t by omega)] at h2
  rcases h2 with h | h
  · exfalso
    have h3 : pw2 R ≤ pw2 t := by
      rcases (show t = 0 ∨ t = 1 ∨ t = 2 ∨ t = 3 ∨ t = 4 by omega) with rfl | rfl | rfl | rfl | rfl <;>
        (rcases (show R = 0 ∨ R = 1 ∨ R = 2 ∨ R = 3 ∨ R = 4 by omega) with rfl | rfl | rfl | rfl | rfl <;> first | decide | (exfalso; omega))
    omega
  · exact h
theorem pr_go (hpo : ptOk p E cl R) (hR : 0 ≤ R ∧ R ≤ 5) (hs : 0 ≤ s ∧ s < pw2 R) : prC la r (tgU (fun c t => p (c * 5 + t)) s) cl.toNat = prC la r (tgU E s) cl.toNat := by
  refine prC_eq _ (fun k hk _ => tgS_eq _ (fun t ht hb => ?_))
  have ht5 : (t : Int) < 5 := by
    have h9 : (5 : Int).toNat = 5 := rfl
    omega
  by_cases h : (t : Int) < R
  · exact hpo k t (by omega) (by omega) (by omega) h
  · have := bt_hi (t := (t : Int)) hs hR ⟨by omega, ht5⟩
    omega
theorem bsF_eq {P P2 bc : Int → Int} {mn : Int} : ∀ m : Nat, (∀ s : Nat, s < m → P (s : Int) = P2 (s : Int)) → bsF P bc mn m = bsF P2 bc mn m
  | 0, _ => rfl
  | m + 1, h => by
    have ih := bsF_eq (bc := bc) (mn := mn) m (fun s hs => h s (by omega))
    show (if bc (m : Int) = mn ∧ (bsF P bc mn m).2 < P (m : Int) then ((m : Int), P (m : Int)) else bsF P bc mn m) = (if bc (m : Int) = mn ∧ (bsF P2 bc mn m).2 < P2 (m : Int) then ((m : Int), P2 (m : Int)) else bsF P2 bc mn m)
    rw [ih, h m (by omega)]
theorem bs_go {bc : Int → Int} {mn : Int} (hpo : ptOk p E cl R) (hR : 0 ≤ R ∧ R ≤ 5) : (bsF (fun s => prC la r (tgU (fun c t => p (c * 5 + t)) s) cl.toNat) bc mn (pw2 R).toNat).1 = (bsF (fun s => prC la r (tgU E s) cl.toNat) bc mn (pw2 R).toNat).1 := by
  have h := bsF_eq (bc := bc) (mn := mn) (P := fun s => prC la r (tgU (fun c t => p (c * 5 + t)) s) cl.toNat) (P2 := fun s => prC la r (tgU E s) cl.toNat) (pw2 R).toNat (fun s hs => pr_go hpo hR ⟨by omega, by omega⟩)
  rw [h]
end GO
/-! the reference's side -/
theorem mcF_r {x : Int} (h : 0 ≤ x ∧ x ≤ 11) : 0 ≤ mcF x ∧ mcF x ≤ 11 := by unfold mcF; (repeat' split) <;> omega
theorem mcF_c (x : Int) : (x = 0 → mcF x = 6) ∧ (1 ≤ x ∧ x ≤ 6 → mcF x = x - 1) ∧ (7 ≤ x → mcF x = x) := by
  unfold mcF
  refine ⟨fun h => if_pos h, fun h => ?_, fun h => ?_⟩
  · rw [if_neg (by omega), if_pos (by omega)]
  · rw [if_neg (by omega), if_neg (by omega)]
theorem u1_id {a : Int → Int} {e x : Int} (h : a e = x) : u1 a e x = a := by
  funext k
  unfold u1
  by_cases hk : k = e
  · rw [if_pos hk, hk, h]
  · rw [if_neg hk]
theorem u1_u1 {a : Int → Int} {e x y : Int} : u1 (u1 a e x) e y = u1 a e y := by
  funext k
  unfold u1
  by_cases hk : k = e
  · rw [if_pos hk, if_pos hk]
  · rw [if_neg hk, if_neg hk, if_neg hk]
theorem zu_y {A c : Int → Int} {e y : Int} (h : c = u1 A e y) : u1 c e (c e + 1) = u1 A e (y + 1) := by rw [h, u1_s, u1_u1]
theorem zu_n {A c : Int → Int} {e y : Int} (h : c = u1 A e y) : u1 c e (c e) = u1 A e (y + 0) := by rw [h, u1_s, u1_u1, Int.add_zero]
def zUk (zo : Int → Int) (b h : Int) : Nat → Int
  | 0 => 0
  | k + 1 => zUk zo b h k + (if 0 < zo (b + (k : Int)) ∧ zo (b + (k : Int)) ≤ h then 1 else 0)
theorem zUk_s {zo : Int → Int} {b h x : Int} (h0 : 0 ≤ x) : zUk zo b h (x + 1).toNat = zUk zo b h x.toNat + (if 0 < zo (b + x) ∧ zo (b + x) ≤ h then 1 else 0) := by
  obtain ⟨j, rfl⟩ : ∃ j : Nat, x = (j : Int) := ⟨x.toNat, by omega⟩
  rw [show ((j : Int) + 1).toNat = j + 1 by omega, show ((j : Int)).toNat = j by omega]
  rfl
theorem zUk_r {zo : Int → Int} (b h : Int) : ∀ k : Nat, 0 ≤ zUk zo b h k ∧ zUk zo b h k ≤ k
  | 0 => ⟨Int.le_refl 0, Int.le_refl 0⟩
  | k + 1 => by
    have q := zUk_r (zo := zo) b h k
    show 0 ≤ zUk zo b h k + (if 0 < zo (b + (k : Int)) ∧ zo (b + (k : Int)) ≤ h then 1 else 0) ∧ zUk zo b h k + (if 0 < zo (b + (k : Int)) ∧ zo (b + (k : Int)) ≤ h then 1 else 0) ≤ ((k + 1 : Nat) : Int)
    split <;> omega
theorem zU_k (zo : Int → Int) (b h : Int) : zUk zo b h (3 : Int).toNat = zU zo b h := by
  show ((0 + (if 0 < zo (b + ((0 : Nat) : Int)) ∧ zo (b + ((0 : Nat) : Int)) ≤ h then 1 else 0)) + (if 0 < zo (b + ((1 : Nat) : Int)) ∧ zo (b + ((1 : Nat) : Int)) ≤ h then 1 else 0)) + (if 0 < zo (b + ((2 : Nat) : Int)) ∧ zo (b + ((2 : Nat) : Int)) ≤ h then 1 else 0) = zU zo b h
  unfold zU
  rw [Int.zero_add]
  rfl
theorem wk3_in {a b z : Int} (ha : -1000000000 ≤ a ∧ a ≤ 1000000000) (hb : -1000000000 ≤ b ∧ b ≤ 1000000000) (hz : z = a + b ∨ z = a - b ∨ z = a * b) : inL z := by
  rcases hz with h | h | h
  · exact wk_in (c := 7) ha hb h
  · exact wk_in (c := 8) ha hb h
  · exact wk_in (c := 9) ha hb h
theorem kV_post {it nu : Int → Int} {m r c R kd : Int} {F : Int → Int → Int → Int → Int} (hp : ∀ r t c, -1000000000 ≤ evR it nu (F r t c) m ∧ evR it nu (F r t c) m ≤ 1000000000) (hf : ∀ r t c i, (-2000000) ≤ F r t c i ∧ F r t c i ≤ 2000000) (hR : R ≤ 5) {z : Int} (hz : z = kV it nu m F R kd r c) : (-5000000000) ≤ z ∧ z ≤ 5000000000 := by rw [hz]; exact kV_r hp hf hR
/-- in a round, by the reference's row -/
def liF (isn : Int → Int) (r c : Int) : Int := if isn (16 * r + c) ≠ 0 then r else r - 1
theorem liF_1 {isn : Int → Int} {r c : Int} (h : isn (16 * r + c) ≠ 0) : liF isn r c = r := if_pos h
theorem liF_0 {isn : Int → Int} {r c : Int} (h : isn (16 * r + c) = 0) : liF isn r c = r - 1 := if_neg (fun q => q h)
/-! pairs, counted from the first -/
def prD (la : Int → Int) (r : Int) (u : Int → Int) (m : Nat) : Nat → Int
  | 0 => 0
  | a + 1 => prD la r u m a + (cn (pPr la r u (a : Int)) m - cn (pPr la r u (a : Int)) (a + 1))
theorem prD_s {la u : Int → Int} {r x : Int} {m : Nat} (h : 0 ≤ x) : prD la r u m (x + 1).toNat = prD la r u m x.toNat + (cn (pPr la r u x) m - cn (pPr la r u x) (x + 1).toNat) := by
  obtain ⟨j, rfl⟩ : ∃ j : Nat, x = (j : Int) := ⟨x.toNat, by omega⟩
  rw [show ((j : Int) + 1).toNat = j + 1 by omega, show ((j : Int)).toNat = j by omega]
  rfl
theorem prD_m (la : Int → Int) (r : Int) (u : Int → Int) (m : Nat) : ∀ a : Nat, prD la r u (m + 1) a = prD la r u m a + cn (fun i => pPr la r u i (m : Int)) a
  | 0 => rfl
  | a + 1 => by
    show prD la r u (m + 1) a + ((cn (pPr la r u (a : Int)) m + (if pPr la r u (a : Int) (m : Int) then 1 else 0)) - cn (pPr la r u (a : Int)) (a + 1)) = prD la r u m a + (cn (pPr la r u (a : Int)) m - cn (pPr la r u (a : Int)) (a + 1)) + (cn (fun i => pPr la r u i (m : Int)) a + (if pPr la r u (a : Int) (m : Int) then 1 else 0))
    rw [prD_m la r u m a]
    omega
theorem pPr_sym (la : Int → Int) (r : Int) (u : Int → Int) (a b : Int) : pPr la r u a b = pPr la r u b a := by
  unfold pPr
  exact decide_eq_decide.mpr ⟨fun q => ⟨⟨q.1.2, q.1.1⟩, fun z => q.2 z.symm⟩, fun q => ⟨⟨q.1.2, q.1.1⟩, fun z => q.2 z.symm⟩⟩
theorem prD_eq (la : Int → Int) (r : Int) (u : Int → Int) : ∀ m : Nat, prD la r u m m = prC la r u m
  | 0 => rfl
  | m + 1 => by
    show prD la r u (m + 1) m + (cn (pPr la r u (m : Int)) (m + 1) - cn (pPr la r u (m : Int)) (m + 1)) = prC la r u m + cn (pPr la r u (m : Int)) m
    rw [prD_m, prD_eq la r u m, cn_congr (p := fun i => pPr la r u i (m : Int)) (q := pPr la r u (m : Int)) m (fun j _ => pPr_sym la r u j m)]
    omega
theorem prD_prC (la : Int → Int) (r : Int) (u : Int → Int) (c : Int) : prD la r u c.toNat c.toNat = prC la r u c.toNat := prD_eq la r u c.toNat
theorem sm_next {d K : Int → Int} {x : Int} (h : ∀ c, 0 ≤ c → c < x → d c = K c) (hx : d x = K x) : ∀ c, 0 ≤ c → c < x + 1 → d c = K c := fun c h0 h1 => by
  by_cases e : c = x
  · rw [e]; exact hx
  · exact h c h0 (by omega)
theorem sm_keep {d K : Int → Int} {x V : Int} (h : ∀ c, 0 ≤ c → c < x → d c = K c) : ∀ c, 0 ≤ c → c < x → u1 d x V c = K c := fun c h0 h1 => by
  rw [u1_n (by omega)]; exact h c h0 h1
theorem tgS_up {p : Int → Int} {s : Int} (R : Nat) : ∀ m : Nat, (∀ t : Nat, R ≤ t → t < R + m → btI s (t : Int) ≠ 1) → tgS p s (R + m) = tgS p s R
  | 0, _ => rfl
  | m + 1, h => by
    show tgS p s (R + m) + (if btI s ((R + m : Nat) : Int) = 1 then p ((R + m : Nat) : Int) else 0) = tgS p s R
    rw [if_neg (h (R + m) (by omega) (by omega)), tgS_up R m (fun t h0 h1 => h t h0 (by omega))]
    omega
theorem tgS_R {p : Int → Int} {s R : Int} (hR : 0 ≤ R ∧ R ≤ 5) (h : ∀ t, R ≤ t → t < 5 → btI s t ≠ 1) : tgS p s R.toNat = tgS p s (5 : Int).toNat := by
  have e : (5 : Int).toNat = R.toNat + (5 - R).toNat := by
    have h9 : (5 : Int).toNat = 5 := rfl
    omega
  rw [e]
  exact (tgS_up R.toNat (5 - R).toNat (fun t h0 h1 => h t (by omega) (by omega))).symm
/-- who comes to the next round, by the reference's rows -/
def pAv (rk : Int → Int) (mo c : Int) : Bool := decide (0 < rk c ∧ rk c ≤ mo)
def aiP (isn : Int → Int) (p : Int → Bool) (t cl : Int) : Int → Int := fun e => if (16 * t ≤ e ∧ e < 16 * t + cl) ∧ p (e - 16 * t) = true then 1 else isn e
theorem aiP_eq {isn : Int → Int} {p q : Int → Bool} {t cl : Int} (h : ∀ j, 0 ≤ j → j < cl → p j = q j) : aiP isn p t cl = aiP isn q t cl := by
  funext e
  unfold aiP
  by_cases hc : 16 * t ≤ e ∧ e < 16 * t + cl
  · rw [h (e - 16 * t) (by omega) (by omega)]
  · rw [if_neg (fun z => hc z.1), if_neg (fun z => hc z.1)]
theorem aiP_none {isn : Int → Int} {p : Int → Bool} {t cl : Int} (h : ∀ j, 0 ≤ j → j < cl → p j = false) : aiP isn p t cl = isn := by
  funext e
  unfold aiP
  by_cases hc : 16 * t ≤ e ∧ e < 16 * t + cl
  · rw [if_neg (fun z => by have := h (e - 16 * t) (by omega) (by omega); rw [this] at z; exact absurd z.2 (by decide))]
  · rw [if_neg (fun z => hc z.1)]
theorem aiP_hit {isn : Int → Int} {p q : Int → Bool} {t cl c i : Int} (hc : 0 ≤ c ∧ c < cl) (hi : i = 16 * t + c) (hq : q c = true) (h : ∀ j, j ≠ c → p j = q j) : u1 (aiP isn p t cl) i 1 = aiP isn q t cl := by
  funext e
  unfold u1 aiP
  by_cases he : e = i
  · rw [if_pos he, if_pos ⟨by omega, by rw [he, hi, show 16 * t + c - 16 * t = c by omega]; exact hq⟩]
  · rw [if_neg he, h (e - 16 * t) (by omega)]
theorem cP_one {a : Int → Int} {r t c j : Int} (h : a c ≠ r) : cP a r t c j = cP a r t (c + (-1)) j := by
  unfold cP
  refine decide_eq_decide.mpr ⟨fun q => by omega, fun q => ?_⟩
  rcases q with q | q
  · exact Or.inl q
  · rcases (show j = c ∨ c < j by omega) with e | e
    · rw [e] at q; exact absurd q.1 h
    · exact Or.inr ⟨q.1, e⟩
theorem cP_av {a : Int → Int} {t m j : Int} (h : j < m) : cP a 0 t (m - 1) j = pAv a t j := by
  unfold cP pAv
  exact decide_eq_decide.mpr ⟨fun q => by omega, fun q => by omega⟩
theorem pAv_eq {a b : Int → Int} {t j : Int} (h : a j = b j) : pAv a t j = pAv b t j := by
  unfold pAv
  rw [h]
