theorem cp_s {a b : Int → Int} {x V : Int} (h : ∀ j, 0 ≤ j → j < x → a j = b j) (hV : V = b x) : ∀ j, 0 ≤ j → j < x + 1 → u1 a x V j = b j := fun j h0 h1 => by
  by_cases e : j = x
  · rw [e, u1_s, hV]
  · rw [u1_n e]; exact h j h0 (by omega)
theorem fl_s {a : Int → Int} {x V : Int} (h : ∀ j, 0 ≤ j → j < x → a j = V) : ∀ j, 0 ≤ j → j < x + 1 → u1 a x V j = V := fun j h0 h1 => by
  by_cases e : j = x
  · rw [e, u1_s]
  · rw [u1_n e]; exact h j h0 (by omega)
theorem rwC_cp {B : Int → Int} {n p r : Int} {a b c d a2 b2 c2 d2 : Int → Int} (h : rwC B n p a b c d r) (ha : a2 r = a r) (hb : b2 r = b r) (hc : c2 r = c r) (hd : d2 r = d r) : rwC B n p a2 b2 c2 d2 r := ⟨ha.trans h.1, hb.trans h.2.1, hc.trans h.2.2.1, hd.trans h.2.2.2⟩
theorem kyOm_cp {B : Int → Int} {n p m : Int} {ky up ky2 up2 : Int → Int} (h : kyOm B n p ky up m) (he : ∀ j, 0 ≤ j → j < m → ky2 j = ky j ∧ up2 j = up j) : kyOm B n p ky2 up2 m :=
  ⟨fun q => by have h1 := h.1 q; have h2 := he 0 (by omega) (by omega); exact ⟨h1.1, h2.1.trans h1.2.1, h2.2.trans h1.2.2⟩, fun q => ⟨(h.2 q).1, fun j j0 j1 => by have h2 := he j j0 j1; have h3 := (h.2 q).2 j j0 j1; exact ⟨h2.1.trans h3.1, h2.2.trans h3.2⟩⟩⟩
