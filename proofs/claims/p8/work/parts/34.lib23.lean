/-! bytes of an int: the class's (v >>> s) & 255, the reference's (byte)(v >> s) -/
theorem iI_bv (v : Int) : (iI v).toBitVec = BitVec.ofInt 32 v := rfl
theorem gUsB {v x : Int} {s : Nat} (hs : s = 0 ∨ s = 8 ∨ s = 16 ∨ s = 24) (e : ((iI v).toUInt32 >>> ((iI (s : Int)).toUInt32 &&& Int32.toUInt32 31)).toInt32 = iI x) : iI x &&& iI 255 = iI (v / ((2 : Int) ^ s) % 256) := by
  rw [← e]
  apply Int32.toBitVec_inj.mp
  have h1 : ((((iI v).toUInt32 >>> ((iI (s : Int)).toUInt32 &&& Int32.toUInt32 31)).toInt32 &&& iI 255).toBitVec) = (BitVec.ofInt 32 v >>> s) &&& 255#32 := by
    rcases hs with rfl | rfl | rfl | rfl <;> rfl
  rw [h1, iI_bv]
  apply BitVec.eq_of_toNat_eq
  have h2 : ((BitVec.ofInt 32 v >>> s) &&& 255#32).toNat = ((v % 4294967296).toNat >>> s) &&& 255 := by
    rw [BitVec.toNat_and, BitVec.toNat_ushiftRight, BitVec.toNat_ofInt]; rfl
  rw [h2, BitVec.toNat_ofInt, show (255 : Nat) = 2 ^ 8 - 1 from rfl, Nat.and_two_pow_sub_one_eq_mod, Nat.shiftRight_eq_div_pow]
  rcases hs with rfl | rfl | rfl | rfl <;> simp only [Nat.reducePow, Int.reducePow] <;> omega
theorem gUs24 {v x : Int} (_ : inR v) (e : ((iI v).toUInt32 >>> ((iI 24).toUInt32 &&& Int32.toUInt32 31)).toInt32 = iI x) : iI x &&& iI 255 = iI (v / 16777216 % 256) := gUsB (s := 24) (by decide) e
theorem gUs16 {v x : Int} (_ : inR v) (e : ((iI v).toUInt32 >>> ((iI 16).toUInt32 &&& Int32.toUInt32 31)).toInt32 = iI x) : iI x &&& iI 255 = iI (v / 65536 % 256) := gUsB (s := 16) (by decide) e
theorem gUs8 {v x : Int} (_ : inR v) (e : ((iI v).toUInt32 >>> ((iI 8).toUInt32 &&& Int32.toUInt32 31)).toInt32 = iI x) : iI x &&& iI 255 = iI (v / 256 % 256) := gUsB (s := 8) (by decide) e
theorem gUs0 {v x : Int} (_ : inR v) (e : ((iI v).toUInt32 >>> ((iI 0).toUInt32 &&& Int32.toUInt32 31)).toInt32 = iI x) : iI x &&& iI 255 = iI (v / 1 % 256) := gUsB (s := 0) (by decide) e
theorem gSrB {v x : Int} {s : Nat} (hs : s = 0 ∨ s = 8 ∨ s = 16 ∨ s = 24) (hv : inR v) (hx : inR x) (e : iI v >>> (iI (s : Int) &&& 31) = iI x) : x = v / ((2 : Int) ^ s) := by
  have h1 : (iI x).toInt = v / ((2 : Int) ^ s) := by
    rw [← e]
    have h2 : (iI v >>> (iI (s : Int) &&& 31)).toInt = ((iI v).toBitVec.sshiftRight s).toInt := by
      rcases hs with rfl | rfl | rfl | rfl <;> rfl
    rw [h2, BitVec.toInt_sshiftRight]
    show (iI v).toInt >>> s = _
    rw [iI_toInt hv, Int.shiftRight_eq_div_pow]
    rcases hs with rfl | rfl | rfl | rfl <;> rfl
  rw [iI_toInt hx] at h1
  exact h1
theorem gSr24 {v x : Int} (hv : inR v) (hx : inR x) (e : iI v >>> (iI 24 &&& 31) = iI x) : x = v / 16777216 := gSrB (s := 24) (by decide) hv hx e
theorem gSr16 {v x : Int} (hv : inR v) (hx : inR x) (e : iI v >>> (iI 16 &&& 31) = iI x) : x = v / 65536 := gSrB (s := 16) (by decide) hv hx e
theorem gSr8 {v x : Int} (hv : inR v) (hx : inR x) (e : iI v >>> (iI 8 &&& 31) = iI x) : x = v / 256 := gSrB (s := 8) (by decide) hv hx e
theorem gSr0 {v x : Int} (hv : inR v) (hx : inR x) (e : iI v >>> (iI 0 &&& 31) = iI x) : x = v / 1 := gSrB (s := 0) (by decide) hv hx e
theorem gB8m {x y : Int} (hx : inR x) (hy : inR y) (e : (iI x).toInt8.toInt32 = iI y) : y % 256 = x % 256 := by
  have h1 : (iI y).toInt = (x.bmod 256) := by
    rw [← e, Int8.toInt_toInt32, Int32.toInt_toInt8, iI_toInt hx]
  rw [iI_toInt hy] at h1
  rw [h1]
  exact Int.bmod_emod
/-- four bytes of an int laid down, highest first; five ints -/
def bP (a : Int → Int) (t x : Int) : Int → Int := u1 (u1 (u1 (u1 a t (x / 16777216 % 256)) (t + 1) (x / 65536 % 256)) (t + 2) (x / 256 % 256)) (t + 3) (x / 1 % 256)
def bF (a : Int → Int) (t x1 x2 x3 x4 x5 : Int) : Int → Int := bP (bP (bP (bP (bP a t x1) (t + 4) x2) (t + 8) x3) (t + 12) x4) (t + 16) x5
theorem u1_mod {a B : Int → Int} (h : ∀ k, a k % 256 = B k) {e y z : Int} (hz : y % 256 = z) : ∀ k, u1 a e y k % 256 = u1 B e z k := fun k => by
  unfold u1
  by_cases hk : k = e
  · rw [if_pos hk, if_pos hk]; exact hz
  · rw [if_neg hk, if_neg hk]; exact h k
