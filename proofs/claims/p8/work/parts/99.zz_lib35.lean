/-! advance: both sides let the same ones come -/
section ADV
variable {la isn RK RK2 : Int → Int} {op mo cl c r : Int}
theorem lc_av1 (hla : la c ≤ op) (h1 : op ≤ la c → 1 ≤ RK c) (h2 : ¬ op ≤ la c → RK c = -1) (he : RK c = RK2 c) : pLc la RK op mo c = pAv RK2 mo c := by
  unfold pLc pAv
  rw [← he]
  refine decide_eq_decide.mpr ⟨fun q => ⟨?_, q.2⟩, fun q => ⟨?_, q.2⟩⟩
  · have := h1 (by omega); omega
  · by_cases e : op ≤ la c
    · omega
    · have := h2 e; omega
theorem lc_av (hla : ∀ c, 0 ≤ c → c < cl → la c ≤ op) (h1 : ∀ c, 0 ≤ c → c < cl → (op ≤ la c → 1 ≤ RK c) ∧ (¬ op ≤ la c → RK c = -1)) (he : ∀ c, 0 ≤ c → c < cl → RK c = RK2 c) : cn (pLc la RK op mo) cl.toNat = cn (pAv RK2 mo) cl.toNat := cn_eq (fun j j0 j1 => lc_av1 (hla j j0 j1) (h1 j j0 j1).1 (h1 j j0 j1).2 (he j j0 j1))
theorem rkF_r {q : Int → Int → Int → Int} {dn : Int → Int} {ks bk : Int} (hcl : 0 ≤ cl) : (r ≤ la c → 1 ≤ rkF q dn ks bk la cl r c) ∧ (¬ r ≤ la c → rkF q dn ks bk la cl r c = -1) := by
  have h := cn_r (p := pAh q dn ks bk la r c) hcl
  unfold rkF
  refine ⟨fun e => ?_, fun e => ?_⟩
  · rw [if_pos e]; omega
  · rw [if_neg e]
theorem la_adv (hc : 0 ≤ c ∧ c < cl) (hcl : cl ≤ 16) (hr : 0 ≤ r) (hop : 0 ≤ op) (hla : la c ≤ op) (h1 : op ≤ la c → 1 ≤ RK c) (h2 : ¬ op ≤ la c → RK c = -1) (he : RK c = RK2 c) (hold : isn (16 * r + c) ≠ 0 ↔ r ≤ la c) : aiP isn (pAv RK2 mo) (op + 1) cl (16 * r + c) ≠ 0 ↔ r ≤ lcF la RK op mo cl c := by
  have hp := lc_av1 (mo := mo) hla h1 h2 he
  unfold aiP lcF
  by_cases e : r = op + 1
  · have e2 : 16 * r + c - 16 * (op + 1) = c := by omega
    rw [e2, ← hp]
    unfold pLc
    by_cases g : la c = op ∧ RK c ≤ mo
    · rw [if_pos ⟨by omega, decide_eq_true g⟩, if_pos ⟨hc, g⟩]
      exact ⟨fun _ => by omega, fun _ => by decide⟩
    · rw [if_neg (fun z => g (of_decide_eq_true z.2)), if_neg (fun z => g z.2)]
      exact hold
  · have e3 : ¬ (16 * (op + 1) ≤ 16 * r + c ∧ 16 * r + c < 16 * (op + 1) + cl) := by omega
    rw [if_neg (fun z => e3 z.1)]
    by_cases g : (0 ≤ c ∧ c < cl) ∧ la c = op ∧ RK c ≤ mo
    · rw [if_pos g, hold]
      omega
    · rw [if_neg g]
      exact hold
end ADV
theorem liF_le {isn la : Int → Int} {r c : Int} (h : isn (16 * r + c) ≠ 0 ↔ r ≤ la c) : r ≤ la c ↔ r ≤ liF isn r c := by
  by_cases e : isn (16 * r + c) ≠ 0
  · rw [liF_1 e]
    exact ⟨fun _ => Int.le_refl r, fun _ => h.mp e⟩
  · rw [liF_0 (by omega)]
    exact ⟨fun z => absurd (h.mpr z) e, fun z => by omega⟩
