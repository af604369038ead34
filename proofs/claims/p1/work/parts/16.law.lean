/-- a fresh RouteWall, a fresh RouteWallModel -/
def rv0 : gV := fun j => if j = 27 then -1 else if j = 28 then -1 else 0
def mv0 : gV := fun j => if j = 4 then -1 else if j = 5 then -1 else if j = 23 then -1 else 0
def gz : gF := fun _ _ => 0
def R_law : String := "RouteWallLaw"
section GLaw
variable {p : Program} {l : Launch} {e : Env} {s : State} {m : MethodId} {below : List Frame} {meth : Method} {c : Code} {H : Heap} {locs : List Loc} {Q : State → Prop} {ls : Array Slot} {D : va_G} {k : Nat → ClassId} {ad bd : Nat → Nat} {Ax Am : Nat → Prop} {b : Nat} {X : Nat → Int}
theorem g_sld {own : String} {cc : ByteArray} {H0 : Heap} {A : Nat → Prop} {R : Room} {args : Array Value} {pc cells slots : Nat} {rest : List Value} {L : Nat} (C : gC D k p s m args c cc own) (hX : va_X b L (fun j => iI (X j)) s H0) (hbl : b < H0.size) (hbA : ¬ A b) (hS : va_S A H0 H locs) {i : Nat} (hi : i < L) (hi2 : i ≤ 1000000) {z : Int} (hz : z = (i : Int)) (hdg : decode cc pc = .ok (.iaload, 1)) (kk : W p l e R s m args below meth c H locs cells slots Q (F0 m (pc + 1) ls (.int (iI (X i)) :: rest))) : W p l e R s m args below meth c H locs cells slots Q (F0 m pc ls (.int (iI z) :: .ref b :: rest)) := by
  subst hz
  refine va_sld C.1 C.2.1 hX hbl hbA hS (i := iI (i : Int)) ?_ hdg ?_
  · rw [vp_in_iff, iI_toInt ⟨by omega, by omega⟩]
    omega
  · have hc : (iI (i : Int)).toNatClampNeg = i := by
      have := iI_cl (a := (i : Int)) (by omega) (by omega)
      omega
    rw [hc]
    exact kk
set_option maxHeartbeats 4000000 in
set_option maxRecDepth 100000 in
theorem law_case_0 (C : gC D k p s m #[Value.ref b] c code R_law) (hml : c.maxLocals = 4) (hX : va_X b 7 (fun j => iI (X j)) s s.heap) (hXr : ∀ j, inR (X j)) (hbl : b < s.heap.size) (hPx : gWd D (rwW k ad) rv0 gz gz H) (hDx : rwD Ax k ad) (hDm : mdD Am k bd) (hAx : ∀ q : Nat, Ax q → s.heap.size ≤ q) (hAm : ∀ q : Nat, Am q → s.heap.size ≤ q) (hkeep : ∀ H1 : Heap, (∀ q : Nat, q < H.size → ¬ Ax q → H1[q]? = H[q]?) → gWd D (mdW k bd) mv0 gz gz H1) (hS : va_S (fun q : Nat => s.heap.size ≤ q) s.heap H locs) (hl : lv_has ls 4 [(3, .int (iI 0)), (2, .ref (bd 0)), (1, .ref (ad 0)), (0, .ref b)]) (tail : ∀ (H : Heap) (locs : List Loc), va_S (fun q : Nat => s.heap.size ≤ q) s.heap H locs → W p l e room_1 s m #[Value.ref b] below meth c H locs 100 12380 Q (F0 m 1081 ls [])) : W p l e room_1 s m #[Value.ref b] below meth c H locs 100 12380 Q (F0 m 144 ls []) := by
  have hx := C.1
  have hb := C.2.1
  have hbA : ¬ (fun q : Nat => s.heap.size ≤ q) b := Nat.not_le.mpr hbl
  have hX1 := hXr 1
  have hX2 := hXr 2
  have hX3 := hXr 3
  have hX4 := hXr 4
  have hX5 := hXr 5
  have hX6 := hXr 6
  refine lv_aload_n hx hb dL_law_144 rfl (lv_at hl 2 rfl) ?_
  refine g_cv (As := []) (rest := []) (n := 0) C hml (c_X10_status l D k Ax ad hDx rv0 gz gz   rfl rfl rfl rfl rfl rfl rfl rfl rfl (fun _ => rfl)) mM_L_13 mI_X10_status mE_X10_status mN_X10 mC_X10_status (by decide +kernel) 0 (ci := 10) rfl rfl hPx hS hAx ⟨Nat.le_of_ble_eq_true rfl, Nat.le_of_ble_eq_true rfl⟩ ⟨Nat.le_of_ble_eq_true rfl, Nat.le_of_ble_eq_true rfl⟩ hl.1 rfl rfl (Nat.le_of_ble_eq_true rfl) dL_law_145 (fun r_1 v_1 f_1 g_1 H1 locs hq_1 hP_1 hk_1 hS => ?_)
  obtain ⟨rfl, -⟩ := hq_1
  show W p l e room_1 s m #[Value.ref b] below meth c _ _ 100 12380 Q (F0 m 148 ls [.int (iI 0)])
  have hPm := hkeep H1 hk_1
  refine lv_aload_n hx hb dL_law_148 rfl (lv_at hl 1 rfl) ?_
  refine g_cv (As := []) (rest := [.int (iI 0)]) (n := 0) C hml (m_status l D k Am bd hDm mv0 gz gz   rfl rfl rfl rfl rfl rfl rfl rfl rfl) mM_L_17 mI_X11_status mE_X11_status mN_X11 mC_X11_status (by decide +kernel) 0 (ci := 11) rfl rfl hPm hS hAm ⟨Nat.le_of_ble_eq_true rfl, Nat.le_of_ble_eq_true rfl⟩ ⟨Nat.le_of_ble_eq_true rfl, Nat.le_of_ble_eq_true rfl⟩ hl.1 rfl rfl (Nat.le_of_ble_eq_true rfl) dL_law_149 (fun r_2 v_2 f_2 g_2 H1 locs hq_2 hP_2 hk_2 hS => ?_)
  obtain ⟨rfl, -⟩ := hq_2
  show W p l e room_1 s m #[Value.ref b] below meth c _ _ 100 12380 Q (F0 m 152 ls [.int (iI 0), .int (iI 0)])
  refine gi_ceq (tgt := 1081) hx hb dL_law_152 (by decide) (by decide) (by decide) (fun c_3 => ?_) (fun c_3 => ?_)
  · exact tail _ _ hS
  · exact absurd rfl c_3
set_option maxHeartbeats 4000000 in
set_option maxRecDepth 100000 in
theorem law_case_1 (C : gC D k p s m #[Value.ref b] c code R_law) (hml : c.maxLocals = 4) (hX : va_X b 7 (fun j => iI (X j)) s s.heap) (hXr : ∀ j, inR (X j)) (hbl : b < s.heap.size) (hPx : gWd D (rwW k ad) rv0 gz gz H) (hDx : rwD Ax k ad) (hDm : mdD Am k bd) (hAx : ∀ q : Nat, Ax q → s.heap.size ≤ q) (hAm : ∀ q : Nat, Am q → s.heap.size ≤ q) (hkeep : ∀ H1 : Heap, (∀ q : Nat, q < H.size → ¬ Ax q → H1[q]? = H[q]?) → gWd D (mdW k bd) mv0 gz gz H1) (hS : va_S (fun q : Nat => s.heap.size ≤ q) s.heap H locs) (hl : lv_has ls 4 [(3, .int (iI 0)), (2, .ref (bd 0)), (1, .ref (ad 0)), (0, .ref b)]) (tail : ∀ (H : Heap) (locs : List Loc), va_S (fun q : Nat => s.heap.size ≤ q) s.heap H locs → W p l e room_1 s m #[Value.ref b] below meth c H locs 100 12380 Q (F0 m 1081 ls [])) : W p l e room_1 s m #[Value.ref b] below meth c H locs 100 12380 Q (F0 m 157 ls []) := by
  have hx := C.1
  have hb := C.2.1
  have hbA : ¬ (fun q : Nat => s.heap.size ≤ q) b := Nat.not_le.mpr hbl
  have hX1 := hXr 1
  have hX2 := hXr 2
  have hX3 := hXr 3
  have hX4 := hXr 4
  have hX5 := hXr 5
  have hX6 := hXr 6
  refine lv_aload_n hx hb dL_law_157 rfl (lv_at hl 2 rfl) ?_
  refine lv_aload_n hx hb dL_law_158 rfl (lv_at hl 3 rfl) ?_
  refine lv_iload_n hx hb dL_law_159 rfl (lv_at hl 0 rfl) ?_
  refine lv_iconst (v := iI 1) hx hb dL_law_160 rfl ?_
  refine gi_add (z := 1) hx hb dL_law_161 (by decide) ?_
  refine g_sld (i := 1) C hX hbl hbA hS (by decide) (by decide) rfl dL_law_162 ?_
  refine lv_aload_n hx hb dL_law_163 rfl (lv_at hl 3 rfl) ?_
  refine lv_iload_n hx hb dL_law_164 rfl (lv_at hl 0 rfl) ?_
  refine lv_iconst (v := iI 2) hx hb dL_law_165 rfl ?_
  refine gi_add (z := 2) hx hb dL_law_166 (by decide) ?_
  refine g_sld (i := 2) C hX hbl hbA hS (by decide) (by decide) rfl dL_law_167 ?_
  refine lv_aload_n hx hb dL_law_168 rfl (lv_at hl 3 rfl) ?_
  refine lv_iload_n hx hb dL_law_169 rfl (lv_at hl 0 rfl) ?_
  refine lv_iconst (v := iI 3) hx hb dL_law_170 rfl ?_
  refine gi_add (z := 3) hx hb dL_law_171 (by decide) ?_
  refine g_sld (i := 3) C hX hbl hbA hS (by decide) (by decide) rfl dL_law_172 ?_
  refine lv_aload_n hx hb dL_law_173 rfl (lv_at hl 3 rfl) ?_
  refine lv_iload_n hx hb dL_law_174 rfl (lv_at hl 0 rfl) ?_
  refine lv_iconst (v := iI 4) hx hb dL_law_175 rfl ?_
  refine gi_add (z := 4) hx hb dL_law_176 (by decide) ?_
  refine g_sld (i := 4) C hX hbl hbA hS (by decide) (by decide) rfl dL_law_177 ?_
  refine lv_aload_n hx hb dL_law_178 rfl (lv_at hl 3 rfl) ?_
  refine lv_iload_n hx hb dL_law_179 rfl (lv_at hl 0 rfl) ?_
  refine lv_iconst (v := iI 5) hx hb dL_law_180 rfl ?_
  refine gi_add (z := 5) hx hb dL_law_181 (by decide) ?_
  refine g_sld (i := 5) C hX hbl hbA hS (by decide) (by decide) rfl dL_law_182 ?_
  refine g_cv (As := [.int (iI (X 1)), .int (iI (X 2)), .int (iI (X 3)), .int (iI (X 4)), .int (iI (X 5))]) (rest := []) (n := 5) C hml (c_X10_feed l D k Ax ad hDx rv0 gz gz (X 1) (X 2) (X 3) (X 4) (X 5) (by omega) (by omega) (by omega) (by omega) (by omega) rfl rfl rfl rfl rfl rfl rfl rfl rfl (fun _ => rfl)) mM_L_18 mI_X10_feed mE_X10_feed mN_X10 mC_X10_feed (by decide +kernel) 0 (ci := 10) rfl rfl hPx hS hAx ⟨Nat.le_of_ble_eq_true rfl, Nat.le_of_ble_eq_true rfl⟩ ⟨Nat.le_of_ble_eq_true rfl, Nat.le_of_ble_eq_true rfl⟩ hl.1 rfl rfl (Nat.le_of_ble_eq_true rfl) dL_law_183 (fun r_1 v_1 f_1 g_1 H1 locs hq_1 hP_1 hk_1 hS => ?_)
  obtain ⟨rfl, -⟩ := hq_1
  show W p l e room_1 s m #[Value.ref b] below meth c _ _ 100 12380 Q (F0 m 186 ls [.int (iI 20)])
  have hPm := hkeep H1 hk_1
  refine lv_aload_n hx hb dL_law_186 rfl (lv_at hl 1 rfl) ?_
  refine lv_aload_n hx hb dL_law_187 rfl (lv_at hl 3 rfl) ?_
  refine lv_iload_n hx hb dL_law_188 rfl (lv_at hl 0 rfl) ?_
  refine lv_iconst (v := iI 1) hx hb dL_law_189 rfl ?_
  refine gi_add (z := 1) hx hb dL_law_190 (by decide) ?_
  refine g_sld (i := 1) C hX hbl hbA hS (by decide) (by decide) rfl dL_law_191 ?_
  refine lv_aload_n hx hb dL_law_192 rfl (lv_at hl 3 rfl) ?_
  refine lv_iload_n hx hb dL_law_193 rfl (lv_at hl 0 rfl) ?_
  refine lv_iconst (v := iI 2) hx hb dL_law_194 rfl ?_
  refine gi_add (z := 2) hx hb dL_law_195 (by decide) ?_
  refine g_sld (i := 2) C hX hbl hbA hS (by decide) (by decide) rfl dL_law_196 ?_
  refine lv_aload_n hx hb dL_law_197 rfl (lv_at hl 3 rfl) ?_
  refine lv_iload_n hx hb dL_law_198 rfl (lv_at hl 0 rfl) ?_
  refine lv_iconst (v := iI 3) hx hb dL_law_199 rfl ?_
  refine gi_add (z := 3) hx hb dL_law_200 (by decide) ?_
  refine g_sld (i := 3) C hX hbl hbA hS (by decide) (by decide) rfl dL_law_201 ?_
  refine lv_aload_n hx hb dL_law_202 rfl (lv_at hl 3 rfl) ?_
  refine lv_iload_n hx hb dL_law_203 rfl (lv_at hl 0 rfl) ?_
  refine lv_iconst (v := iI 4) hx hb dL_law_204 rfl ?_
  refine gi_add (z := 4) hx hb dL_law_205 (by decide) ?_
  refine g_sld (i := 4) C hX hbl hbA hS (by decide) (by decide) rfl dL_law_206 ?_
  refine lv_aload_n hx hb dL_law_207 rfl (lv_at hl 3 rfl) ?_
  refine lv_iload_n hx hb dL_law_208 rfl (lv_at hl 0 rfl) ?_
  refine lv_iconst (v := iI 5) hx hb dL_law_209 rfl ?_
  refine gi_add (z := 5) hx hb dL_law_210 (by decide) ?_
  refine g_sld (i := 5) C hX hbl hbA hS (by decide) (by decide) rfl dL_law_211 ?_
  refine g_cv (As := [.int (iI (X 1)), .int (iI (X 2)), .int (iI (X 3)), .int (iI (X 4)), .int (iI (X 5))]) (rest := [.int (iI 20)]) (n := 5) C hml (m_feed l D k Am bd hDm mv0 gz gz (X 1) (X 2) (X 3) (X 4) (X 5) (by omega) (by omega) (by omega) (by omega) (by omega) rfl rfl rfl rfl rfl rfl rfl rfl rfl) mM_L_22 mI_X11_feed mE_X11_feed mN_X11 mC_X11_feed (by decide +kernel) 0 (ci := 11) rfl rfl hPm hS hAm ⟨Nat.le_of_ble_eq_true rfl, Nat.le_of_ble_eq_true rfl⟩ ⟨Nat.le_of_ble_eq_true rfl, Nat.le_of_ble_eq_true rfl⟩ hl.1 rfl rfl (Nat.le_of_ble_eq_true rfl) dL_law_212 (fun r_2 v_2 f_2 g_2 H1 locs hq_2 hP_2 hk_2 hS => ?_)
  obtain ⟨rfl, -⟩ := hq_2
  show W p l e room_1 s m #[Value.ref b] below meth c _ _ 100 12380 Q (F0 m 215 ls [.int (iI 20), .int (iI 20)])
  refine gi_ceq (tgt := 1081) hx hb dL_law_215 (by decide) (by decide) (by decide) (fun c_3 => ?_) (fun c_3 => ?_)
  · exact tail _ _ hS
  · exact absurd rfl c_3
set_option maxHeartbeats 4000000 in
set_option maxRecDepth 100000 in
theorem law_case_2 (C : gC D k p s m #[Value.ref b] c code R_law) (hml : c.maxLocals = 4) (hX : va_X b 7 (fun j => iI (X j)) s s.heap) (hXr : ∀ j, inR (X j)) (hbl : b < s.heap.size) (hPx : gWd D (rwW k ad) rv0 gz gz H) (hDx : rwD Ax k ad) (hDm : mdD Am k bd) (hAx : ∀ q : Nat, Ax q → s.heap.size ≤ q) (hAm : ∀ q : Nat, Am q → s.heap.size ≤ q) (hkeep : ∀ H1 : Heap, (∀ q : Nat, q < H.size → ¬ Ax q → H1[q]? = H[q]?) → gWd D (mdW k bd) mv0 gz gz H1) (hS : va_S (fun q : Nat => s.heap.size ≤ q) s.heap H locs) (hl : lv_has ls 4 [(3, .int (iI 0)), (2, .ref (bd 0)), (1, .ref (ad 0)), (0, .ref b)]) (tail : ∀ (H : Heap) (locs : List Loc), va_S (fun q : Nat => s.heap.size ≤ q) s.heap H locs → W p l e room_1 s m #[Value.ref b] below meth c H locs 100 12380 Q (F0 m 1081 ls [])) : W p l e room_1 s m #[Value.ref b] below meth c H locs 100 12380 Q (F0 m 220 ls []) := by
  have hx := C.1
  have hb := C.2.1
  have hbA : ¬ (fun q : Nat => s.heap.size ≤ q) b := Nat.not_le.mpr hbl
  have hX1 := hXr 1
  have hX2 := hXr 2
  have hX3 := hXr 3
  have hX4 := hXr 4
  have hX5 := hXr 5
  have hX6 := hXr 6
  refine lv_aload_n hx hb dL_law_220 rfl (lv_at hl 2 rfl) ?_
  refine lv_aload_n hx hb dL_law_221 rfl (lv_at hl 3 rfl) ?_
  refine lv_iload_n hx hb dL_law_222 rfl (lv_at hl 0 rfl) ?_
  refine lv_iconst (v := iI 1) hx hb dL_law_223 rfl ?_
  refine gi_add (z := 1) hx hb dL_law_224 (by decide) ?_
  refine g_sld (i := 1) C hX hbl hbA hS (by decide) (by decide) rfl dL_law_225 ?_
  refine g_cv (As := [.int (iI (X 1))]) (rest := []) (n := 1) C hml (c_X10_load l D k Ax ad hDx rv0 gz gz (X 1) (by omega) rfl rfl rfl rfl rfl rfl rfl rfl rfl (fun _ => rfl)) mM_L_23 mI_X10_load mE_X10_load mN_X10 mC_X10_load (by decide +kernel) 0 (ci := 10) rfl rfl hPx hS hAx ⟨Nat.le_of_ble_eq_true rfl, Nat.le_of_ble_eq_true rfl⟩ ⟨Nat.le_of_ble_eq_true rfl, Nat.le_of_ble_eq_true rfl⟩ hl.1 rfl rfl (Nat.le_of_ble_eq_true rfl) dL_law_226 (fun r_1 v_1 f_1 g_1 H1 locs hq_1 hP_1 hk_1 hS => ?_)
  obtain ⟨⟨z_1, rfl, ez_1⟩, -⟩ := hq_1
  have hz_1 : inR z_1 := by rw [ez_1]; split <;> decide
  show W p l e room_1 s m #[Value.ref b] below meth c _ _ 100 12380 Q (F0 m 229 ls [.int (iI z_1)])
  have hPm := hkeep H1 hk_1
  refine lv_aload_n hx hb dL_law_229 rfl (lv_at hl 1 rfl) ?_
  refine lv_aload_n hx hb dL_law_230 rfl (lv_at hl 3 rfl) ?_
  refine lv_iload_n hx hb dL_law_231 rfl (lv_at hl 0 rfl) ?_
  refine lv_iconst (v := iI 1) hx hb dL_law_232 rfl ?_
  refine gi_add (z := 1) hx hb dL_law_233 (by decide) ?_
  refine g_sld (i := 1) C hX hbl hbA hS (by decide) (by decide) rfl dL_law_234 ?_
  refine g_cv (As := [.int (iI (X 1))]) (rest := [.int (iI z_1)]) (n := 1) C hml (m_load l D k Am bd hDm mv0 gz gz (X 1) (by omega) rfl rfl rfl rfl rfl rfl rfl rfl rfl) mM_L_27 mI_X11_load mE_X11_load mN_X11 mC_X11_load (by decide +kernel) 0 (ci := 11) rfl rfl hPm hS hAm ⟨Nat.le_of_ble_eq_true rfl, Nat.le_of_ble_eq_true rfl⟩ ⟨Nat.le_of_ble_eq_true rfl, Nat.le_of_ble_eq_true rfl⟩ hl.1 rfl rfl (Nat.le_of_ble_eq_true rfl) dL_law_235 (fun r_2 v_2 f_2 g_2 H1 locs hq_2 hP_2 hk_2 hS => ?_)
  obtain ⟨⟨z_2, rfl, ez_2⟩, -⟩ := hq_2
  have hz_2 : inR z_2 := by rw [ez_2]; split <;> decide
  show W p l e room_1 s m #[Value.ref b] below meth c _ _ 100 12380 Q (F0 m 238 ls [.int (iI z_2), .int (iI z_1)])
  refine gi_ceq (tgt := 1081) hx hb dL_law_238 (by decide) (by omega) (by omega) (fun c_3 => ?_) (fun c_3 => ?_)
  · exact tail _ _ hS
  · exact absurd (by rw [ez_1, ez_2]) c_3
set_option maxHeartbeats 4000000 in
set_option maxRecDepth 100000 in
theorem law_case_3 (C : gC D k p s m #[Value.ref b] c code R_law) (hml : c.maxLocals = 4) (hX : va_X b 7 (fun j => iI (X j)) s s.heap) (hXr : ∀ j, inR (X j)) (hbl : b < s.heap.size) (hPx : gWd D (rwW k ad) rv0 gz gz H) (hDx : rwD Ax k ad) (hDm : mdD Am k bd) (hAx : ∀ q : Nat, Ax q → s.heap.size ≤ q) (hAm : ∀ q : Nat, Am q → s.heap.size ≤ q) (hkeep : ∀ H1 : Heap, (∀ q : Nat, q < H.size → ¬ Ax q → H1[q]? = H[q]?) → gWd D (mdW k bd) mv0 gz gz H1) (hS : va_S (fun q : Nat => s.heap.size ≤ q) s.heap H locs) (hl : lv_has ls 4 [(3, .int (iI 0)), (2, .ref (bd 0)), (1, .ref (ad 0)), (0, .ref b)]) (tail : ∀ (H : Heap) (locs : List Loc), va_S (fun q : Nat => s.heap.size ≤ q) s.heap H locs → W p l e room_1 s m #[Value.ref b] below meth c H locs 100 12380 Q (F0 m 1081 ls [])) : W p l e room_1 s m #[Value.ref b] below meth c H locs 100 12380 Q (F0 m 243 ls []) := by
  have hx := C.1
  have hb := C.2.1
  have hbA : ¬ (fun q : Nat => s.heap.size ≤ q) b := Nat.not_le.mpr hbl
  have hX1 := hXr 1
  have hX2 := hXr 2
  have hX3 := hXr 3
  have hX4 := hXr 4
  have hX5 := hXr 5
  have hX6 := hXr 6
  refine lv_aload_n hx hb dL_law_243 rfl (lv_at hl 2 rfl) ?_
  refine lv_aload_n hx hb dL_law_244 rfl (lv_at hl 3 rfl) ?_
  refine lv_iload_n hx hb dL_law_245 rfl (lv_at hl 0 rfl) ?_
  refine lv_iconst (v := iI 1) hx hb dL_law_246 rfl ?_
  refine gi_add (z := 1) hx hb dL_law_247 (by decide) ?_
  refine g_sld (i := 1) C hX hbl hbA hS (by decide) (by decide) rfl dL_law_248 ?_
  refine g_cv (As := [.int (iI (X 1))]) (rest := []) (n := 1) C hml (c_X10_fault l D k Ax ad hDx rv0 gz gz (X 1) (by omega) rfl rfl rfl rfl rfl rfl rfl rfl rfl (fun _ => rfl)) mM_L_28 mI_X10_fault mE_X10_fault mN_X10 mC_X10_fault (by decide +kernel) 0 (ci := 10) rfl rfl hPx hS hAx ⟨Nat.le_of_ble_eq_true rfl, Nat.le_of_ble_eq_true rfl⟩ ⟨Nat.le_of_ble_eq_true rfl, Nat.le_of_ble_eq_true rfl⟩ hl.1 rfl rfl (Nat.le_of_ble_eq_true rfl) dL_law_249 (fun r_1 v_1 f_1 g_1 H1 locs hq_1 hP_1 hk_1 hS => ?_)
  obtain ⟨rfl, -⟩ := hq_1
  show W p l e room_1 s m #[Value.ref b] below meth c _ _ 100 12380 Q (F0 m 252 ls [.int (iI (-1))])
  have hPm := hkeep H1 hk_1
  refine lv_aload_n hx hb dL_law_252 rfl (lv_at hl 1 rfl) ?_
  refine lv_aload_n hx hb dL_law_253 rfl (lv_at hl 3 rfl) ?_
  refine lv_iload_n hx hb dL_law_254 rfl (lv_at hl 0 rfl) ?_
  refine lv_iconst (v := iI 1) hx hb dL_law_255 rfl ?_
  refine gi_add (z := 1) hx hb dL_law_256 (by decide) ?_
  refine g_sld (i := 1) C hX hbl hbA hS (by decide) (by decide) rfl dL_law_257 ?_
  refine g_cv (As := [.int (iI (X 1))]) (rest := [.int (iI (-1))]) (n := 1) C hml (m_fault l D k Am bd hDm mv0 gz gz (X 1) (by omega) rfl rfl rfl rfl rfl rfl rfl rfl rfl) mM_L_31 mI_X11_fault mE_X11_fault mN_X11 mC_X11_fault (by decide +kernel) 0 (ci := 11) rfl rfl hPm hS hAm ⟨Nat.le_of_ble_eq_true rfl, Nat.le_of_ble_eq_true rfl⟩ ⟨Nat.le_of_ble_eq_true rfl, Nat.le_of_ble_eq_true rfl⟩ hl.1 rfl rfl (Nat.le_of_ble_eq_true rfl) dL_law_258 (fun r_2 v_2 f_2 g_2 H1 locs hq_2 hP_2 hk_2 hS => ?_)
  obtain ⟨rfl, -⟩ := hq_2
  show W p l e room_1 s m #[Value.ref b] below meth c _ _ 100 12380 Q (F0 m 261 ls [.int (iI (-1)), .int (iI (-1))])
  refine gi_ceq (tgt := 1081) hx hb dL_law_261 (by decide) (by decide) (by decide) (fun c_3 => ?_) (fun c_3 => ?_)
  · exact tail _ _ hS
  · exact absurd rfl c_3
set_option maxHeartbeats 4000000 in
set_option maxRecDepth 100000 in
theorem law_case_4 (C : gC D k p s m #[Value.ref b] c code R_law) (hml : c.maxLocals = 4) (hX : va_X b 7 (fun j => iI (X j)) s s.heap) (hXr : ∀ j, inR (X j)) (hbl : b < s.heap.size) (hPx : gWd D (rwW k ad) rv0 gz gz H) (hDx : rwD Ax k ad) (hDm : mdD Am k bd) (hAx : ∀ q : Nat, Ax q → s.heap.size ≤ q) (hAm : ∀ q : Nat, Am q → s.heap.size ≤ q) (hkeep : ∀ H1 : Heap, (∀ q : Nat, q < H.size → ¬ Ax q → H1[q]? = H[q]?) → gWd D (mdW k bd) mv0 gz gz H1) (hS : va_S (fun q : Nat => s.heap.size ≤ q) s.heap H locs) (hl : lv_has ls 4 [(3, .int (iI 0)), (2, .ref (bd 0)), (1, .ref (ad 0)), (0, .ref b)]) (tail : ∀ (H : Heap) (locs : List Loc), va_S (fun q : Nat => s.heap.size ≤ q) s.heap H locs → W p l e room_1 s m #[Value.ref b] below meth c H locs 100 12380 Q (F0 m 1081 ls [])) : W p l e room_1 s m #[Value.ref b] below meth c H locs 100 12380 Q (F0 m 266 ls []) := by
  have hx := C.1
  have hb := C.2.1
  have hbA : ¬ (fun q : Nat => s.heap.size ≤ q) b := Nat.not_le.mpr hbl
  have hX1 := hXr 1
  have hX2 := hXr 2
  have hX3 := hXr 3
  have hX4 := hXr 4
  have hX5 := hXr 5
  have hX6 := hXr 6
  refine lv_aload_n hx hb dL_law_266 rfl (lv_at hl 2 rfl) ?_
  refine g_cv (As := []) (rest := []) (n := 0) C hml (c_X10_climber l D k Ax ad hDx rv0 gz gz   rfl rfl rfl rfl rfl rfl rfl rfl rfl (fun _ => rfl)) mM_L_32 mI_X10_climber mE_X10_climber mN_X10 mC_X10_climber (by decide +kernel) 0 (ci := 10) rfl rfl hPx hS hAx ⟨Nat.le_of_ble_eq_true rfl, Nat.le_of_ble_eq_true rfl⟩ ⟨Nat.le_of_ble_eq_true rfl, Nat.le_of_ble_eq_true rfl⟩ hl.1 rfl rfl (Nat.le_of_ble_eq_true rfl) dL_law_267 (fun r_1 v_1 f_1 g_1 H1 locs hq_1 hP_1 hk_1 hS => ?_)
  obtain ⟨rfl, -⟩ := hq_1
  show W p l e room_1 s m #[Value.ref b] below meth c _ _ 100 12380 Q (F0 m 270 ls [.int (iI (-1))])
  have hPm := hkeep H1 hk_1
  refine lv_aload_n hx hb dL_law_270 rfl (lv_at hl 1 rfl) ?_
  refine g_cv (As := []) (rest := [.int (iI (-1))]) (n := 0) C hml (m_climber l D k Am bd hDm mv0 gz gz   rfl rfl rfl rfl rfl rfl rfl rfl rfl) mM_L_35 mI_X11_climber mE_X11_climber mN_X11 mC_X11_climber (by decide +kernel) 0 (ci := 11) rfl rfl hPm hS hAm ⟨Nat.le_of_ble_eq_true rfl, Nat.le_of_ble_eq_true rfl⟩ ⟨Nat.le_of_ble_eq_true rfl, Nat.le_of_ble_eq_true rfl⟩ hl.1 rfl rfl (Nat.le_of_ble_eq_true rfl) dL_law_271 (fun r_2 v_2 f_2 g_2 H1 locs hq_2 hP_2 hk_2 hS => ?_)
  obtain ⟨rfl, -⟩ := hq_2
  show W p l e room_1 s m #[Value.ref b] below meth c _ _ 100 12380 Q (F0 m 274 ls [.int (iI (-1)), .int (iI (-1))])
  refine gi_ceq (tgt := 1081) hx hb dL_law_274 (by decide) (by decide) (by decide) (fun c_3 => ?_) (fun c_3 => ?_)
  · exact tail _ _ hS
  · exact absurd rfl c_3
set_option maxHeartbeats 4000000 in
set_option maxRecDepth 100000 in
theorem law_case_5 (C : gC D k p s m #[Value.ref b] c code R_law) (hml : c.maxLocals = 4) (hX : va_X b 7 (fun j => iI (X j)) s s.heap) (hXr : ∀ j, inR (X j)) (hbl : b < s.heap.size) (hPx : gWd D (rwW k ad) rv0 gz gz H) (hDx : rwD Ax k ad) (hDm : mdD Am k bd) (hAx : ∀ q : Nat, Ax q → s.heap.size ≤ q) (hAm : ∀ q : Nat, Am q → s.heap.size ≤ q) (hkeep : ∀ H1 : Heap, (∀ q : Nat, q < H.size → ¬ Ax q → H1[q]? = H[q]?) → gWd D (mdW k bd) mv0 gz gz H1) (hS : va_S (fun q : Nat => s.heap.size ≤ q) s.heap H locs) (hl : lv_has ls 4 [(3, .int (iI 0)), (2, .ref (bd 0)), (1, .ref (ad 0)), (0, .ref b)]) (tail : ∀ (H : Heap) (locs : List Loc), va_S (fun q : Nat => s.heap.size ≤ q) s.heap H locs → W p l e room_1 s m #[Value.ref b] below meth c H locs 100 12380 Q (F0 m 1081 ls [])) : W p l e room_1 s m #[Value.ref b] below meth c H locs 100 12380 Q (F0 m 279 ls []) := by
  have hx := C.1
  have hb := C.2.1
  have hbA : ¬ (fun q : Nat => s.heap.size ≤ q) b := Nat.not_le.mpr hbl
  have hX1 := hXr 1
  have hX2 := hXr 2
  have hX3 := hXr 3
  have hX4 := hXr 4
  have hX5 := hXr 5
  have hX6 := hXr 6
  refine lv_aload_n hx hb dL_law_279 rfl (lv_at hl 2 rfl) ?_
  refine lv_aload_n hx hb dL_law_280 rfl (lv_at hl 3 rfl) ?_
  refine lv_iload_n hx hb dL_law_281 rfl (lv_at hl 0 rfl) ?_
  refine lv_iconst (v := iI 1) hx hb dL_law_282 rfl ?_
  refine gi_add (z := 1) hx hb dL_law_283 (by decide) ?_
  refine g_sld (i := 1) C hX hbl hbA hS (by decide) (by decide) rfl dL_law_284 ?_
  refine lv_aload_n hx hb dL_law_285 rfl (lv_at hl 3 rfl) ?_
  refine lv_iload_n hx hb dL_law_286 rfl (lv_at hl 0 rfl) ?_
  refine lv_iconst (v := iI 2) hx hb dL_law_287 rfl ?_
  refine gi_add (z := 2) hx hb dL_law_288 (by decide) ?_
  refine g_sld (i := 2) C hX hbl hbA hS (by decide) (by decide) rfl dL_law_289 ?_
  refine lv_aload_n hx hb dL_law_290 rfl (lv_at hl 3 rfl) ?_
  refine lv_iload_n hx hb dL_law_291 rfl (lv_at hl 0 rfl) ?_
  refine lv_iconst (v := iI 3) hx hb dL_law_292 rfl ?_
  refine gi_add (z := 3) hx hb dL_law_293 (by decide) ?_
  refine g_sld (i := 3) C hX hbl hbA hS (by decide) (by decide) rfl dL_law_294 ?_
  refine lv_aload_n hx hb dL_law_295 rfl (lv_at hl 3 rfl) ?_
  refine lv_iload_n hx hb dL_law_296 rfl (lv_at hl 0 rfl) ?_
  refine lv_iconst (v := iI 4) hx hb dL_law_297 rfl ?_
  refine gi_add (z := 4) hx hb dL_law_298 (by decide) ?_
  refine g_sld (i := 4) C hX hbl hbA hS (by decide) (by decide) rfl dL_law_299 ?_
  refine lv_aload_n hx hb dL_law_300 rfl (lv_at hl 3 rfl) ?_
  refine lv_iload_n hx hb dL_law_301 rfl (lv_at hl 0 rfl) ?_
  refine lv_iconst (v := iI 5) hx hb dL_law_302 rfl ?_
  refine gi_add (z := 5) hx hb dL_law_303 (by decide) ?_
  refine g_sld (i := 5) C hX hbl hbA hS (by decide) (by decide) rfl dL_law_304 ?_
  refine lv_aload_n hx hb dL_law_305 rfl (lv_at hl 3 rfl) ?_
  refine lv_iload_n hx hb dL_law_306 rfl (lv_at hl 0 rfl) ?_
  refine lv_bipush (v := iI 6) hx hb dL_law_307 (by decide) ?_
  refine gi_add (z := 6) hx hb dL_law_309 (by decide) ?_
  refine g_sld (i := 6) C hX hbl hbA hS (by decide) (by decide) rfl dL_law_310 ?_
  refine g_cv (As := [.int (iI (X 1)), .int (iI (X 2)), .int (iI (X 3)), .int (iI (X 4)), .int (iI (X 5)), .int (iI (X 6))]) (rest := []) (n := 6) C hml (c_X10_route l D k Ax ad hDx rv0 gz gz (X 1) (X 2) (X 3) (X 4) (X 5) (X 6) (by omega) (by omega) (by omega) (by omega) (by omega) (by omega) rfl rfl rfl rfl rfl rfl rfl rfl rfl (fun _ => rfl)) mM_L_36 mI_X10_route mE_X10_route mN_X10 mC_X10_route (by decide +kernel) 0 (ci := 10) rfl rfl hPx hS hAx ⟨Nat.le_of_ble_eq_true rfl, Nat.le_of_ble_eq_true rfl⟩ ⟨Nat.le_of_ble_eq_true rfl, Nat.le_of_ble_eq_true rfl⟩ hl.1 rfl rfl (Nat.le_of_ble_eq_true rfl) dL_law_311 (fun r_1 v_1 f_1 g_1 H1 locs hq_1 hP_1 hk_1 hS => ?_)
  obtain ⟨rfl, -⟩ := hq_1
  show W p l e room_1 s m #[Value.ref b] below meth c _ _ 100 12380 Q (F0 m 314 ls [.int (iI 0)])
  have hPm := hkeep H1 hk_1
  refine lv_aload_n hx hb dL_law_314 rfl (lv_at hl 1 rfl) ?_
  refine lv_aload_n hx hb dL_law_315 rfl (lv_at hl 3 rfl) ?_
  refine lv_iload_n hx hb dL_law_316 rfl (lv_at hl 0 rfl) ?_
  refine lv_iconst (v := iI 1) hx hb dL_law_317 rfl ?_
  refine gi_add (z := 1) hx hb dL_law_318 (by decide) ?_
  refine g_sld (i := 1) C hX hbl hbA hS (by decide) (by decide) rfl dL_law_319 ?_
  refine lv_aload_n hx hb dL_law_320 rfl (lv_at hl 3 rfl) ?_
  refine lv_iload_n hx hb dL_law_321 rfl (lv_at hl 0 rfl) ?_
  refine lv_iconst (v := iI 2) hx hb dL_law_322 rfl ?_
  refine gi_add (z := 2) hx hb dL_law_323 (by decide) ?_
  refine g_sld (i := 2) C hX hbl hbA hS (by decide) (by decide) rfl dL_law_324 ?_
  refine lv_aload_n hx hb dL_law_325 rfl (lv_at hl 3 rfl) ?_
  refine lv_iload_n hx hb dL_law_326 rfl (lv_at hl 0 rfl) ?_
  refine lv_iconst (v := iI 3) hx hb dL_law_327 rfl ?_
  refine gi_add (z := 3) hx hb dL_law_328 (by decide) ?_
  refine g_sld (i := 3) C hX hbl hbA hS (by decide) (by decide) rfl dL_law_329 ?_
  refine lv_aload_n hx hb dL_law_330 rfl (lv_at hl 3 rfl) ?_
  refine lv_iload_n hx hb dL_law_331 rfl (lv_at hl 0 rfl) ?_
  refine lv_iconst (v := iI 4) hx hb dL_law_332 rfl ?_
  refine gi_add (z := 4) hx hb dL_law_333 (by decide) ?_
  refine g_sld (i := 4) C hX hbl hbA hS (by decide) (by decide) rfl dL_law_334 ?_
  refine lv_aload_n hx hb dL_law_335 rfl (lv_at hl 3 rfl) ?_
  refine lv_iload_n hx hb dL_law_336 rfl (lv_at hl 0 rfl) ?_
  refine lv_iconst (v := iI 5) hx hb dL_law_337 rfl ?_
  refine gi_add (z := 5) hx hb dL_law_338 (by decide) ?_
  refine g_sld (i := 5) C hX hbl hbA hS (by decide) (by decide) rfl dL_law_339 ?_
  refine lv_aload_n hx hb dL_law_340 rfl (lv_at hl 3 rfl) ?_
  refine lv_iload_n hx hb dL_law_341 rfl (lv_at hl 0 rfl) ?_
  refine lv_bipush (v := iI 6) hx hb dL_law_342 (by decide) ?_
  refine gi_add (z := 6) hx hb dL_law_344 (by decide) ?_
  refine g_sld (i := 6) C hX hbl hbA hS (by decide) (by decide) rfl dL_law_345 ?_
  refine g_cv (As := [.int (iI (X 1)), .int (iI (X 2)), .int (iI (X 3)), .int (iI (X 4)), .int (iI (X 5)), .int (iI (X 6))]) (rest := [.int (iI 0)]) (n := 6) C hml (m_route l D k Am bd hDm mv0 gz gz (X 1) (X 2) (X 3) (X 4) (X 5) (X 6) (by omega) (by omega) (by omega) (by omega) (by omega) (by omega) rfl rfl rfl rfl rfl rfl rfl rfl rfl) mM_L_40 mI_X11_route mE_X11_route mN_X11 mC_X11_route (by decide +kernel) 0 (ci := 11) rfl rfl hPm hS hAm ⟨Nat.le_of_ble_eq_true rfl, Nat.le_of_ble_eq_true rfl⟩ ⟨Nat.le_of_ble_eq_true rfl, Nat.le_of_ble_eq_true rfl⟩ hl.1 rfl rfl (Nat.le_of_ble_eq_true rfl) dL_law_346 (fun r_2 v_2 f_2 g_2 H1 locs hq_2 hP_2 hk_2 hS => ?_)
  obtain ⟨rfl, -⟩ := hq_2
  show W p l e room_1 s m #[Value.ref b] below meth c _ _ 100 12380 Q (F0 m 349 ls [.int (iI 0), .int (iI 0)])
  refine gi_ceq (tgt := 1081) hx hb dL_law_349 (by decide) (by decide) (by decide) (fun c_3 => ?_) (fun c_3 => ?_)
  · exact tail _ _ hS
  · exact absurd rfl c_3
set_option maxHeartbeats 4000000 in
set_option maxRecDepth 100000 in
theorem law_case_6 (C : gC D k p s m #[Value.ref b] c code R_law) (hml : c.maxLocals = 4) (hX : va_X b 7 (fun j => iI (X j)) s s.heap) (hXr : ∀ j, inR (X j)) (hbl : b < s.heap.size) (hPx : gWd D (rwW k ad) rv0 gz gz H) (hDx : rwD Ax k ad) (hDm : mdD Am k bd) (hAx : ∀ q : Nat, Ax q → s.heap.size ≤ q) (hAm : ∀ q : Nat, Am q → s.heap.size ≤ q) (hkeep : ∀ H1 : Heap, (∀ q : Nat, q < H.size → ¬ Ax q → H1[q]? = H[q]?) → gWd D (mdW k bd) mv0 gz gz H1) (hS : va_S (fun q : Nat => s.heap.size ≤ q) s.heap H locs) (hl : lv_has ls 4 [(3, .int (iI 0)), (2, .ref (bd 0)), (1, .ref (ad 0)), (0, .ref b)]) (tail : ∀ (H : Heap) (locs : List Loc), va_S (fun q : Nat => s.heap.size ≤ q) s.heap H locs → W p l e room_1 s m #[Value.ref b] below meth c H locs 100 12380 Q (F0 m 1081 ls [])) : W p l e room_1 s m #[Value.ref b] below meth c H locs 100 12380 Q (F0 m 354 ls []) := by
  have hx := C.1
  have hb := C.2.1
  have hbA : ¬ (fun q : Nat => s.heap.size ≤ q) b := Nat.not_le.mpr hbl
  have hX1 := hXr 1
  have hX2 := hXr 2
  have hX3 := hXr 3
  have hX4 := hXr 4
  have hX5 := hXr 5
  have hX6 := hXr 6
  refine lv_aload_n hx hb dL_law_354 rfl (lv_at hl 2 rfl) ?_
  refine lv_aload_n hx hb dL_law_355 rfl (lv_at hl 3 rfl) ?_
  refine lv_iload_n hx hb dL_law_356 rfl (lv_at hl 0 rfl) ?_
  refine lv_iconst (v := iI 1) hx hb dL_law_357 rfl ?_
  refine gi_add (z := 1) hx hb dL_law_358 (by decide) ?_
  refine g_sld (i := 1) C hX hbl hbA hS (by decide) (by decide) rfl dL_law_359 ?_
  refine lv_aload_n hx hb dL_law_360 rfl (lv_at hl 3 rfl) ?_
  refine lv_iload_n hx hb dL_law_361 rfl (lv_at hl 0 rfl) ?_
  refine lv_iconst (v := iI 2) hx hb dL_law_362 rfl ?_
  refine gi_add (z := 2) hx hb dL_law_363 (by decide) ?_
  refine g_sld (i := 2) C hX hbl hbA hS (by decide) (by decide) rfl dL_law_364 ?_
  refine lv_aload_n hx hb dL_law_365 rfl (lv_at hl 3 rfl) ?_
  refine lv_iload_n hx hb dL_law_366 rfl (lv_at hl 0 rfl) ?_
  refine lv_iconst (v := iI 3) hx hb dL_law_367 rfl ?_
  refine gi_add (z := 3) hx hb dL_law_368 (by decide) ?_
  refine g_sld (i := 3) C hX hbl hbA hS (by decide) (by decide) rfl dL_law_369 ?_
  refine g_cv (As := [.int (iI (X 1)), .int (iI (X 2)), .int (iI (X 3))]) (rest := []) (n := 3) C hml (c_X10_told l D k Ax ad hDx rv0 gz gz (X 1) (X 2) (X 3) (by omega) (by omega) (by omega) rfl rfl rfl rfl rfl rfl rfl rfl rfl (fun _ => rfl)) mM_L_41 mI_X10_told mE_X10_told mN_X10 mC_X10_told (by decide +kernel) 0 (ci := 10) rfl rfl hPx hS hAx ⟨Nat.le_of_ble_eq_true rfl, Nat.le_of_ble_eq_true rfl⟩ ⟨Nat.le_of_ble_eq_true rfl, Nat.le_of_ble_eq_true rfl⟩ hl.1 rfl rfl (Nat.le_of_ble_eq_true rfl) dL_law_370 (fun r_1 v_1 f_1 g_1 H1 locs hq_1 hP_1 hk_1 hS => ?_)
  obtain ⟨rfl, -⟩ := hq_1
  show W p l e room_1 s m #[Value.ref b] below meth c _ _ 100 12380 Q (F0 m 373 ls [.int (iI (-1))])
  have hPm := hkeep H1 hk_1
  refine lv_aload_n hx hb dL_law_373 rfl (lv_at hl 1 rfl) ?_
  refine lv_aload_n hx hb dL_law_374 rfl (lv_at hl 3 rfl) ?_
  refine lv_iload_n hx hb dL_law_375 rfl (lv_at hl 0 rfl) ?_
  refine lv_iconst (v := iI 1) hx hb dL_law_376 rfl ?_
  refine gi_add (z := 1) hx hb dL_law_377 (by decide) ?_
  refine g_sld (i := 1) C hX hbl hbA hS (by decide) (by decide) rfl dL_law_378 ?_
  refine lv_aload_n hx hb dL_law_379 rfl (lv_at hl 3 rfl) ?_
  refine lv_iload_n hx hb dL_law_380 rfl (lv_at hl 0 rfl) ?_
  refine lv_iconst (v := iI 2) hx hb dL_law_381 rfl ?_
  refine gi_add (z := 2) hx hb dL_law_382 (by decide) ?_
  refine g_sld (i := 2) C hX hbl hbA hS (by decide) (by decide) rfl dL_law_383 ?_
  refine lv_aload_n hx hb dL_law_384 rfl (lv_at hl 3 rfl) ?_
  refine lv_iload_n hx hb dL_law_385 rfl (lv_at hl 0 rfl) ?_
  refine lv_iconst (v := iI 3) hx hb dL_law_386 rfl ?_
  refine gi_add (z := 3) hx hb dL_law_387 (by decide) ?_
  refine g_sld (i := 3) C hX hbl hbA hS (by decide) (by decide) rfl dL_law_388 ?_
  refine g_cv (As := [.int (iI (X 1)), .int (iI (X 2)), .int (iI (X 3))]) (rest := [.int (iI (-1))]) (n := 3) C hml (m_told l D k Am bd hDm mv0 gz gz (X 1) (X 2) (X 3) (by omega) (by omega) (by omega) rfl rfl rfl rfl rfl rfl rfl rfl rfl) mM_L_45 mI_X11_told mE_X11_told mN_X11 mC_X11_told (by decide +kernel) 0 (ci := 11) rfl rfl hPm hS hAm ⟨Nat.le_of_ble_eq_true rfl, Nat.le_of_ble_eq_true rfl⟩ ⟨Nat.le_of_ble_eq_true rfl, Nat.le_of_ble_eq_true rfl⟩ hl.1 rfl rfl (Nat.le_of_ble_eq_true rfl) dL_law_389 (fun r_2 v_2 f_2 g_2 H1 locs hq_2 hP_2 hk_2 hS => ?_)
  obtain ⟨rfl, -⟩ := hq_2
  show W p l e room_1 s m #[Value.ref b] below meth c _ _ 100 12380 Q (F0 m 392 ls [.int (iI (-1)), .int (iI (-1))])
  refine gi_ceq (tgt := 1081) hx hb dL_law_392 (by decide) (by decide) (by decide) (fun c_3 => ?_) (fun c_3 => ?_)
  · exact tail _ _ hS
  · exact absurd rfl c_3
set_option maxHeartbeats 4000000 in
set_option maxRecDepth 100000 in
theorem law_case_7 (C : gC D k p s m #[Value.ref b] c code R_law) (hml : c.maxLocals = 4) (hX : va_X b 7 (fun j => iI (X j)) s s.heap) (hXr : ∀ j, inR (X j)) (hbl : b < s.heap.size) (hPx : gWd D (rwW k ad) rv0 gz gz H) (hDx : rwD Ax k ad) (hDm : mdD Am k bd) (hAx : ∀ q : Nat, Ax q → s.heap.size ≤ q) (hAm : ∀ q : Nat, Am q → s.heap.size ≤ q) (hkeep : ∀ H1 : Heap, (∀ q : Nat, q < H.size → ¬ Ax q → H1[q]? = H[q]?) → gWd D (mdW k bd) mv0 gz gz H1) (hS : va_S (fun q : Nat => s.heap.size ≤ q) s.heap H locs) (hl : lv_has ls 4 [(3, .int (iI 0)), (2, .ref (bd 0)), (1, .ref (ad 0)), (0, .ref b)]) (tail : ∀ (H : Heap) (locs : List Loc), va_S (fun q : Nat => s.heap.size ≤ q) s.heap H locs → W p l e room_1 s m #[Value.ref b] below meth c H locs 100 12380 Q (F0 m 1081 ls [])) : W p l e room_1 s m #[Value.ref b] below meth c H locs 100 12380 Q (F0 m 397 ls []) := by
  have hx := C.1
  have hb := C.2.1
  have hbA : ¬ (fun q : Nat => s.heap.size ≤ q) b := Nat.not_le.mpr hbl
  have hX1 := hXr 1
  have hX2 := hXr 2
  have hX3 := hXr 3
  have hX4 := hXr 4
  have hX5 := hXr 5
  have hX6 := hXr 6
  refine lv_aload_n hx hb dL_law_397 rfl (lv_at hl 2 rfl) ?_
  refine lv_aload_n hx hb dL_law_398 rfl (lv_at hl 3 rfl) ?_
  refine lv_iload_n hx hb dL_law_399 rfl (lv_at hl 0 rfl) ?_
  refine lv_iconst (v := iI 1) hx hb dL_law_400 rfl ?_
  refine gi_add (z := 1) hx hb dL_law_401 (by decide) ?_
  refine g_sld (i := 1) C hX hbl hbA hS (by decide) (by decide) rfl dL_law_402 ?_
  refine lv_aload_n hx hb dL_law_403 rfl (lv_at hl 3 rfl) ?_
  refine lv_iload_n hx hb dL_law_404 rfl (lv_at hl 0 rfl) ?_
  refine lv_iconst (v := iI 2) hx hb dL_law_405 rfl ?_
  refine gi_add (z := 2) hx hb dL_law_406 (by decide) ?_
  refine g_sld (i := 2) C hX hbl hbA hS (by decide) (by decide) rfl dL_law_407 ?_
  refine lv_aload_n hx hb dL_law_408 rfl (lv_at hl 3 rfl) ?_
  refine lv_iload_n hx hb dL_law_409 rfl (lv_at hl 0 rfl) ?_
  refine lv_iconst (v := iI 3) hx hb dL_law_410 rfl ?_
  refine gi_add (z := 3) hx hb dL_law_411 (by decide) ?_
  refine g_sld (i := 3) C hX hbl hbA hS (by decide) (by decide) rfl dL_law_412 ?_
  refine g_cv (As := [.int (iI (X 1)), .int (iI (X 2)), .int (iI (X 3))]) (rest := []) (n := 3) C hml (c_X10_begin l D k Ax ad hDx rv0 gz gz (X 1) (X 2) (X 3) (by omega) (by omega) (by omega) rfl rfl rfl rfl rfl rfl rfl rfl rfl (fun _ => rfl)) mM_L_46 mI_X10_begin mE_X10_begin mN_X10 mC_X10_begin (by decide +kernel) 0 (ci := 10) rfl rfl hPx hS hAx ⟨Nat.le_of_ble_eq_true rfl, Nat.le_of_ble_eq_true rfl⟩ ⟨Nat.le_of_ble_eq_true rfl, Nat.le_of_ble_eq_true rfl⟩ hl.1 rfl rfl (Nat.le_of_ble_eq_true rfl) dL_law_413 (fun r_1 v_1 f_1 g_1 H1 locs hq_1 hP_1 hk_1 hS => ?_)
  obtain ⟨rfl, -⟩ := hq_1
  show W p l e room_1 s m #[Value.ref b] below meth c _ _ 100 12380 Q (F0 m 416 ls [.int (iI (-1))])
  have hPm := hkeep H1 hk_1
  refine lv_aload_n hx hb dL_law_416 rfl (lv_at hl 1 rfl) ?_
  refine lv_aload_n hx hb dL_law_417 rfl (lv_at hl 3 rfl) ?_
  refine lv_iload_n hx hb dL_law_418 rfl (lv_at hl 0 rfl) ?_
  refine lv_iconst (v := iI 1) hx hb dL_law_419 rfl ?_
  refine gi_add (z := 1) hx hb dL_law_420 (by decide) ?_
  refine g_sld (i := 1) C hX hbl hbA hS (by decide) (by decide) rfl dL_law_421 ?_
  refine lv_aload_n hx hb dL_law_422 rfl (lv_at hl 3 rfl) ?_
  refine lv_iload_n hx hb dL_law_423 rfl (lv_at hl 0 rfl) ?_
  refine lv_iconst (v := iI 2) hx hb dL_law_424 rfl ?_
  refine gi_add (z := 2) hx hb dL_law_425 (by decide) ?_
  refine g_sld (i := 2) C hX hbl hbA hS (by decide) (by decide) rfl dL_law_426 ?_
  refine lv_aload_n hx hb dL_law_427 rfl (lv_at hl 3 rfl) ?_
  refine lv_iload_n hx hb dL_law_428 rfl (lv_at hl 0 rfl) ?_
  refine lv_iconst (v := iI 3) hx hb dL_law_429 rfl ?_
  refine gi_add (z := 3) hx hb dL_law_430 (by decide) ?_
  refine g_sld (i := 3) C hX hbl hbA hS (by decide) (by decide) rfl dL_law_431 ?_
  refine g_cv (As := [.int (iI (X 1)), .int (iI (X 2)), .int (iI (X 3))]) (rest := [.int (iI (-1))]) (n := 3) C hml (m_begin l D k Am bd hDm mv0 gz gz (X 1) (X 2) (X 3) (by omega) (by omega) (by omega) rfl rfl rfl rfl rfl rfl rfl rfl rfl) mM_L_49 mI_X11_begin mE_X11_begin mN_X11 mC_X11_begin (by decide +kernel) 0 (ci := 11) rfl rfl hPm hS hAm ⟨Nat.le_of_ble_eq_true rfl, Nat.le_of_ble_eq_true rfl⟩ ⟨Nat.le_of_ble_eq_true rfl, Nat.le_of_ble_eq_true rfl⟩ hl.1 rfl rfl (Nat.le_of_ble_eq_true rfl) dL_law_432 (fun r_2 v_2 f_2 g_2 H1 locs hq_2 hP_2 hk_2 hS => ?_)
  obtain ⟨rfl, -⟩ := hq_2
  show W p l e room_1 s m #[Value.ref b] below meth c _ _ 100 12380 Q (F0 m 435 ls [.int (iI (-1)), .int (iI (-1))])
  refine gi_ceq (tgt := 1081) hx hb dL_law_435 (by decide) (by decide) (by decide) (fun c_3 => ?_) (fun c_3 => ?_)
  · exact tail _ _ hS
  · exact absurd rfl c_3
set_option maxHeartbeats 4000000 in
set_option maxRecDepth 100000 in
theorem law_case_8 (C : gC D k p s m #[Value.ref b] c code R_law) (hml : c.maxLocals = 4) (hX : va_X b 7 (fun j => iI (X j)) s s.heap) (hXr : ∀ j, inR (X j)) (hbl : b < s.heap.size) (hPx : gWd D (rwW k ad) rv0 gz gz H) (hDx : rwD Ax k ad) (hDm : mdD Am k bd) (hAx : ∀ q : Nat, Ax q → s.heap.size ≤ q) (hAm : ∀ q : Nat, Am q → s.heap.size ≤ q) (hkeep : ∀ H1 : Heap, (∀ q : Nat, q < H.size → ¬ Ax q → H1[q]? = H[q]?) → gWd D (mdW k bd) mv0 gz gz H1) (hS : va_S (fun q : Nat => s.heap.size ≤ q) s.heap H locs) (hl : lv_has ls 4 [(3, .int (iI 0)), (2, .ref (bd 0)), (1, .ref (ad 0)), (0, .ref b)]) (tail : ∀ (H : Heap) (locs : List Loc), va_S (fun q : Nat => s.heap.size ≤ q) s.heap H locs → W p l e room_1 s m #[Value.ref b] below meth c H locs 100 12380 Q (F0 m 1081 ls [])) : W p l e room_1 s m #[Value.ref b] below meth c H locs 100 12380 Q (F0 m 440 ls []) := by
  have hx := C.1
  have hb := C.2.1
  have hbA : ¬ (fun q : Nat => s.heap.size ≤ q) b := Nat.not_le.mpr hbl
  have hX1 := hXr 1
  have hX2 := hXr 2
  have hX3 := hXr 3
  have hX4 := hXr 4
  have hX5 := hXr 5
  have hX6 := hXr 6
  refine lv_aload_n hx hb dL_law_440 rfl (lv_at hl 2 rfl) ?_
  refine lv_aload_n hx hb dL_law_441 rfl (lv_at hl 3 rfl) ?_
  refine lv_iload_n hx hb dL_law_442 rfl (lv_at hl 0 rfl) ?_
  refine lv_iconst (v := iI 1) hx hb dL_law_443 rfl ?_
  refine gi_add (z := 1) hx hb dL_law_444 (by decide) ?_
  refine g_sld (i := 1) C hX hbl hbA hS (by decide) (by decide) rfl dL_law_445 ?_
  refine lv_aload_n hx hb dL_law_446 rfl (lv_at hl 3 rfl) ?_
  refine lv_iload_n hx hb dL_law_447 rfl (lv_at hl 0 rfl) ?_
  refine lv_iconst (v := iI 2) hx hb dL_law_448 rfl ?_
  refine gi_add (z := 2) hx hb dL_law_449 (by decide) ?_
  refine g_sld (i := 2) C hX hbl hbA hS (by decide) (by decide) rfl dL_law_450 ?_
  refine lv_aload_n hx hb dL_law_451 rfl (lv_at hl 3 rfl) ?_
  refine lv_iload_n hx hb dL_law_452 rfl (lv_at hl 0 rfl) ?_
  refine lv_iconst (v := iI 3) hx hb dL_law_453 rfl ?_
  refine gi_add (z := 3) hx hb dL_law_454 (by decide) ?_
  refine g_sld (i := 3) C hX hbl hbA hS (by decide) (by decide) rfl dL_law_455 ?_
  refine g_cv (As := [.int (iI (X 1)), .int (iI (X 2)), .int (iI (X 3))]) (rest := []) (n := 3) C hml (c_X10_reach l D k Ax ad hDx rv0 gz gz (X 1) (X 2) (X 3) (by omega) (by omega) (by omega) rfl rfl rfl rfl rfl rfl rfl rfl rfl (fun _ => rfl)) mM_L_50 mI_X10_reach mE_X10_reach mN_X10 mC_X10_reach (by decide +kernel) 0 (ci := 10) rfl rfl hPx hS hAx ⟨Nat.le_of_ble_eq_true rfl, Nat.le_of_ble_eq_true rfl⟩ ⟨Nat.le_of_ble_eq_true rfl, Nat.le_of_ble_eq_true rfl⟩ hl.1 rfl rfl (Nat.le_of_ble_eq_true rfl) dL_law_456 (fun r_1 v_1 f_1 g_1 H1 locs hq_1 hP_1 hk_1 hS => ?_)
  obtain ⟨rfl, -⟩ := hq_1
  show W p l e room_1 s m #[Value.ref b] below meth c _ _ 100 12380 Q (F0 m 459 ls [.int (iI (-1))])
  have hPm := hkeep H1 hk_1
  refine lv_aload_n hx hb dL_law_459 rfl (lv_at hl 1 rfl) ?_
  refine lv_aload_n hx hb dL_law_460 rfl (lv_at hl 3 rfl) ?_
  refine lv_iload_n hx hb dL_law_461 rfl (lv_at hl 0 rfl) ?_
  refine lv_iconst (v := iI 1) hx hb dL_law_462 rfl ?_
  refine gi_add (z := 1) hx hb dL_law_463 (by decide) ?_
  refine g_sld (i := 1) C hX hbl hbA hS (by decide) (by decide) rfl dL_law_464 ?_
  refine lv_aload_n hx hb dL_law_465 rfl (lv_at hl 3 rfl) ?_
  refine lv_iload_n hx hb dL_law_466 rfl (lv_at hl 0 rfl) ?_
  refine lv_iconst (v := iI 2) hx hb dL_law_467 rfl ?_
  refine gi_add (z := 2) hx hb dL_law_468 (by decide) ?_
  refine g_sld (i := 2) C hX hbl hbA hS (by decide) (by decide) rfl dL_law_469 ?_
  refine lv_aload_n hx hb dL_law_470 rfl (lv_at hl 3 rfl) ?_
  refine lv_iload_n hx hb dL_law_471 rfl (lv_at hl 0 rfl) ?_
  refine lv_iconst (v := iI 3) hx hb dL_law_472 rfl ?_
  refine gi_add (z := 3) hx hb dL_law_473 (by decide) ?_
  refine g_sld (i := 3) C hX hbl hbA hS (by decide) (by decide) rfl dL_law_474 ?_
  refine g_cv (As := [.int (iI (X 1)), .int (iI (X 2)), .int (iI (X 3))]) (rest := [.int (iI (-1))]) (n := 3) C hml (m_reach l D k Am bd hDm mv0 gz gz (X 1) (X 2) (X 3) (by omega) (by omega) (by omega) rfl rfl rfl rfl rfl rfl rfl rfl rfl) mM_L_53 mI_X11_reach mE_X11_reach mN_X11 mC_X11_reach (by decide +kernel) 0 (ci := 11) rfl rfl hPm hS hAm ⟨Nat.le_of_ble_eq_true rfl, Nat.le_of_ble_eq_true rfl⟩ ⟨Nat.le_of_ble_eq_true rfl, Nat.le_of_ble_eq_true rfl⟩ hl.1 rfl rfl (Nat.le_of_ble_eq_true rfl) dL_law_475 (fun r_2 v_2 f_2 g_2 H1 locs hq_2 hP_2 hk_2 hS => ?_)
  obtain ⟨rfl, -⟩ := hq_2
  show W p l e room_1 s m #[Value.ref b] below meth c _ _ 100 12380 Q (F0 m 478 ls [.int (iI (-1)), .int (iI (-1))])
  refine gi_ceq (tgt := 1081) hx hb dL_law_478 (by decide) (by decide) (by decide) (fun c_3 => ?_) (fun c_3 => ?_)
  · exact tail _ _ hS
  · exact absurd rfl c_3
set_option maxHeartbeats 4000000 in
set_option maxRecDepth 100000 in
theorem law_case_9 (C : gC D k p s m #[Value.ref b] c code R_law) (hml : c.maxLocals = 4) (hX : va_X b 7 (fun j => iI (X j)) s s.heap) (hXr : ∀ j, inR (X j)) (hbl : b < s.heap.size) (hPx : gWd D (rwW k ad) rv0 gz gz H) (hDx : rwD Ax k ad) (hDm : mdD Am k bd) (hAx : ∀ q : Nat, Ax q → s.heap.size ≤ q) (hAm : ∀ q : Nat, Am q → s.heap.size ≤ q) (hkeep : ∀ H1 : Heap, (∀ q : Nat, q < H.size → ¬ Ax q → H1[q]? = H[q]?) → gWd D (mdW k bd) mv0 gz gz H1) (hS : va_S (fun q : Nat => s.heap.size ≤ q) s.heap H locs) (hl : lv_has ls 4 [(3, .int (iI 0)), (2, .ref (bd 0)), (1, .ref (ad 0)), (0, .ref b)]) (tail : ∀ (H : Heap) (locs : List Loc), va_S (fun q : Nat => s.heap.size ≤ q) s.heap H locs → W p l e room_1 s m #[Value.ref b] below meth c H locs 100 12380 Q (F0 m 1081 ls [])) : W p l e room_1 s m #[Value.ref b] below meth c H locs 100 12380 Q (F0 m 483 ls []) := by
  have hx := C.1
  have hb := C.2.1
  have hbA : ¬ (fun q : Nat => s.heap.size ≤ q) b := Nat.not_le.mpr hbl
  have hX1 := hXr 1
  have hX2 := hXr 2
  have hX3 := hXr 3
  have hX4 := hXr 4
  have hX5 := hXr 5
  have hX6 := hXr 6
  refine lv_aload_n hx hb dL_law_483 rfl (lv_at hl 2 rfl) ?_
  refine lv_aload_n hx hb dL_law_484 rfl (lv_at hl 3 rfl) ?_
  refine lv_iload_n hx hb dL_law_485 rfl (lv_at hl 0 rfl) ?_
  refine lv_iconst (v := iI 1) hx hb dL_law_486 rfl ?_
  refine gi_add (z := 1) hx hb dL_law_487 (by decide) ?_
  refine g_sld (i := 1) C hX hbl hbA hS (by decide) (by decide) rfl dL_law_488 ?_
  refine lv_aload_n hx hb dL_law_489 rfl (lv_at hl 3 rfl) ?_
  refine lv_iload_n hx hb dL_law_490 rfl (lv_at hl 0 rfl) ?_
  refine lv_iconst (v := iI 2) hx hb dL_law_491 rfl ?_
  refine gi_add (z := 2) hx hb dL_law_492 (by decide) ?_
  refine g_sld (i := 2) C hX hbl hbA hS (by decide) (by decide) rfl dL_law_493 ?_
  refine lv_aload_n hx hb dL_law_494 rfl (lv_at hl 3 rfl) ?_
  refine lv_iload_n hx hb dL_law_495 rfl (lv_at hl 0 rfl) ?_
  refine lv_iconst (v := iI 3) hx hb dL_law_496 rfl ?_
  refine gi_add (z := 3) hx hb dL_law_497 (by decide) ?_
  refine g_sld (i := 3) C hX hbl hbA hS (by decide) (by decide) rfl dL_law_498 ?_
  refine gi_zeq (tgt := 506) hx hb dL_law_499 (by decide) (by omega) (fun c_1 => ?_) (fun c_1 => ?_)
  · refine lv_iconst (v := iI 0) hx hb dL_law_506 rfl ?_
    refine g_cv (As := [.int (iI (X 1)), .int (iI (X 2)), .int (iI 0)]) (rest := []) (n := 3) C hml (c_X10_fall l D k Ax ad hDx rv0 gz gz (X 1) (X 2) 0 (by omega) (by omega) (by decide) rfl rfl rfl rfl rfl rfl rfl rfl rfl (fun _ => rfl)) mM_L_54 mI_X10_fall mE_X10_fall mN_X10 mC_X10_fall (by decide +kernel) 0 (ci := 10) rfl rfl hPx hS hAx ⟨Nat.le_of_ble_eq_true rfl, Nat.le_of_ble_eq_true rfl⟩ ⟨Nat.le_of_ble_eq_true rfl, Nat.le_of_ble_eq_true rfl⟩ hl.1 rfl rfl (Nat.le_of_ble_eq_true rfl) dL_law_507 (fun r_2 v_2 f_2 g_2 H1 locs hq_2 hP_2 hk_2 hS => ?_)
    obtain ⟨rfl, -⟩ := hq_2
    show W p l e room_1 s m #[Value.ref b] below meth c _ _ 100 12380 Q (F0 m 510 ls [.int (iI 0)])
    have hPm := hkeep H1 hk_2
    refine lv_aload_n hx hb dL_law_510 rfl (lv_at hl 1 rfl) ?_
    refine lv_aload_n hx hb dL_law_511 rfl (lv_at hl 3 rfl) ?_
    refine lv_iload_n hx hb dL_law_512 rfl (lv_at hl 0 rfl) ?_
    refine lv_iconst (v := iI 1) hx hb dL_law_513 rfl ?_
    refine gi_add (z := 1) hx hb dL_law_514 (by decide) ?_
    refine g_sld (i := 1) C hX hbl hbA hS (by decide) (by decide) rfl dL_law_515 ?_
    refine lv_aload_n hx hb dL_law_516 rfl (lv_at hl 3 rfl) ?_
    refine lv_iload_n hx hb dL_law_517 rfl (lv_at hl 0 rfl) ?_
    refine lv_iconst (v := iI 2) hx hb dL_law_518 rfl ?_
    refine gi_add (z := 2) hx hb dL_law_519 (by decide) ?_
    refine g_sld (i := 2) C hX hbl hbA hS (by decide) (by decide) rfl dL_law_520 ?_
    refine lv_aload_n hx hb dL_law_521 rfl (lv_at hl 3 rfl) ?_
    refine lv_iload_n hx hb dL_law_522 rfl (lv_at hl 0 rfl) ?_
    refine lv_iconst (v := iI 3) hx hb dL_law_523 rfl ?_
    refine gi_add (z := 3) hx hb dL_law_524 (by decide) ?_
    refine g_sld (i := 3) C hX hbl hbA hS (by decide) (by decide) rfl dL_law_525 ?_
    refine gi_zeq (tgt := 533) hx hb dL_law_526 (by decide) (by omega) (fun c_3 => ?_) (fun c_3 => ?_)
    · refine lv_iconst (v := iI 0) hx hb dL_law_533 rfl ?_
      refine g_cv (As := [.int (iI (X 1)), .int (iI (X 2)), .int (iI 0)]) (rest := [.int (iI 0)]) (n := 3) C hml (m_fall l D k Am bd hDm mv0 gz gz (X 1) (X 2) 0 (by omega) (by omega) (by decide) rfl rfl rfl rfl rfl rfl rfl rfl rfl) mM_L_58 mI_X11_fall mE_X11_fall mN_X11 mC_X11_fall (by decide +kernel) 0 (ci := 11) rfl rfl hPm hS hAm ⟨Nat.le_of_ble_eq_true rfl, Nat.le_of_ble_eq_true rfl⟩ ⟨Nat.le_of_ble_eq_true rfl, Nat.le_of_ble_eq_true rfl⟩ hl.1 rfl rfl (Nat.le_of_ble_eq_true rfl) dL_law_534 (fun r_4 v_4 f_4 g_4 H1 locs hq_4 hP_4 hk_4 hS => ?_)
      obtain ⟨rfl, -⟩ := hq_4
      show W p l e room_1 s m #[Value.ref b] below meth c _ _ 100 12380 Q (F0 m 537 ls [.int (iI 0), .int (iI 0)])
      refine gi_ceq (tgt := 1081) hx hb dL_law_537 (by decide) (by decide) (by decide) (fun c_5 => ?_) (fun c_5 => ?_)
      · exact tail _ _ hS
      · exact absurd rfl c_5
    · refine lv_iconst (v := iI 1) hx hb dL_law_529 rfl ?_
      refine lv_goto (tgt := 534) hx hb dL_law_530 (by decide) ?_
      refine g_cv (As := [.int (iI (X 1)), .int (iI (X 2)), .int (iI 1)]) (rest := [.int (iI 0)]) (n := 3) C hml (m_fall l D k Am bd hDm mv0 gz gz (X 1) (X 2) 1 (by omega) (by omega) (by decide) rfl rfl rfl rfl rfl rfl rfl rfl rfl) mM_L_58 mI_X11_fall mE_X11_fall mN_X11 mC_X11_fall (by decide +kernel) 0 (ci := 11) rfl rfl hPm hS hAm ⟨Nat.le_of_ble_eq_true rfl, Nat.le_of_ble_eq_true rfl⟩ ⟨Nat.le_of_ble_eq_true rfl, Nat.le_of_ble_eq_true rfl⟩ hl.1 rfl rfl (Nat.le_of_ble_eq_true rfl) dL_law_534 (fun r_6 v_6 f_6 g_6 H1 locs hq_6 hP_6 hk_6 hS => ?_)
      obtain ⟨rfl, -⟩ := hq_6
      show W p l e room_1 s m #[Value.ref b] below meth c _ _ 100 12380 Q (F0 m 537 ls [.int (iI 0), .int (iI 0)])
      refine gi_ceq (tgt := 1081) hx hb dL_law_537 (by decide) (by decide) (by decide) (fun c_7 => ?_) (fun c_7 => ?_)
      · exact tail _ _ hS
      · exact absurd rfl c_7
  · refine lv_iconst (v := iI 1) hx hb dL_law_502 rfl ?_
    refine lv_goto (tgt := 507) hx hb dL_law_503 (by decide) ?_
    refine g_cv (As := [.int (iI (X 1)), .int (iI (X 2)), .int (iI 1)]) (rest := []) (n := 3) C hml (c_X10_fall l D k Ax ad hDx rv0 gz gz (X 1) (X 2) 1 (by omega) (by omega) (by decide) rfl rfl rfl rfl rfl rfl rfl rfl rfl (fun _ => rfl)) mM_L_54 mI_X10_fall mE_X10_fall mN_X10 mC_X10_fall (by decide +kernel) 0 (ci := 10) rfl rfl hPx hS hAx ⟨Nat.le_of_ble_eq_true rfl, Nat.le_of_ble_eq_true rfl⟩ ⟨Nat.le_of_ble_eq_true rfl, Nat.le_of_ble_eq_true rfl⟩ hl.1 rfl rfl (Nat.le_of_ble_eq_true rfl) dL_law_507 (fun r_8 v_8 f_8 g_8 H1 locs hq_8 hP_8 hk_8 hS => ?_)
    obtain ⟨rfl, -⟩ := hq_8
    show W p l e room_1 s m #[Value.ref b] below meth c _ _ 100 12380 Q (F0 m 510 ls [.int (iI 0)])
    have hPm := hkeep H1 hk_8
    refine lv_aload_n hx hb dL_law_510 rfl (lv_at hl 1 rfl) ?_
    refine lv_aload_n hx hb dL_law_511 rfl (lv_at hl 3 rfl) ?_
    refine lv_iload_n hx hb dL_law_512 rfl (lv_at hl 0 rfl) ?_
    refine lv_iconst (v := iI 1) hx hb dL_law_513 rfl ?_
    refine gi_add (z := 1) hx hb dL_law_514 (by decide) ?_
    refine g_sld (i := 1) C hX hbl hbA hS (by decide) (by decide) rfl dL_law_515 ?_
    refine lv_aload_n hx hb dL_law_516 rfl (lv_at hl 3 rfl) ?_
    refine lv_iload_n hx hb dL_law_517 rfl (lv_at hl 0 rfl) ?_
    refine lv_iconst (v := iI 2) hx hb dL_law_518 rfl ?_
    refine gi_add (z := 2) hx hb dL_law_519 (by decide) ?_
    refine g_sld (i := 2) C hX hbl hbA hS (by decide) (by decide) rfl dL_law_520 ?_
    refine lv_aload_n hx hb dL_law_521 rfl (lv_at hl 3 rfl) ?_
    refine lv_iload_n hx hb dL_law_522 rfl (lv_at hl 0 rfl) ?_
    refine lv_iconst (v := iI 3) hx hb dL_law_523 rfl ?_
    refine gi_add (z := 3) hx hb dL_law_524 (by decide) ?_
    refine g_sld (i := 3) C hX hbl hbA hS (by decide) (by decide) rfl dL_law_525 ?_
    refine gi_zeq (tgt := 533) hx hb dL_law_526 (by decide) (by omega) (fun c_9 => ?_) (fun c_9 => ?_)
    · refine lv_iconst (v := iI 0) hx hb dL_law_533 rfl ?_
      refine g_cv (As := [.int (iI (X 1)), .int (iI (X 2)), .int (iI 0)]) (rest := [.int (iI 0)]) (n := 3) C hml (m_fall l D k Am bd hDm mv0 gz gz (X 1) (X 2) 0 (by omega) (by omega) (by decide) rfl rfl rfl rfl rfl rfl rfl rfl rfl) mM_L_58 mI_X11_fall mE_X11_fall mN_X11 mC_X11_fall (by decide +kernel) 0 (ci := 11) rfl rfl hPm hS hAm ⟨Nat.le_of_ble_eq_true rfl, Nat.le_of_ble_eq_true rfl⟩ ⟨Nat.le_of_ble_eq_true rfl, Nat.le_of_ble_eq_true rfl⟩ hl.1 rfl rfl (Nat.le_of_ble_eq_true rfl) dL_law_534 (fun r_10 v_10 f_10 g_10 H1 locs hq_10 hP_10 hk_10 hS => ?_)
      obtain ⟨rfl, -⟩ := hq_10
      show W p l e room_1 s m #[Value.ref b] below meth c _ _ 100 12380 Q (F0 m 537 ls [.int (iI 0), .int (iI 0)])
      refine gi_ceq (tgt := 1081) hx hb dL_law_537 (by decide) (by decide) (by decide) (fun c_11 => ?_) (fun c_11 => ?_)
      · exact tail _ _ hS
      · exact absurd rfl c_11
    · refine lv_iconst (v := iI 1) hx hb dL_law_529 rfl ?_
      refine lv_goto (tgt := 534) hx hb dL_law_530 (by decide) ?_
      refine g_cv (As := [.int (iI (X 1)), .int (iI (X 2)), .int (iI 1)]) (rest := [.int (iI 0)]) (n := 3) C hml (m_fall l D k Am bd hDm mv0 gz gz (X 1) (X 2) 1 (by omega) (by omega) (by decide) rfl rfl rfl rfl rfl rfl rfl rfl rfl) mM_L_58 mI_X11_fall mE_X11_fall mN_X11 mC_X11_fall (by decide +kernel) 0 (ci := 11) rfl rfl hPm hS hAm ⟨Nat.le_of_ble_eq_true rfl, Nat.le_of_ble_eq_true rfl⟩ ⟨Nat.le_of_ble_eq_true rfl, Nat.le_of_ble_eq_true rfl⟩ hl.1 rfl rfl (Nat.le_of_ble_eq_true rfl) dL_law_534 (fun r_12 v_12 f_12 g_12 H1 locs hq_12 hP_12 hk_12 hS => ?_)
      obtain ⟨rfl, -⟩ := hq_12
      show W p l e room_1 s m #[Value.ref b] below meth c _ _ 100 12380 Q (F0 m 537 ls [.int (iI 0), .int (iI 0)])
      refine gi_ceq (tgt := 1081) hx hb dL_law_537 (by decide) (by decide) (by decide) (fun c_13 => ?_) (fun c_13 => ?_)
      · exact tail _ _ hS
      · exact absurd rfl c_13
set_option maxHeartbeats 4000000 in
set_option maxRecDepth 100000 in
theorem law_case_10 (C : gC D k p s m #[Value.ref b] c code R_law) (hml : c.maxLocals = 4) (hX : va_X b 7 (fun j => iI (X j)) s s.heap) (hXr : ∀ j, inR (X j)) (hbl : b < s.heap.size) (hPx : gWd D (rwW k ad) rv0 gz gz H) (hDx : rwD Ax k ad) (hDm : mdD Am k bd) (hAx : ∀ q : Nat, Ax q → s.heap.size ≤ q) (hAm : ∀ q : Nat, Am q → s.heap.size ≤ q) (hkeep : ∀ H1 : Heap, (∀ q : Nat, q < H.size → ¬ Ax q → H1[q]? = H[q]?) → gWd D (mdW k bd) mv0 gz gz H1) (hS : va_S (fun q : Nat => s.heap.size ≤ q) s.heap H locs) (hl : lv_has ls 4 [(3, .int (iI 0)), (2, .ref (bd 0)), (1, .ref (ad 0)), (0, .ref b)]) (tail : ∀ (H : Heap) (locs : List Loc), va_S (fun q : Nat => s.heap.size ≤ q) s.heap H locs → W p l e room_1 s m #[Value.ref b] below meth c H locs 100 12380 Q (F0 m 1081 ls [])) : W p l e room_1 s m #[Value.ref b] below meth c H locs 100 12380 Q (F0 m 542 ls []) := by
  have hx := C.1
  have hb := C.2.1
  have hbA : ¬ (fun q : Nat => s.heap.size ≤ q) b := Nat.not_le.mpr hbl
  have hX1 := hXr 1
  have hX2 := hXr 2
  have hX3 := hXr 3
  have hX4 := hXr 4
  have hX5 := hXr 5
  have hX6 := hXr 6
  refine lv_aload_n hx hb dL_law_542 rfl (lv_at hl 2 rfl) ?_
  refine lv_aload_n hx hb dL_law_543 rfl (lv_at hl 3 rfl) ?_
  refine lv_iload_n hx hb dL_law_544 rfl (lv_at hl 0 rfl) ?_
  refine lv_iconst (v := iI 1) hx hb dL_law_545 rfl ?_
  refine gi_add (z := 1) hx hb dL_law_546 (by decide) ?_
  refine g_sld (i := 1) C hX hbl hbA hS (by decide) (by decide) rfl dL_law_547 ?_
  refine lv_aload_n hx hb dL_law_548 rfl (lv_at hl 3 rfl) ?_
  refine lv_iload_n hx hb dL_law_549 rfl (lv_at hl 0 rfl) ?_
  refine lv_iconst (v := iI 2) hx hb dL_law_550 rfl ?_
  refine gi_add (z := 2) hx hb dL_law_551 (by decide) ?_
  refine g_sld (i := 2) C hX hbl hbA hS (by decide) (by decide) rfl dL_law_552 ?_
  refine lv_aload_n hx hb dL_law_553 rfl (lv_at hl 3 rfl) ?_
  refine lv_iload_n hx hb dL_law_554 rfl (lv_at hl 0 rfl) ?_
  refine lv_iconst (v := iI 3) hx hb dL_law_555 rfl ?_
  refine gi_add (z := 3) hx hb dL_law_556 (by decide) ?_
  refine g_sld (i := 3) C hX hbl hbA hS (by decide) (by decide) rfl dL_law_557 ?_
  refine gi_zeq (tgt := 565) hx hb dL_law_558 (by decide) (by omega) (fun c_1 => ?_) (fun c_1 => ?_)
  · refine lv_iconst (v := iI 0) hx hb dL_law_565 rfl ?_
    refine g_cv (As := [.int (iI (X 1)), .int (iI (X 2)), .int (iI 0)]) (rest := []) (n := 3) C hml (c_X10_out l D k Ax ad hDx rv0 gz gz (X 1) (X 2) 0 (by omega) (by omega) (by decide) rfl rfl rfl rfl rfl rfl rfl rfl rfl (fun _ => rfl)) mM_L_59 mI_X10_out mE_X10_out mN_X10 mC_X10_out (by decide +kernel) 0 (ci := 10) rfl rfl hPx hS hAx ⟨Nat.le_of_ble_eq_true rfl, Nat.le_of_ble_eq_true rfl⟩ ⟨Nat.le_of_ble_eq_true rfl, Nat.le_of_ble_eq_true rfl⟩ hl.1 rfl rfl (Nat.le_of_ble_eq_true rfl) dL_law_566 (fun r_2 v_2 f_2 g_2 H1 locs hq_2 hP_2 hk_2 hS => ?_)
    obtain ⟨rfl, -⟩ := hq_2
    show W p l e room_1 s m #[Value.ref b] below meth c _ _ 100 12380 Q (F0 m 569 ls [.int (iI 0)])
    have hPm := hkeep H1 hk_2
    refine lv_aload_n hx hb dL_law_569 rfl (lv_at hl 1 rfl) ?_
    refine lv_aload_n hx hb dL_law_570 rfl (lv_at hl 3 rfl) ?_
    refine lv_iload_n hx hb dL_law_571 rfl (lv_at hl 0 rfl) ?_
    refine lv_iconst (v := iI 1) hx hb dL_law_572 rfl ?_
    refine gi_add (z := 1) hx hb dL_law_573 (by decide) ?_
    refine g_sld (i := 1) C hX hbl hbA hS (by decide) (by decide) rfl dL_law_574 ?_
    refine lv_aload_n hx hb dL_law_575 rfl (lv_at hl 3 rfl) ?_
    refine lv_iload_n hx hb dL_law_576 rfl (lv_at hl 0 rfl) ?_
    refine lv_iconst (v := iI 2) hx hb dL_law_577 rfl ?_
    refine gi_add (z := 2) hx hb dL_law_578 (by decide) ?_
    refine g_sld (i := 2) C hX hbl hbA hS (by decide) (by decide) rfl dL_law_579 ?_
    refine lv_aload_n hx hb dL_law_580 rfl (lv_at hl 3 rfl) ?_
    refine lv_iload_n hx hb dL_law_581 rfl (lv_at hl 0 rfl) ?_
    refine lv_iconst (v := iI 3) hx hb dL_law_582 rfl ?_
    refine gi_add (z := 3) hx hb dL_law_583 (by decide) ?_
    refine g_sld (i := 3) C hX hbl hbA hS (by decide) (by decide) rfl dL_law_584 ?_
    refine gi_zeq (tgt := 592) hx hb dL_law_585 (by decide) (by omega) (fun c_3 => ?_) (fun c_3 => ?_)
    · refine lv_iconst (v := iI 0) hx hb dL_law_592 rfl ?_
      refine g_cv (As := [.int (iI (X 1)), .int (iI (X 2)), .int (iI 0)]) (rest := [.int (iI 0)]) (n := 3) C hml (m_out l D k Am bd hDm mv0 gz gz (X 1) (X 2) 0 (by omega) (by omega) (by decide) rfl rfl rfl rfl rfl rfl rfl rfl rfl) mM_L_62 mI_X11_out mE_X11_out mN_X11 mC_X11_out (by decide +kernel) 0 (ci := 11) rfl rfl hPm hS hAm ⟨Nat.le_of_ble_eq_true rfl, Nat.le_of_ble_eq_true rfl⟩ ⟨Nat.le_of_ble_eq_true rfl, Nat.le_of_ble_eq_true rfl⟩ hl.1 rfl rfl (Nat.le_of_ble_eq_true rfl) dL_law_593 (fun r_4 v_4 f_4 g_4 H1 locs hq_4 hP_4 hk_4 hS => ?_)
      obtain ⟨rfl, -⟩ := hq_4
      show W p l e room_1 s m #[Value.ref b] below meth c _ _ 100 12380 Q (F0 m 596 ls [.int (iI 0), .int (iI 0)])
      refine gi_ceq (tgt := 1081) hx hb dL_law_596 (by decide) (by decide) (by decide) (fun c_5 => ?_) (fun c_5 => ?_)
      · exact tail _ _ hS
      · exact absurd rfl c_5
    · refine lv_iconst (v := iI 1) hx hb dL_law_588 rfl ?_
      refine lv_goto (tgt := 593) hx hb dL_law_589 (by decide) ?_
      refine g_cv (As := [.int (iI (X 1)), .int (iI (X 2)), .int (iI 1)]) (rest := [.int (iI 0)]) (n := 3) C hml (m_out l D k Am bd hDm mv0 gz gz (X 1) (X 2) 1 (by omega) (by omega) (by decide) rfl rfl rfl rfl rfl rfl rfl rfl rfl) mM_L_62 mI_X11_out mE_X11_out mN_X11 mC_X11_out (by decide +kernel) 0 (ci := 11) rfl rfl hPm hS hAm ⟨Nat.le_of_ble_eq_true rfl, Nat.le_of_ble_eq_true rfl⟩ ⟨Nat.le_of_ble_eq_true rfl, Nat.le_of_ble_eq_true rfl⟩ hl.1 rfl rfl (Nat.le_of_ble_eq_true rfl) dL_law_593 (fun r_6 v_6 f_6 g_6 H1 locs hq_6 hP_6 hk_6 hS => ?_)
      obtain ⟨rfl, -⟩ := hq_6
      show W p l e room_1 s m #[Value.ref b] below meth c _ _ 100 12380 Q (F0 m 596 ls [.int (iI 0), .int (iI 0)])
      refine gi_ceq (tgt := 1081) hx hb dL_law_596 (by decide) (by decide) (by decide) (fun c_7 => ?_) (fun c_7 => ?_)
      · exact tail _ _ hS
      · exact absurd rfl c_7
  · refine lv_iconst (v := iI 1) hx hb dL_law_561 rfl ?_
    refine lv_goto (tgt := 566) hx hb dL_law_562 (by decide) ?_
    refine g_cv (As := [.int (iI (X 1)), .int (iI (X 2)), .int (iI 1)]) (rest := []) (n := 3) C hml (c_X10_out l D k Ax ad hDx rv0 gz gz (X 1) (X 2) 1 (by omega) (by omega) (by decide) rfl rfl rfl rfl rfl rfl rfl rfl rfl (fun _ => rfl)) mM_L_59 mI_X10_out mE_X10_out mN_X10 mC_X10_out (by decide +kernel) 0 (ci := 10) rfl rfl hPx hS hAx ⟨Nat.le_of_ble_eq_true rfl, Nat.le_of_ble_eq_true rfl⟩ ⟨Nat.le_of_ble_eq_true rfl, Nat.le_of_ble_eq_true rfl⟩ hl.1 rfl rfl (Nat.le_of_ble_eq_true rfl) dL_law_566 (fun r_8 v_8 f_8 g_8 H1 locs hq_8 hP_8 hk_8 hS => ?_)
    obtain ⟨rfl, -⟩ := hq_8
    show W p l e room_1 s m #[Value.ref b] below meth c _ _ 100 12380 Q (F0 m 569 ls [.int (iI 0)])
    have hPm := hkeep H1 hk_8
    refine lv_aload_n hx hb dL_law_569 rfl (lv_at hl 1 rfl) ?_
    refine lv_aload_n hx hb dL_law_570 rfl (lv_at hl 3 rfl) ?_
    refine lv_iload_n hx hb dL_law_571 rfl (lv_at hl 0 rfl) ?_
    refine lv_iconst (v := iI 1) hx hb dL_law_572 rfl ?_
    refine gi_add (z := 1) hx hb dL_law_573 (by decide) ?_
    refine g_sld (i := 1) C hX hbl hbA hS (by decide) (by decide) rfl dL_law_574 ?_
    refine lv_aload_n hx hb dL_law_575 rfl (lv_at hl 3 rfl) ?_
    refine lv_iload_n hx hb dL_law_576 rfl (lv_at hl 0 rfl) ?_
    refine lv_iconst (v := iI 2) hx hb dL_law_577 rfl ?_
    refine gi_add (z := 2) hx hb dL_law_578 (by decide) ?_
    refine g_sld (i := 2) C hX hbl hbA hS (by decide) (by decide) rfl dL_law_579 ?_
    refine lv_aload_n hx hb dL_law_580 rfl (lv_at hl 3 rfl) ?_
    refine lv_iload_n hx hb dL_law_581 rfl (lv_at hl 0 rfl) ?_
    refine lv_iconst (v := iI 3) hx hb dL_law_582 rfl ?_
    refine gi_add (z := 3) hx hb dL_law_583 (by decide) ?_
    refine g_sld (i := 3) C hX hbl hbA hS (by decide) (by decide) rfl dL_law_584 ?_
    refine gi_zeq (tgt := 592) hx hb dL_law_585 (by decide) (by omega) (fun c_9 => ?_) (fun c_9 => ?_)
    · refine lv_iconst (v := iI 0) hx hb dL_law_592 rfl ?_
      refine g_cv (As := [.int (iI (X 1)), .int (iI (X 2)), .int (iI 0)]) (rest := [.int (iI 0)]) (n := 3) C hml (m_out l D k Am bd hDm mv0 gz gz (X 1) (X 2) 0 (by omega) (by omega) (by decide) rfl rfl rfl rfl rfl rfl rfl rfl rfl) mM_L_62 mI_X11_out mE_X11_out mN_X11 mC_X11_out (by decide +kernel) 0 (ci := 11) rfl rfl hPm hS hAm ⟨Nat.le_of_ble_eq_true rfl, Nat.le_of_ble_eq_true rfl⟩ ⟨Nat.le_of_ble_eq_true rfl, Nat.le_of_ble_eq_true rfl⟩ hl.1 rfl rfl (Nat.le_of_ble_eq_true rfl) dL_law_593 (fun r_10 v_10 f_10 g_10 H1 locs hq_10 hP_10 hk_10 hS => ?_)
      obtain ⟨rfl, -⟩ := hq_10
      show W p l e room_1 s m #[Value.ref b] below meth c _ _ 100 12380 Q (F0 m 596 ls [.int (iI 0), .int (iI 0)])
      refine gi_ceq (tgt := 1081) hx hb dL_law_596 (by decide) (by decide) (by decide) (fun c_11 => ?_) (fun c_11 => ?_)
      · exact tail _ _ hS
      · exact absurd rfl c_11
    · refine lv_iconst (v := iI 1) hx hb dL_law_588 rfl ?_
      refine lv_goto (tgt := 593) hx hb dL_law_589 (by decide) ?_
      refine g_cv (As := [.int (iI (X 1)), .int (iI (X 2)), .int (iI 1)]) (rest := [.int (iI 0)]) (n := 3) C hml (m_out l D k Am bd hDm mv0 gz gz (X 1) (X 2) 1 (by omega) (by omega) (by decide) rfl rfl rfl rfl rfl rfl rfl rfl rfl) mM_L_62 mI_X11_out mE_X11_out mN_X11 mC_X11_out (by decide +kernel) 0 (ci := 11) rfl rfl hPm hS hAm ⟨Nat.le_of_ble_eq_true rfl, Nat.le_of_ble_eq_true rfl⟩ ⟨Nat.le_of_ble_eq_true rfl, Nat.le_of_ble_eq_true rfl⟩ hl.1 rfl rfl (Nat.le_of_ble_eq_true rfl) dL_law_593 (fun r_12 v_12 f_12 g_12 H1 locs hq_12 hP_12 hk_12 hS => ?_)
      obtain ⟨rfl, -⟩ := hq_12
      show W p l e room_1 s m #[Value.ref b] below meth c _ _ 100 12380 Q (F0 m 596 ls [.int (iI 0), .int (iI 0)])
      refine gi_ceq (tgt := 1081) hx hb dL_law_596 (by decide) (by decide) (by decide) (fun c_13 => ?_) (fun c_13 => ?_)
      · exact tail _ _ hS
      · exact absurd rfl c_13
set_option maxHeartbeats 4000000 in
set_option maxRecDepth 100000 in
theorem law_case_11 (C : gC D k p s m #[Value.ref b] c code R_law) (hml : c.maxLocals = 4) (hX : va_X b 7 (fun j => iI (X j)) s s.heap) (hXr : ∀ j, inR (X j)) (hbl : b < s.heap.size) (hPx : gWd D (rwW k ad) rv0 gz gz H) (hDx : rwD Ax k ad) (hDm : mdD Am k bd) (hAx : ∀ q : Nat, Ax q → s.heap.size ≤ q) (hAm : ∀ q : Nat, Am q → s.heap.size ≤ q) (hkeep : ∀ H1 : Heap, (∀ q : Nat, q < H.size → ¬ Ax q → H1[q]? = H[q]?) → gWd D (mdW k bd) mv0 gz gz H1) (hS : va_S (fun q : Nat => s.heap.size ≤ q) s.heap H locs) (hl : lv_has ls 4 [(3, .int (iI 0)), (2, .ref (bd 0)), (1, .ref (ad 0)), (0, .ref b)]) (tail : ∀ (H : Heap) (locs : List Loc), va_S (fun q : Nat => s.heap.size ≤ q) s.heap H locs → W p l e room_1 s m #[Value.ref b] below meth c H locs 100 12380 Q (F0 m 1081 ls [])) : W p l e room_1 s m #[Value.ref b] below meth c H locs 100 12380 Q (F0 m 601 ls []) := by
  have hx := C.1
  have hb := C.2.1
  have hbA : ¬ (fun q : Nat => s.heap.size ≤ q) b := Nat.not_le.mpr hbl
  have hX1 := hXr 1
  have hX2 := hXr 2
  have hX3 := hXr 3
  have hX4 := hXr 4
  have hX5 := hXr 5
  have hX6 := hXr 6
  refine lv_aload_n hx hb dL_law_601 rfl (lv_at hl 2 rfl) ?_
  refine lv_aload_n hx hb dL_law_602 rfl (lv_at hl 3 rfl) ?_
  refine lv_iload_n hx hb dL_law_603 rfl (lv_at hl 0 rfl) ?_
  refine lv_iconst (v := iI 1) hx hb dL_law_604 rfl ?_
  refine gi_add (z := 1) hx hb dL_law_605 (by decide) ?_
  refine g_sld (i := 1) C hX hbl hbA hS (by decide) (by decide) rfl dL_law_606 ?_
  refine g_cv (As := [.int (iI (X 1))]) (rest := []) (n := 1) C hml (c_X10_clock l D k Ax ad hDx rv0 gz gz (X 1) (by omega) rfl rfl rfl rfl rfl rfl rfl rfl rfl (fun _ => rfl)) mM_L_63 mI_X10_clock mE_X10_clock mN_X10 mC_X10_clock (by decide +kernel) 0 (ci := 10) rfl rfl hPx hS hAx ⟨Nat.le_of_ble_eq_true rfl, Nat.le_of_ble_eq_true rfl⟩ ⟨Nat.le_of_ble_eq_true rfl, Nat.le_of_ble_eq_true rfl⟩ hl.1 rfl rfl (Nat.le_of_ble_eq_true rfl) dL_law_607 (fun r_1 v_1 f_1 g_1 H1 locs hq_1 hP_1 hk_1 hS => ?_)
  obtain ⟨⟨z_1, rfl, ez_1⟩, -⟩ := hq_1
  have hz_1 : inR z_1 := by rw [ez_1]; split <;> decide
  show W p l e room_1 s m #[Value.ref b] below meth c _ _ 100 12380 Q (F0 m 610 ls [.int (iI z_1)])
  have hPm := hkeep H1 hk_1
  refine lv_aload_n hx hb dL_law_610 rfl (lv_at hl 1 rfl) ?_
  refine lv_aload_n hx hb dL_law_611 rfl (lv_at hl 3 rfl) ?_
  refine lv_iload_n hx hb dL_law_612 rfl (lv_at hl 0 rfl) ?_
  refine lv_iconst (v := iI 1) hx hb dL_law_613 rfl ?_
  refine gi_add (z := 1) hx hb dL_law_614 (by decide) ?_
  refine g_sld (i := 1) C hX hbl hbA hS (by decide) (by decide) rfl dL_law_615 ?_
  refine g_cv (As := [.int (iI (X 1))]) (rest := [.int (iI z_1)]) (n := 1) C hml (m_clock l D k Am bd hDm mv0 gz gz (X 1) (by omega) rfl rfl rfl rfl rfl rfl rfl rfl rfl) mM_L_67 mI_X11_clock mE_X11_clock mN_X11 mC_X11_clock (by decide +kernel) 0 (ci := 11) rfl rfl hPm hS hAm ⟨Nat.le_of_ble_eq_true rfl, Nat.le_of_ble_eq_true rfl⟩ ⟨Nat.le_of_ble_eq_true rfl, Nat.le_of_ble_eq_true rfl⟩ hl.1 rfl rfl (Nat.le_of_ble_eq_true rfl) dL_law_616 (fun r_2 v_2 f_2 g_2 H1 locs hq_2 hP_2 hk_2 hS => ?_)
  obtain ⟨⟨z_2, rfl, ez_2⟩, -⟩ := hq_2
  have hz_2 : inR z_2 := by rw [ez_2]; split <;> decide
  show W p l e room_1 s m #[Value.ref b] below meth c _ _ 100 12380 Q (F0 m 619 ls [.int (iI z_2), .int (iI z_1)])
  refine gi_ceq (tgt := 1081) hx hb dL_law_619 (by decide) (by omega) (by omega) (fun c_3 => ?_) (fun c_3 => ?_)
  · exact tail _ _ hS
  · exact absurd (by rw [ez_1, ez_2]) c_3
set_option maxHeartbeats 4000000 in
set_option maxRecDepth 100000 in
theorem law_case_12 (C : gC D k p s m #[Value.ref b] c code R_law) (hml : c.maxLocals = 4) (hX : va_X b 7 (fun j => iI (X j)) s s.heap) (hXr : ∀ j, inR (X j)) (hbl : b < s.heap.size) (hPx : gWd D (rwW k ad) rv0 gz gz H) (hDx : rwD Ax k ad) (hDm : mdD Am k bd) (hAx : ∀ q : Nat, Ax q → s.heap.size ≤ q) (hAm : ∀ q : Nat, Am q → s.heap.size ≤ q) (hkeep : ∀ H1 : Heap, (∀ q : Nat, q < H.size → ¬ Ax q → H1[q]? = H[q]?) → gWd D (mdW k bd) mv0 gz gz H1) (hS : va_S (fun q : Nat => s.heap.size ≤ q) s.heap H locs) (hl : lv_has ls 4 [(3, .int (iI 0)), (2, .ref (bd 0)), (1, .ref (ad 0)), (0, .ref b)]) (tail : ∀ (H : Heap) (locs : List Loc), va_S (fun q : Nat => s.heap.size ≤ q) s.heap H locs → W p l e room_1 s m #[Value.ref b] below meth c H locs 100 12380 Q (F0 m 1081 ls [])) : W p l e room_1 s m #[Value.ref b] below meth c H locs 100 12380 Q (F0 m 624 ls []) := by
  have hx := C.1
  have hb := C.2.1
  have hbA : ¬ (fun q : Nat => s.heap.size ≤ q) b := Nat.not_le.mpr hbl
  have hX1 := hXr 1
  have hX2 := hXr 2
  have hX3 := hXr 3
  have hX4 := hXr 4
  have hX5 := hXr 5
  have hX6 := hXr 6
  refine lv_aload_n hx hb dL_law_624 rfl (lv_at hl 2 rfl) ?_
  refine g_cv (As := []) (rest := []) (n := 0) C hml (c_X10_now l D k Ax ad hDx rv0 gz gz   rfl rfl rfl rfl rfl rfl rfl rfl rfl (fun _ => rfl)) mM_L_68 mI_X10_now mE_X10_now mN_X10 mC_X10_now (by decide +kernel) 0 (ci := 10) rfl rfl hPx hS hAx ⟨Nat.le_of_ble_eq_true rfl, Nat.le_of_ble_eq_true rfl⟩ ⟨Nat.le_of_ble_eq_true rfl, Nat.le_of_ble_eq_true rfl⟩ hl.1 rfl rfl (Nat.le_of_ble_eq_true rfl) dL_law_625 (fun r_1 v_1 f_1 g_1 H1 locs hq_1 hP_1 hk_1 hS => ?_)
  obtain ⟨rfl, -⟩ := hq_1
  show W p l e room_1 s m #[Value.ref b] below meth c _ _ 100 12380 Q (F0 m 628 ls [.int (iI 0)])
  have hPm := hkeep H1 hk_1
  refine lv_aload_n hx hb dL_law_628 rfl (lv_at hl 1 rfl) ?_
  refine g_cv (As := []) (rest := [.int (iI 0)]) (n := 0) C hml (m_now l D k Am bd hDm mv0 gz gz   rfl rfl rfl rfl rfl rfl rfl rfl rfl) mM_L_71 mI_X11_now mE_X11_now mN_X11 mC_X11_now (by decide +kernel) 0 (ci := 11) rfl rfl hPm hS hAm ⟨Nat.le_of_ble_eq_true rfl, Nat.le_of_ble_eq_true rfl⟩ ⟨Nat.le_of_ble_eq_true rfl, Nat.le_of_ble_eq_true rfl⟩ hl.1 rfl rfl (Nat.le_of_ble_eq_true rfl) dL_law_629 (fun r_2 v_2 f_2 g_2 H1 locs hq_2 hP_2 hk_2 hS => ?_)
  obtain ⟨rfl, -⟩ := hq_2
  show W p l e room_1 s m #[Value.ref b] below meth c _ _ 100 12380 Q (F0 m 632 ls [.int (iI 0), .int (iI 0)])
  refine gi_ceq (tgt := 1081) hx hb dL_law_632 (by decide) (by decide) (by decide) (fun c_3 => ?_) (fun c_3 => ?_)
  · exact tail _ _ hS
  · exact absurd rfl c_3
set_option maxHeartbeats 4000000 in
set_option maxRecDepth 100000 in
theorem law_case_13 (C : gC D k p s m #[Value.ref b] c code R_law) (hml : c.maxLocals = 4) (hX : va_X b 7 (fun j => iI (X j)) s s.heap) (hXr : ∀ j, inR (X j)) (hbl : b < s.heap.size) (hPx : gWd D (rwW k ad) rv0 gz gz H) (hDx : rwD Ax k ad) (hDm : mdD Am k bd) (hAx : ∀ q : Nat, Ax q → s.heap.size ≤ q) (hAm : ∀ q : Nat, Am q → s.heap.size ≤ q) (hkeep : ∀ H1 : Heap, (∀ q : Nat, q < H.size → ¬ Ax q → H1[q]? = H[q]?) → gWd D (mdW k bd) mv0 gz gz H1) (hS : va_S (fun q : Nat => s.heap.size ≤ q) s.heap H locs) (hl : lv_has ls 4 [(3, .int (iI 0)), (2, .ref (bd 0)), (1, .ref (ad 0)), (0, .ref b)]) (tail : ∀ (H : Heap) (locs : List Loc), va_S (fun q : Nat => s.heap.size ≤ q) s.heap H locs → W p l e room_1 s m #[Value.ref b] below meth c H locs 100 12380 Q (F0 m 1081 ls [])) : W p l e room_1 s m #[Value.ref b] below meth c H locs 100 12380 Q (F0 m 637 ls []) := by
  have hx := C.1
  have hb := C.2.1
  have hbA : ¬ (fun q : Nat => s.heap.size ≤ q) b := Nat.not_le.mpr hbl
  have hX1 := hXr 1
  have hX2 := hXr 2
  have hX3 := hXr 3
  have hX4 := hXr 4
  have hX5 := hXr 5
  have hX6 := hXr 6
  refine lv_aload_n hx hb dL_law_637 rfl (lv_at hl 2 rfl) ?_
  refine lv_aload_n hx hb dL_law_638 rfl (lv_at hl 3 rfl) ?_
  refine lv_iload_n hx hb dL_law_639 rfl (lv_at hl 0 rfl) ?_
  refine lv_iconst (v := iI 1) hx hb dL_law_640 rfl ?_
  refine gi_add (z := 1) hx hb dL_law_641 (by decide) ?_
  refine g_sld (i := 1) C hX hbl hbA hS (by decide) (by decide) rfl dL_law_642 ?_
  refine lv_aload_n hx hb dL_law_643 rfl (lv_at hl 3 rfl) ?_
  refine lv_iload_n hx hb dL_law_644 rfl (lv_at hl 0 rfl) ?_
  refine lv_iconst (v := iI 2) hx hb dL_law_645 rfl ?_
  refine gi_add (z := 2) hx hb dL_law_646 (by decide) ?_
  refine g_sld (i := 2) C hX hbl hbA hS (by decide) (by decide) rfl dL_law_647 ?_
  refine g_cv (As := [.int (iI (X 1)), .int (iI (X 2))]) (rest := []) (n := 2) C hml (c_X10_tried l D k Ax ad hDx rv0 gz gz (X 1) (X 2) (by omega) (by omega) rfl rfl rfl rfl rfl rfl rfl rfl rfl (fun _ => rfl)) mM_L_72 mI_X10_tried mE_X10_tried mN_X10 mC_X10_tried (by decide +kernel) 0 (ci := 10) rfl rfl hPx hS hAx ⟨Nat.le_of_ble_eq_true rfl, Nat.le_of_ble_eq_true rfl⟩ ⟨Nat.le_of_ble_eq_true rfl, Nat.le_of_ble_eq_true rfl⟩ hl.1 rfl rfl (Nat.le_of_ble_eq_true rfl) dL_law_648 (fun r_1 v_1 f_1 g_1 H1 locs hq_1 hP_1 hk_1 hS => ?_)
  obtain ⟨rfl, -⟩ := hq_1
  show W p l e room_1 s m #[Value.ref b] below meth c _ _ 100 12380 Q (F0 m 651 ls [.int (iI (-1))])
  have hPm := hkeep H1 hk_1
  refine lv_aload_n hx hb dL_law_651 rfl (lv_at hl 1 rfl) ?_
  refine lv_aload_n hx hb dL_law_652 rfl (lv_at hl 3 rfl) ?_
  refine lv_iload_n hx hb dL_law_653 rfl (lv_at hl 0 rfl) ?_
  refine lv_iconst (v := iI 1) hx hb dL_law_654 rfl ?_
  refine gi_add (z := 1) hx hb dL_law_655 (by decide) ?_
  refine g_sld (i := 1) C hX hbl hbA hS (by decide) (by decide) rfl dL_law_656 ?_
  refine lv_aload_n hx hb dL_law_657 rfl (lv_at hl 3 rfl) ?_
  refine lv_iload_n hx hb dL_law_658 rfl (lv_at hl 0 rfl) ?_
  refine lv_iconst (v := iI 2) hx hb dL_law_659 rfl ?_
  refine gi_add (z := 2) hx hb dL_law_660 (by decide) ?_
  refine g_sld (i := 2) C hX hbl hbA hS (by decide) (by decide) rfl dL_law_661 ?_
  refine g_cv (As := [.int (iI (X 1)), .int (iI (X 2))]) (rest := [.int (iI (-1))]) (n := 2) C hml (m_tried l D k Am bd hDm mv0 gz gz (X 1) (X 2) (by omega) (by omega) rfl rfl rfl rfl rfl rfl rfl rfl rfl) mM_L_76 mI_X11_tried mE_X11_tried mN_X11 mC_X11_tried (by decide +kernel) 0 (ci := 11) rfl rfl hPm hS hAm ⟨Nat.le_of_ble_eq_true rfl, Nat.le_of_ble_eq_true rfl⟩ ⟨Nat.le_of_ble_eq_true rfl, Nat.le_of_ble_eq_true rfl⟩ hl.1 rfl rfl (Nat.le_of_ble_eq_true rfl) dL_law_662 (fun r_2 v_2 f_2 g_2 H1 locs hq_2 hP_2 hk_2 hS => ?_)
  obtain ⟨rfl, -⟩ := hq_2
  show W p l e room_1 s m #[Value.ref b] below meth c _ _ 100 12380 Q (F0 m 665 ls [.int (iI (-1)), .int (iI (-1))])
  refine gi_ceq (tgt := 1081) hx hb dL_law_665 (by decide) (by decide) (by decide) (fun c_3 => ?_) (fun c_3 => ?_)
  · exact tail _ _ hS
  · exact absurd rfl c_3
set_option maxHeartbeats 4000000 in
set_option maxRecDepth 100000 in
theorem law_case_14 (C : gC D k p s m #[Value.ref b] c code R_law) (hml : c.maxLocals = 4) (hX : va_X b 7 (fun j => iI (X j)) s s.heap) (hXr : ∀ j, inR (X j)) (hbl : b < s.heap.size) (hPx : gWd D (rwW k ad) rv0 gz gz H) (hDx : rwD Ax k ad) (hDm : mdD Am k bd) (hAx : ∀ q : Nat, Ax q → s.heap.size ≤ q) (hAm : ∀ q : Nat, Am q → s.heap.size ≤ q) (hkeep : ∀ H1 : Heap, (∀ q : Nat, q < H.size → ¬ Ax q → H1[q]? = H[q]?) → gWd D (mdW k bd) mv0 gz gz H1) (hS : va_S (fun q : Nat => s.heap.size ≤ q) s.heap H locs) (hl : lv_has ls 4 [(3, .int (iI 0)), (2, .ref (bd 0)), (1, .ref (ad 0)), (0, .ref b)]) (tail : ∀ (H : Heap) (locs : List Loc), va_S (fun q : Nat => s.heap.size ≤ q) s.heap H locs → W p l e room_1 s m #[Value.ref b] below meth c H locs 100 12380 Q (F0 m 1081 ls [])) : W p l e room_1 s m #[Value.ref b] below meth c H locs 100 12380 Q (F0 m 670 ls []) := by
  have hx := C.1
  have hb := C.2.1
  have hbA : ¬ (fun q : Nat => s.heap.size ≤ q) b := Nat.not_le.mpr hbl
  have hX1 := hXr 1
  have hX2 := hXr 2
  have hX3 := hXr 3
  have hX4 := hXr 4
  have hX5 := hXr 5
  have hX6 := hXr 6
  refine lv_aload_n hx hb dL_law_670 rfl (lv_at hl 2 rfl) ?_
  refine lv_aload_n hx hb dL_law_671 rfl (lv_at hl 3 rfl) ?_
  refine lv_iload_n hx hb dL_law_672 rfl (lv_at hl 0 rfl) ?_
  refine lv_iconst (v := iI 1) hx hb dL_law_673 rfl ?_
  refine gi_add (z := 1) hx hb dL_law_674 (by decide) ?_
  refine g_sld (i := 1) C hX hbl hbA hS (by decide) (by decide) rfl dL_law_675 ?_
  refine lv_aload_n hx hb dL_law_676 rfl (lv_at hl 3 rfl) ?_
  refine lv_iload_n hx hb dL_law_677 rfl (lv_at hl 0 rfl) ?_
  refine lv_iconst (v := iI 2) hx hb dL_law_678 rfl ?_
  refine gi_add (z := 2) hx hb dL_law_679 (by decide) ?_
  refine g_sld (i := 2) C hX hbl hbA hS (by decide) (by decide) rfl dL_law_680 ?_
  refine g_cv (As := [.int (iI (X 1)), .int (iI (X 2))]) (rest := []) (n := 2) C hml (c_X10_seen l D k Ax ad hDx rv0 gz gz (X 1) (X 2) (by omega) (by omega) rfl rfl rfl rfl rfl rfl rfl rfl rfl (fun _ => rfl)) mM_L_77 mI_X10_seen mE_X10_seen mN_X10 mC_X10_seen (by decide +kernel) 0 (ci := 10) rfl rfl hPx hS hAx ⟨Nat.le_of_ble_eq_true rfl, Nat.le_of_ble_eq_true rfl⟩ ⟨Nat.le_of_ble_eq_true rfl, Nat.le_of_ble_eq_true rfl⟩ hl.1 rfl rfl (Nat.le_of_ble_eq_true rfl) dL_law_681 (fun r_1 v_1 f_1 g_1 H1 locs hq_1 hP_1 hk_1 hS => ?_)
  obtain ⟨rfl, -⟩ := hq_1
  show W p l e room_1 s m #[Value.ref b] below meth c _ _ 100 12380 Q (F0 m 684 ls [.int (iI (-1))])
  have hPm := hkeep H1 hk_1
  refine lv_aload_n hx hb dL_law_684 rfl (lv_at hl 1 rfl) ?_
  refine lv_aload_n hx hb dL_law_685 rfl (lv_at hl 3 rfl) ?_
  refine lv_iload_n hx hb dL_law_686 rfl (lv_at hl 0 rfl) ?_
  refine lv_iconst (v := iI 1) hx hb dL_law_687 rfl ?_
  refine gi_add (z := 1) hx hb dL_law_688 (by decide) ?_
  refine g_sld (i := 1) C hX hbl hbA hS (by decide) (by decide) rfl dL_law_689 ?_
  refine lv_aload_n hx hb dL_law_690 rfl (lv_at hl 3 rfl) ?_
  refine lv_iload_n hx hb dL_law_691 rfl (lv_at hl 0 rfl) ?_
  refine lv_iconst (v := iI 2) hx hb dL_law_692 rfl ?_
  refine gi_add (z := 2) hx hb dL_law_693 (by decide) ?_
  refine g_sld (i := 2) C hX hbl hbA hS (by decide) (by decide) rfl dL_law_694 ?_
  refine g_cv (As := [.int (iI (X 1)), .int (iI (X 2))]) (rest := [.int (iI (-1))]) (n := 2) C hml (m_seen l D k Am bd hDm mv0 gz gz (X 1) (X 2) (by omega) (by omega) rfl rfl rfl rfl rfl rfl rfl rfl rfl) mM_L_80 mI_X11_seen mE_X11_seen mN_X11 mC_X11_seen (by decide +kernel) 0 (ci := 11) rfl rfl hPm hS hAm ⟨Nat.le_of_ble_eq_true rfl, Nat.le_of_ble_eq_true rfl⟩ ⟨Nat.le_of_ble_eq_true rfl, Nat.le_of_ble_eq_true rfl⟩ hl.1 rfl rfl (Nat.le_of_ble_eq_true rfl) dL_law_695 (fun r_2 v_2 f_2 g_2 H1 locs hq_2 hP_2 hk_2 hS => ?_)
  obtain ⟨rfl, -⟩ := hq_2
  show W p l e room_1 s m #[Value.ref b] below meth c _ _ 100 12380 Q (F0 m 698 ls [.int (iI (-1)), .int (iI (-1))])
  refine gi_ceq (tgt := 1081) hx hb dL_law_698 (by decide) (by decide) (by decide) (fun c_3 => ?_) (fun c_3 => ?_)
  · exact tail _ _ hS
  · exact absurd rfl c_3
set_option maxHeartbeats 4000000 in
set_option maxRecDepth 100000 in
theorem law_case_15 (C : gC D k p s m #[Value.ref b] c code R_law) (hml : c.maxLocals = 4) (hX : va_X b 7 (fun j => iI (X j)) s s.heap) (hXr : ∀ j, inR (X j)) (hbl : b < s.heap.size) (hPx : gWd D (rwW k ad) rv0 gz gz H) (hDx : rwD Ax k ad) (hDm : mdD Am k bd) (hAx : ∀ q : Nat, Ax q → s.heap.size ≤ q) (hAm : ∀ q : Nat, Am q → s.heap.size ≤ q) (hkeep : ∀ H1 : Heap, (∀ q : Nat, q < H.size → ¬ Ax q → H1[q]? = H[q]?) → gWd D (mdW k bd) mv0 gz gz H1) (hS : va_S (fun q : Nat => s.heap.size ≤ q) s.heap H locs) (hl : lv_has ls 4 [(3, .int (iI 0)), (2, .ref (bd 0)), (1, .ref (ad 0)), (0, .ref b)]) (tail : ∀ (H : Heap) (locs : List Loc), va_S (fun q : Nat => s.heap.size ≤ q) s.heap H locs → W p l e room_1 s m #[Value.ref b] below meth c H locs 100 12380 Q (F0 m 1081 ls [])) : W p l e room_1 s m #[Value.ref b] below meth c H locs 100 12380 Q (F0 m 703 ls []) := by
  have hx := C.1
  have hb := C.2.1
  have hbA : ¬ (fun q : Nat => s.heap.size ≤ q) b := Nat.not_le.mpr hbl
  have hX1 := hXr 1
  have hX2 := hXr 2
  have hX3 := hXr 3
  have hX4 := hXr 4
  have hX5 := hXr 5
  have hX6 := hXr 6
  refine lv_aload_n hx hb dL_law_703 rfl (lv_at hl 2 rfl) ?_
  refine lv_aload_n hx hb dL_law_704 rfl (lv_at hl 3 rfl) ?_
  refine lv_iload_n hx hb dL_law_705 rfl (lv_at hl 0 rfl) ?_
  refine lv_iconst (v := iI 1) hx hb dL_law_706 rfl ?_
  refine gi_add (z := 1) hx hb dL_law_707 (by decide) ?_
  refine g_sld (i := 1) C hX hbl hbA hS (by decide) (by decide) rfl dL_law_708 ?_
  refine g_cv (As := [.int (iI (X 1))]) (rest := []) (n := 1) C hml (c_X10_ready l D k Ax ad hDx rv0 gz gz (X 1) (by omega) rfl rfl rfl rfl rfl rfl rfl rfl rfl (fun _ => rfl)) mM_L_81 mI_X10_ready mE_X10_ready mN_X10 mC_X10_ready (by decide +kernel) 0 (ci := 10) rfl rfl hPx hS hAx ⟨Nat.le_of_ble_eq_true rfl, Nat.le_of_ble_eq_true rfl⟩ ⟨Nat.le_of_ble_eq_true rfl, Nat.le_of_ble_eq_true rfl⟩ hl.1 rfl rfl (Nat.le_of_ble_eq_true rfl) dL_law_709 (fun r_1 v_1 f_1 g_1 H1 locs hq_1 hP_1 hk_1 hS => ?_)
  obtain ⟨rfl, -⟩ := hq_1
  show W p l e room_1 s m #[Value.ref b] below meth c _ _ 100 12380 Q (F0 m 712 ls [.int (iI (-1))])
  have hPm := hkeep H1 hk_1
  refine lv_aload_n hx hb dL_law_712 rfl (lv_at hl 1 rfl) ?_
  refine lv_aload_n hx hb dL_law_713 rfl (lv_at hl 3 rfl) ?_
  refine lv_iload_n hx hb dL_law_714 rfl (lv_at hl 0 rfl) ?_
  refine lv_iconst (v := iI 1) hx hb dL_law_715 rfl ?_
  refine gi_add (z := 1) hx hb dL_law_716 (by decide) ?_
  refine g_sld (i := 1) C hX hbl hbA hS (by decide) (by decide) rfl dL_law_717 ?_
  refine g_cv (As := [.int (iI (X 1))]) (rest := [.int (iI (-1))]) (n := 1) C hml (m_ready l D k Am bd hDm mv0 gz gz (X 1) (by omega) rfl rfl rfl rfl rfl rfl rfl rfl rfl) mM_L_84 mI_X11_ready mE_X11_ready mN_X11 mC_X11_ready (by decide +kernel) 0 (ci := 11) rfl rfl hPm hS hAm ⟨Nat.le_of_ble_eq_true rfl, Nat.le_of_ble_eq_true rfl⟩ ⟨Nat.le_of_ble_eq_true rfl, Nat.le_of_ble_eq_true rfl⟩ hl.1 rfl rfl (Nat.le_of_ble_eq_true rfl) dL_law_718 (fun r_2 v_2 f_2 g_2 H1 locs hq_2 hP_2 hk_2 hS => ?_)
  obtain ⟨rfl, -⟩ := hq_2
  show W p l e room_1 s m #[Value.ref b] below meth c _ _ 100 12380 Q (F0 m 721 ls [.int (iI (-1)), .int (iI (-1))])
  refine gi_ceq (tgt := 1081) hx hb dL_law_721 (by decide) (by decide) (by decide) (fun c_3 => ?_) (fun c_3 => ?_)
  · exact tail _ _ hS
  · exact absurd rfl c_3
set_option maxHeartbeats 4000000 in
set_option maxRecDepth 100000 in
theorem law_case_16 (C : gC D k p s m #[Value.ref b] c code R_law) (hml : c.maxLocals = 4) (hX : va_X b 7 (fun j => iI (X j)) s s.heap) (hXr : ∀ j, inR (X j)) (hbl : b < s.heap.size) (hPx : gWd D (rwW k ad) rv0 gz gz H) (hDx : rwD Ax k ad) (hDm : mdD Am k bd) (hAx : ∀ q : Nat, Ax q → s.heap.size ≤ q) (hAm : ∀ q : Nat, Am q → s.heap.size ≤ q) (hkeep : ∀ H1 : Heap, (∀ q : Nat, q < H.size → ¬ Ax q → H1[q]? = H[q]?) → gWd D (mdW k bd) mv0 gz gz H1) (hS : va_S (fun q : Nat => s.heap.size ≤ q) s.heap H locs) (hl : lv_has ls 4 [(3, .int (iI 0)), (2, .ref (bd 0)), (1, .ref (ad 0)), (0, .ref b)]) (tail : ∀ (H : Heap) (locs : List Loc), va_S (fun q : Nat => s.heap.size ≤ q) s.heap H locs → W p l e room_1 s m #[Value.ref b] below meth c H locs 100 12380 Q (F0 m 1081 ls [])) : W p l e room_1 s m #[Value.ref b] below meth c H locs 100 12380 Q (F0 m 726 ls []) := by
  have hx := C.1
  have hb := C.2.1
  have hbA : ¬ (fun q : Nat => s.heap.size ≤ q) b := Nat.not_le.mpr hbl
  have hX1 := hXr 1
  have hX2 := hXr 2
  have hX3 := hXr 3
  have hX4 := hXr 4
  have hX5 := hXr 5
  have hX6 := hXr 6
  refine lv_aload_n hx hb dL_law_726 rfl (lv_at hl 2 rfl) ?_
  refine lv_aload_n hx hb dL_law_727 rfl (lv_at hl 3 rfl) ?_
  refine lv_iload_n hx hb dL_law_728 rfl (lv_at hl 0 rfl) ?_
  refine lv_iconst (v := iI 1) hx hb dL_law_729 rfl ?_
  refine gi_add (z := 1) hx hb dL_law_730 (by decide) ?_
  refine g_sld (i := 1) C hX hbl hbA hS (by decide) (by decide) rfl dL_law_731 ?_
  refine lv_aload_n hx hb dL_law_732 rfl (lv_at hl 3 rfl) ?_
  refine lv_iload_n hx hb dL_law_733 rfl (lv_at hl 0 rfl) ?_
  refine lv_iconst (v := iI 2) hx hb dL_law_734 rfl ?_
  refine gi_add (z := 2) hx hb dL_law_735 (by decide) ?_
  refine g_sld (i := 2) C hX hbl hbA hS (by decide) (by decide) rfl dL_law_736 ?_
  refine lv_aload_n hx hb dL_law_737 rfl (lv_at hl 3 rfl) ?_
  refine lv_iload_n hx hb dL_law_738 rfl (lv_at hl 0 rfl) ?_
  refine lv_iconst (v := iI 3) hx hb dL_law_739 rfl ?_
  refine gi_add (z := 3) hx hb dL_law_740 (by decide) ?_
  refine g_sld (i := 3) C hX hbl hbA hS (by decide) (by decide) rfl dL_law_741 ?_
  refine g_cv (As := [.int (iI (X 1)), .int (iI (X 2)), .int (iI (X 3))]) (rest := []) (n := 3) C hml (c_X10_appeal l D k Ax ad hDx rv0 gz gz (X 1) (X 2) (X 3) (by omega) (by omega) (by omega) rfl rfl rfl rfl rfl rfl rfl rfl rfl (fun _ => rfl)) mM_L_85 mI_X10_appeal mE_X10_appeal mN_X10 mC_X10_appeal (by decide +kernel) 0 (ci := 10) rfl rfl hPx hS hAx ⟨Nat.le_of_ble_eq_true rfl, Nat.le_of_ble_eq_true rfl⟩ ⟨Nat.le_of_ble_eq_true rfl, Nat.le_of_ble_eq_true rfl⟩ hl.1 rfl rfl (Nat.le_of_ble_eq_true rfl) dL_law_742 (fun r_1 v_1 f_1 g_1 H1 locs hq_1 hP_1 hk_1 hS => ?_)
  obtain ⟨rfl, -⟩ := hq_1
  show W p l e room_1 s m #[Value.ref b] below meth c _ _ 100 12380 Q (F0 m 745 ls [.int (iI 0)])
  have hPm := hkeep H1 hk_1
  refine lv_aload_n hx hb dL_law_745 rfl (lv_at hl 1 rfl) ?_
  refine lv_aload_n hx hb dL_law_746 rfl (lv_at hl 3 rfl) ?_
  refine lv_iload_n hx hb dL_law_747 rfl (lv_at hl 0 rfl) ?_
  refine lv_iconst (v := iI 1) hx hb dL_law_748 rfl ?_
  refine gi_add (z := 1) hx hb dL_law_749 (by decide) ?_
  refine g_sld (i := 1) C hX hbl hbA hS (by decide) (by decide) rfl dL_law_750 ?_
  refine lv_aload_n hx hb dL_law_751 rfl (lv_at hl 3 rfl) ?_
  refine lv_iload_n hx hb dL_law_752 rfl (lv_at hl 0 rfl) ?_
  refine lv_iconst (v := iI 2) hx hb dL_law_753 rfl ?_
  refine gi_add (z := 2) hx hb dL_law_754 (by decide) ?_
  refine g_sld (i := 2) C hX hbl hbA hS (by decide) (by decide) rfl dL_law_755 ?_
  refine lv_aload_n hx hb dL_law_756 rfl (lv_at hl 3 rfl) ?_
  refine lv_iload_n hx hb dL_law_757 rfl (lv_at hl 0 rfl) ?_
  refine lv_iconst (v := iI 3) hx hb dL_law_758 rfl ?_
  refine gi_add (z := 3) hx hb dL_law_759 (by decide) ?_
  refine g_sld (i := 3) C hX hbl hbA hS (by decide) (by decide) rfl dL_law_760 ?_
  refine g_cv (As := [.int (iI (X 1)), .int (iI (X 2)), .int (iI (X 3))]) (rest := [.int (iI 0)]) (n := 3) C hml (m_appeal l D k Am bd hDm mv0 gz gz (X 1) (X 2) (X 3) (by omega) (by omega) (by omega) rfl rfl rfl rfl rfl rfl rfl rfl rfl) mM_L_89 mI_X11_appeal mE_X11_appeal mN_X11 mC_X11_appeal (by decide +kernel) 0 (ci := 11) rfl rfl hPm hS hAm ⟨Nat.le_of_ble_eq_true rfl, Nat.le_of_ble_eq_true rfl⟩ ⟨Nat.le_of_ble_eq_true rfl, Nat.le_of_ble_eq_true rfl⟩ hl.1 rfl rfl (Nat.le_of_ble_eq_true rfl) dL_law_761 (fun r_2 v_2 f_2 g_2 H1 locs hq_2 hP_2 hk_2 hS => ?_)
  obtain ⟨rfl, -⟩ := hq_2
  show W p l e room_1 s m #[Value.ref b] below meth c _ _ 100 12380 Q (F0 m 764 ls [.int (iI 0), .int (iI 0)])
  refine gi_ceq (tgt := 1081) hx hb dL_law_764 (by decide) (by decide) (by decide) (fun c_3 => ?_) (fun c_3 => ?_)
  · exact tail _ _ hS
  · exact absurd rfl c_3
set_option maxHeartbeats 4000000 in
set_option maxRecDepth 100000 in
theorem law_case_17 (C : gC D k p s m #[Value.ref b] c code R_law) (hml : c.maxLocals = 4) (hX : va_X b 7 (fun j => iI (X j)) s s.heap) (hXr : ∀ j, inR (X j)) (hbl : b < s.heap.size) (hPx : gWd D (rwW k ad) rv0 gz gz H) (hDx : rwD Ax k ad) (hDm : mdD Am k bd) (hAx : ∀ q : Nat, Ax q → s.heap.size ≤ q) (hAm : ∀ q : Nat, Am q → s.heap.size ≤ q) (hkeep : ∀ H1 : Heap, (∀ q : Nat, q < H.size → ¬ Ax q → H1[q]? = H[q]?) → gWd D (mdW k bd) mv0 gz gz H1) (hS : va_S (fun q : Nat => s.heap.size ≤ q) s.heap H locs) (hl : lv_has ls 4 [(3, .int (iI 0)), (2, .ref (bd 0)), (1, .ref (ad 0)), (0, .ref b)]) (tail : ∀ (H : Heap) (locs : List Loc), va_S (fun q : Nat => s.heap.size ≤ q) s.heap H locs → W p l e room_1 s m #[Value.ref b] below meth c H locs 100 12380 Q (F0 m 1081 ls [])) : W p l e room_1 s m #[Value.ref b] below meth c H locs 100 12380 Q (F0 m 769 ls []) := by
  have hx := C.1
  have hb := C.2.1
  have hbA : ¬ (fun q : Nat => s.heap.size ≤ q) b := Nat.not_le.mpr hbl
  have hX1 := hXr 1
  have hX2 := hXr 2
  have hX3 := hXr 3
  have hX4 := hXr 4
  have hX5 := hXr 5
  have hX6 := hXr 6
  refine lv_aload_n hx hb dL_law_769 rfl (lv_at hl 2 rfl) ?_
  refine lv_aload_n hx hb dL_law_770 rfl (lv_at hl 3 rfl) ?_
  refine lv_iload_n hx hb dL_law_771 rfl (lv_at hl 0 rfl) ?_
  refine lv_iconst (v := iI 1) hx hb dL_law_772 rfl ?_
  refine gi_add (z := 1) hx hb dL_law_773 (by decide) ?_
  refine g_sld (i := 1) C hX hbl hbA hS (by decide) (by decide) rfl dL_law_774 ?_
  refine lv_aload_n hx hb dL_law_775 rfl (lv_at hl 3 rfl) ?_
  refine lv_iload_n hx hb dL_law_776 rfl (lv_at hl 0 rfl) ?_
  refine lv_iconst (v := iI 2) hx hb dL_law_777 rfl ?_
  refine gi_add (z := 2) hx hb dL_law_778 (by decide) ?_
  refine g_sld (i := 2) C hX hbl hbA hS (by decide) (by decide) rfl dL_law_779 ?_
  refine lv_aload_n hx hb dL_law_780 rfl (lv_at hl 3 rfl) ?_
  refine lv_iload_n hx hb dL_law_781 rfl (lv_at hl 0 rfl) ?_
  refine lv_iconst (v := iI 3) hx hb dL_law_782 rfl ?_
  refine gi_add (z := 3) hx hb dL_law_783 (by decide) ?_
  refine g_sld (i := 3) C hX hbl hbA hS (by decide) (by decide) rfl dL_law_784 ?_
  refine lv_aload_n hx hb dL_law_785 rfl (lv_at hl 3 rfl) ?_
  refine lv_iload_n hx hb dL_law_786 rfl (lv_at hl 0 rfl) ?_
  refine lv_iconst (v := iI 4) hx hb dL_law_787 rfl ?_
  refine gi_add (z := 4) hx hb dL_law_788 (by decide) ?_
  refine g_sld (i := 4) C hX hbl hbA hS (by decide) (by decide) rfl dL_law_789 ?_
  refine lv_aload_n hx hb dL_law_790 rfl (lv_at hl 3 rfl) ?_
  refine lv_iload_n hx hb dL_law_791 rfl (lv_at hl 0 rfl) ?_
  refine lv_iconst (v := iI 5) hx hb dL_law_792 rfl ?_
  refine gi_add (z := 5) hx hb dL_law_793 (by decide) ?_
  refine g_sld (i := 5) C hX hbl hbA hS (by decide) (by decide) rfl dL_law_794 ?_
  refine g_cv (As := [.int (iI (X 1)), .int (iI (X 2)), .int (iI (X 3)), .int (iI (X 4)), .int (iI (X 5))]) (rest := []) (n := 5) C hml (c_X10_of l D k Ax ad hDx rv0 gz gz (X 1) (X 2) (X 3) (X 4) (X 5) (by omega) (by omega) (by omega) (by omega) (by omega) rfl rfl rfl rfl rfl rfl rfl rfl rfl (fun _ => rfl)) mM_L_90 mI_X10_of mE_X10_of mN_X10 mC_X10_of (by decide +kernel) 0 (ci := 10) rfl rfl hPx hS hAx ⟨Nat.le_of_ble_eq_true rfl, Nat.le_of_ble_eq_true rfl⟩ ⟨Nat.le_of_ble_eq_true rfl, Nat.le_of_ble_eq_true rfl⟩ hl.1 rfl rfl (Nat.le_of_ble_eq_true rfl) dL_law_795 (fun r_1 v_1 f_1 g_1 H1 locs hq_1 hP_1 hk_1 hS => ?_)
  obtain ⟨rfl, -⟩ := hq_1
  show W p l e room_1 s m #[Value.ref b] below meth c _ _ 100 12380 Q (F0 m 798 ls [.int (iI (-1))])
  have hPm := hkeep H1 hk_1
  refine lv_aload_n hx hb dL_law_798 rfl (lv_at hl 1 rfl) ?_
  refine lv_aload_n hx hb dL_law_799 rfl (lv_at hl 3 rfl) ?_
  refine lv_iload_n hx hb dL_law_800 rfl (lv_at hl 0 rfl) ?_
  refine lv_iconst (v := iI 1) hx hb dL_law_801 rfl ?_
  refine gi_add (z := 1) hx hb dL_law_802 (by decide) ?_
  refine g_sld (i := 1) C hX hbl hbA hS (by decide) (by decide) rfl dL_law_803 ?_
  refine lv_aload_n hx hb dL_law_804 rfl (lv_at hl 3 rfl) ?_
  refine lv_iload_n hx hb dL_law_805 rfl (lv_at hl 0 rfl) ?_
  refine lv_iconst (v := iI 2) hx hb dL_law_806 rfl ?_
  refine gi_add (z := 2) hx hb dL_law_807 (by decide) ?_
  refine g_sld (i := 2) C hX hbl hbA hS (by decide) (by decide) rfl dL_law_808 ?_
  refine lv_aload_n hx hb dL_law_809 rfl (lv_at hl 3 rfl) ?_
  refine lv_iload_n hx hb dL_law_810 rfl (lv_at hl 0 rfl) ?_
  refine lv_iconst (v := iI 3) hx hb dL_law_811 rfl ?_
  refine gi_add (z := 3) hx hb dL_law_812 (by decide) ?_
  refine g_sld (i := 3) C hX hbl hbA hS (by decide) (by decide) rfl dL_law_813 ?_
  refine lv_aload_n hx hb dL_law_814 rfl (lv_at hl 3 rfl) ?_
  refine lv_iload_n hx hb dL_law_815 rfl (lv_at hl 0 rfl) ?_
  refine lv_iconst (v := iI 4) hx hb dL_law_816 rfl ?_
  refine gi_add (z := 4) hx hb dL_law_817 (by decide) ?_
  refine g_sld (i := 4) C hX hbl hbA hS (by decide) (by decide) rfl dL_law_818 ?_
  refine lv_aload_n hx hb dL_law_819 rfl (lv_at hl 3 rfl) ?_
  refine lv_iload_n hx hb dL_law_820 rfl (lv_at hl 0 rfl) ?_
  refine lv_iconst (v := iI 5) hx hb dL_law_821 rfl ?_
  refine gi_add (z := 5) hx hb dL_law_822 (by decide) ?_
  refine g_sld (i := 5) C hX hbl hbA hS (by decide) (by decide) rfl dL_law_823 ?_
  refine g_cv (As := [.int (iI (X 1)), .int (iI (X 2)), .int (iI (X 3)), .int (iI (X 4)), .int (iI (X 5))]) (rest := [.int (iI (-1))]) (n := 5) C hml (m_of l D k Am bd hDm mv0 gz gz (X 1) (X 2) (X 3) (X 4) (X 5) (by omega) (by omega) (by omega) (by omega) (by omega) rfl rfl rfl rfl rfl rfl rfl rfl rfl) mM_L_93 mI_X11_of mE_X11_of mN_X11 mC_X11_of (by decide +kernel) 0 (ci := 11) rfl rfl hPm hS hAm ⟨Nat.le_of_ble_eq_true rfl, Nat.le_of_ble_eq_true rfl⟩ ⟨Nat.le_of_ble_eq_true rfl, Nat.le_of_ble_eq_true rfl⟩ hl.1 rfl rfl (Nat.le_of_ble_eq_true rfl) dL_law_824 (fun r_2 v_2 f_2 g_2 H1 locs hq_2 hP_2 hk_2 hS => ?_)
  obtain ⟨rfl, -⟩ := hq_2
  show W p l e room_1 s m #[Value.ref b] below meth c _ _ 100 12380 Q (F0 m 827 ls [.int (iI (-1)), .int (iI (-1))])
  refine gi_ceq (tgt := 1081) hx hb dL_law_827 (by decide) (by decide) (by decide) (fun c_3 => ?_) (fun c_3 => ?_)
  · exact tail _ _ hS
  · exact absurd rfl c_3
set_option maxHeartbeats 4000000 in
set_option maxRecDepth 100000 in
theorem law_case_18 (C : gC D k p s m #[Value.ref b] c code R_law) (hml : c.maxLocals = 4) (hX : va_X b 7 (fun j => iI (X j)) s s.heap) (hXr : ∀ j, inR (X j)) (hbl : b < s.heap.size) (hPx : gWd D (rwW k ad) rv0 gz gz H) (hDx : rwD Ax k ad) (hDm : mdD Am k bd) (hAx : ∀ q : Nat, Ax q → s.heap.size ≤ q) (hAm : ∀ q : Nat, Am q → s.heap.size ≤ q) (hkeep : ∀ H1 : Heap, (∀ q : Nat, q < H.size → ¬ Ax q → H1[q]? = H[q]?) → gWd D (mdW k bd) mv0 gz gz H1) (hS : va_S (fun q : Nat => s.heap.size ≤ q) s.heap H locs) (hl : lv_has ls 4 [(3, .int (iI 0)), (2, .ref (bd 0)), (1, .ref (ad 0)), (0, .ref b)]) (tail : ∀ (H : Heap) (locs : List Loc), va_S (fun q : Nat => s.heap.size ≤ q) s.heap H locs → W p l e room_1 s m #[Value.ref b] below meth c H locs 100 12380 Q (F0 m 1081 ls [])) : W p l e room_1 s m #[Value.ref b] below meth c H locs 100 12380 Q (F0 m 832 ls []) := by
  have hx := C.1
  have hb := C.2.1
  have hbA : ¬ (fun q : Nat => s.heap.size ≤ q) b := Nat.not_le.mpr hbl
  have hX1 := hXr 1
  have hX2 := hXr 2
  have hX3 := hXr 3
  have hX4 := hXr 4
  have hX5 := hXr 5
  have hX6 := hXr 6
  refine lv_aload_n hx hb dL_law_832 rfl (lv_at hl 2 rfl) ?_
  refine lv_aload_n hx hb dL_law_833 rfl (lv_at hl 3 rfl) ?_
  refine lv_iload_n hx hb dL_law_834 rfl (lv_at hl 0 rfl) ?_
  refine lv_iconst (v := iI 1) hx hb dL_law_835 rfl ?_
  refine gi_add (z := 1) hx hb dL_law_836 (by decide) ?_
  refine g_sld (i := 1) C hX hbl hbA hS (by decide) (by decide) rfl dL_law_837 ?_
  refine lv_aload_n hx hb dL_law_838 rfl (lv_at hl 3 rfl) ?_
  refine lv_iload_n hx hb dL_law_839 rfl (lv_at hl 0 rfl) ?_
  refine lv_iconst (v := iI 2) hx hb dL_law_840 rfl ?_
  refine gi_add (z := 2) hx hb dL_law_841 (by decide) ?_
  refine g_sld (i := 2) C hX hbl hbA hS (by decide) (by decide) rfl dL_law_842 ?_
  refine lv_aload_n hx hb dL_law_843 rfl (lv_at hl 3 rfl) ?_
  refine lv_iload_n hx hb dL_law_844 rfl (lv_at hl 0 rfl) ?_
  refine lv_iconst (v := iI 3) hx hb dL_law_845 rfl ?_
  refine gi_add (z := 3) hx hb dL_law_846 (by decide) ?_
  refine g_sld (i := 3) C hX hbl hbA hS (by decide) (by decide) rfl dL_law_847 ?_
  refine lv_aload_n hx hb dL_law_848 rfl (lv_at hl 3 rfl) ?_
  refine lv_iload_n hx hb dL_law_849 rfl (lv_at hl 0 rfl) ?_
  refine lv_iconst (v := iI 4) hx hb dL_law_850 rfl ?_
  refine gi_add (z := 4) hx hb dL_law_851 (by decide) ?_
  refine g_sld (i := 4) C hX hbl hbA hS (by decide) (by decide) rfl dL_law_852 ?_
  refine g_cv (As := [.int (iI (X 1)), .int (iI (X 2)), .int (iI (X 3)), .int (iI (X 4))]) (rest := []) (n := 4) C hml (c_X10_key l D k Ax ad hDx rv0 gz gz (X 1) (X 2) (X 3) (X 4) (by omega) (by omega) (by omega) (by omega) rfl rfl rfl rfl rfl rfl rfl rfl rfl (fun _ => rfl)) mM_L_94 mI_X10_key mE_X10_key mN_X10 mC_X10_key (by decide +kernel) 0 (ci := 10) rfl rfl hPx hS hAx ⟨Nat.le_of_ble_eq_true rfl, Nat.le_of_ble_eq_true rfl⟩ ⟨Nat.le_of_ble_eq_true rfl, Nat.le_of_ble_eq_true rfl⟩ hl.1 rfl rfl (Nat.le_of_ble_eq_true rfl) dL_law_853 (fun r_1 v_1 f_1 g_1 H1 locs hq_1 hP_1 hk_1 hS => ?_)
  obtain ⟨rfl, -⟩ := hq_1
  show W p l e room_1 s m #[Value.ref b] below meth c _ _ 100 12380 Q (F0 m 856 ls [.long (iL (-1))])
  have hPm := hkeep H1 hk_1
  refine lv_aload_n hx hb dL_law_856 rfl (lv_at hl 1 rfl) ?_
  refine lv_aload_n hx hb dL_law_857 rfl (lv_at hl 3 rfl) ?_
  refine lv_iload_n hx hb dL_law_858 rfl (lv_at hl 0 rfl) ?_
  refine lv_iconst (v := iI 1) hx hb dL_law_859 rfl ?_
  refine gi_add (z := 1) hx hb dL_law_860 (by decide) ?_
  refine g_sld (i := 1) C hX hbl hbA hS (by decide) (by decide) rfl dL_law_861 ?_
  refine lv_aload_n hx hb dL_law_862 rfl (lv_at hl 3 rfl) ?_
  refine lv_iload_n hx hb dL_law_863 rfl (lv_at hl 0 rfl) ?_
  refine lv_iconst (v := iI 2) hx hb dL_law_864 rfl ?_
  refine gi_add (z := 2) hx hb dL_law_865 (by decide) ?_
  refine g_sld (i := 2) C hX hbl hbA hS (by decide) (by decide) rfl dL_law_866 ?_
  refine lv_aload_n hx hb dL_law_867 rfl (lv_at hl 3 rfl) ?_
  refine lv_iload_n hx hb dL_law_868 rfl (lv_at hl 0 rfl) ?_
  refine lv_iconst (v := iI 3) hx hb dL_law_869 rfl ?_
  refine gi_add (z := 3) hx hb dL_law_870 (by decide) ?_
  refine g_sld (i := 3) C hX hbl hbA hS (by decide) (by decide) rfl dL_law_871 ?_
  refine lv_aload_n hx hb dL_law_872 rfl (lv_at hl 3 rfl) ?_
  refine lv_iload_n hx hb dL_law_873 rfl (lv_at hl 0 rfl) ?_
  refine lv_iconst (v := iI 4) hx hb dL_law_874 rfl ?_
  refine gi_add (z := 4) hx hb dL_law_875 (by decide) ?_
  refine g_sld (i := 4) C hX hbl hbA hS (by decide) (by decide) rfl dL_law_876 ?_
  refine g_cv (As := [.int (iI (X 1)), .int (iI (X 2)), .int (iI (X 3)), .int (iI (X 4))]) (rest := [.long (iL (-1))]) (n := 4) C hml (m_key l D k Am bd hDm mv0 gz gz (X 1) (X 2) (X 3) (X 4) (by omega) (by omega) (by omega) (by omega) rfl rfl rfl rfl rfl rfl rfl rfl rfl) mM_L_98 mI_X11_key mE_X11_key mN_X11 mC_X11_key (by decide +kernel) 0 (ci := 11) rfl rfl hPm hS hAm ⟨Nat.le_of_ble_eq_true rfl, Nat.le_of_ble_eq_true rfl⟩ ⟨Nat.le_of_ble_eq_true rfl, Nat.le_of_ble_eq_true rfl⟩ hl.1 rfl rfl (Nat.le_of_ble_eq_true rfl) dL_law_877 (fun r_2 v_2 f_2 g_2 H1 locs hq_2 hP_2 hk_2 hS => ?_)
  obtain ⟨rfl, -⟩ := hq_2
  show W p l e room_1 s m #[Value.ref b] below meth c _ _ 100 12380 Q (F0 m 880 ls [.long (iL (-1)), .long (iL (-1))])
  refine W.lcmp hx hb dL_law_880 ?_
  show W p l e room_1 s m #[Value.ref b] below meth c _ _ 100 12380 Q (F0 m 881 ls [.int (iI 0)])
  refine gi_zeq (tgt := 1081) hx hb dL_law_881 (by decide) (by decide) (fun c_3 => ?_) (fun c_3 => ?_)
  · exact tail _ _ hS
  · exfalso; omega
set_option maxHeartbeats 4000000 in
set_option maxRecDepth 100000 in
theorem law_case_19 (C : gC D k p s m #[Value.ref b] c code R_law) (hml : c.maxLocals = 4) (hX : va_X b 7 (fun j => iI (X j)) s s.heap) (hXr : ∀ j, inR (X j)) (hbl : b < s.heap.size) (hPx : gWd D (rwW k ad) rv0 gz gz H) (hDx : rwD Ax k ad) (hDm : mdD Am k bd) (hAx : ∀ q : Nat, Ax q → s.heap.size ≤ q) (hAm : ∀ q : Nat, Am q → s.heap.size ≤ q) (hkeep : ∀ H1 : Heap, (∀ q : Nat, q < H.size → ¬ Ax q → H1[q]? = H[q]?) → gWd D (mdW k bd) mv0 gz gz H1) (hS : va_S (fun q : Nat => s.heap.size ≤ q) s.heap H locs) (hl : lv_has ls 4 [(3, .int (iI 0)), (2, .ref (bd 0)), (1, .ref (ad 0)), (0, .ref b)]) (tail : ∀ (H : Heap) (locs : List Loc), va_S (fun q : Nat => s.heap.size ≤ q) s.heap H locs → W p l e room_1 s m #[Value.ref b] below meth c H locs 100 12380 Q (F0 m 1081 ls [])) : W p l e room_1 s m #[Value.ref b] below meth c H locs 100 12380 Q (F0 m 886 ls []) := by
  have hx := C.1
  have hb := C.2.1
  have hbA : ¬ (fun q : Nat => s.heap.size ≤ q) b := Nat.not_le.mpr hbl
  have hX1 := hXr 1
  have hX2 := hXr 2
  have hX3 := hXr 3
  have hX4 := hXr 4
  have hX5 := hXr 5
  have hX6 := hXr 6
  refine lv_aload_n hx hb dL_law_886 rfl (lv_at hl 2 rfl) ?_
  refine lv_aload_n hx hb dL_law_887 rfl (lv_at hl 3 rfl) ?_
  refine lv_iload_n hx hb dL_law_888 rfl (lv_at hl 0 rfl) ?_
  refine lv_iconst (v := iI 1) hx hb dL_law_889 rfl ?_
  refine gi_add (z := 1) hx hb dL_law_890 (by decide) ?_
  refine g_sld (i := 1) C hX hbl hbA hS (by decide) (by decide) rfl dL_law_891 ?_
  refine lv_aload_n hx hb dL_law_892 rfl (lv_at hl 3 rfl) ?_
  refine lv_iload_n hx hb dL_law_893 rfl (lv_at hl 0 rfl) ?_
  refine lv_iconst (v := iI 2) hx hb dL_law_894 rfl ?_
  refine gi_add (z := 2) hx hb dL_law_895 (by decide) ?_
  refine g_sld (i := 2) C hX hbl hbA hS (by decide) (by decide) rfl dL_law_896 ?_
  refine lv_aload_n hx hb dL_law_897 rfl (lv_at hl 3 rfl) ?_
  refine lv_iload_n hx hb dL_law_898 rfl (lv_at hl 0 rfl) ?_
  refine lv_iconst (v := iI 3) hx hb dL_law_899 rfl ?_
  refine gi_add (z := 3) hx hb dL_law_900 (by decide) ?_
  refine g_sld (i := 3) C hX hbl hbA hS (by decide) (by decide) rfl dL_law_901 ?_
  refine g_cv (As := [.int (iI (X 1)), .int (iI (X 2)), .int (iI (X 3))]) (rest := []) (n := 3) C hml (c_X10_rank l D k Ax ad hDx rv0 gz gz (X 1) (X 2) (X 3) (by omega) (by omega) (by omega) rfl rfl rfl rfl rfl rfl rfl rfl rfl (fun _ => rfl)) mM_L_99 mI_X10_rank mE_X10_rank mN_X10 mC_X10_rank (by decide +kernel) 0 (ci := 10) rfl rfl hPx hS hAx ⟨Nat.le_of_ble_eq_true rfl, Nat.le_of_ble_eq_true rfl⟩ ⟨Nat.le_of_ble_eq_true rfl, Nat.le_of_ble_eq_true rfl⟩ hl.1 rfl rfl (Nat.le_of_ble_eq_true rfl) dL_law_902 (fun r_1 v_1 f_1 g_1 H1 locs hq_1 hP_1 hk_1 hS => ?_)
  obtain ⟨rfl, -⟩ := hq_1
  show W p l e room_1 s m #[Value.ref b] below meth c _ _ 100 12380 Q (F0 m 905 ls [.int (iI (-1))])
  have hPm := hkeep H1 hk_1
  refine lv_aload_n hx hb dL_law_905 rfl (lv_at hl 1 rfl) ?_
  refine lv_aload_n hx hb dL_law_906 rfl (lv_at hl 3 rfl) ?_
  refine lv_iload_n hx hb dL_law_907 rfl (lv_at hl 0 rfl) ?_
  refine lv_iconst (v := iI 1) hx hb dL_law_908 rfl ?_
  refine gi_add (z := 1) hx hb dL_law_909 (by decide) ?_
  refine g_sld (i := 1) C hX hbl hbA hS (by decide) (by decide) rfl dL_law_910 ?_
  refine lv_aload_n hx hb dL_law_911 rfl (lv_at hl 3 rfl) ?_
  refine lv_iload_n hx hb dL_law_912 rfl (lv_at hl 0 rfl) ?_
  refine lv_iconst (v := iI 2) hx hb dL_law_913 rfl ?_
  refine gi_add (z := 2) hx hb dL_law_914 (by decide) ?_
  refine g_sld (i := 2) C hX hbl hbA hS (by decide) (by decide) rfl dL_law_915 ?_
  refine lv_aload_n hx hb dL_law_916 rfl (lv_at hl 3 rfl) ?_
  refine lv_iload_n hx hb dL_law_917 rfl (lv_at hl 0 rfl) ?_
  refine lv_iconst (v := iI 3) hx hb dL_law_918 rfl ?_
  refine gi_add (z := 3) hx hb dL_law_919 (by decide) ?_
  refine g_sld (i := 3) C hX hbl hbA hS (by decide) (by decide) rfl dL_law_920 ?_
  refine g_cv (As := [.int (iI (X 1)), .int (iI (X 2)), .int (iI (X 3))]) (rest := [.int (iI (-1))]) (n := 3) C hml (m_rank l D k Am bd hDm mv0 gz gz (X 1) (X 2) (X 3) (by omega) (by omega) (by omega) rfl rfl rfl rfl rfl rfl rfl rfl rfl) mM_L_102 mI_X11_rank mE_X11_rank mN_X11 mC_X11_rank (by decide +kernel) 0 (ci := 11) rfl rfl hPm hS hAm ⟨Nat.le_of_ble_eq_true rfl, Nat.le_of_ble_eq_true rfl⟩ ⟨Nat.le_of_ble_eq_true rfl, Nat.le_of_ble_eq_true rfl⟩ hl.1 rfl rfl (Nat.le_of_ble_eq_true rfl) dL_law_921 (fun r_2 v_2 f_2 g_2 H1 locs hq_2 hP_2 hk_2 hS => ?_)
  obtain ⟨rfl, -⟩ := hq_2
  show W p l e room_1 s m #[Value.ref b] below meth c _ _ 100 12380 Q (F0 m 924 ls [.int (iI (-1)), .int (iI (-1))])
  refine gi_ceq (tgt := 1081) hx hb dL_law_924 (by decide) (by decide) (by decide) (fun c_3 => ?_) (fun c_3 => ?_)
  · exact tail _ _ hS
  · exact absurd rfl c_3
set_option maxHeartbeats 4000000 in
set_option maxRecDepth 100000 in
theorem law_case_20 (C : gC D k p s m #[Value.ref b] c code R_law) (hml : c.maxLocals = 4) (hX : va_X b 7 (fun j => iI (X j)) s s.heap) (hXr : ∀ j, inR (X j)) (hbl : b < s.heap.size) (hPx : gWd D (rwW k ad) rv0 gz gz H) (hDx : rwD Ax k ad) (hDm : mdD Am k bd) (hAx : ∀ q : Nat, Ax q → s.heap.size ≤ q) (hAm : ∀ q : Nat, Am q → s.heap.size ≤ q) (hkeep : ∀ H1 : Heap, (∀ q : Nat, q < H.size → ¬ Ax q → H1[q]? = H[q]?) → gWd D (mdW k bd) mv0 gz gz H1) (hS : va_S (fun q : Nat => s.heap.size ≤ q) s.heap H locs) (hl : lv_has ls 4 [(3, .int (iI 0)), (2, .ref (bd 0)), (1, .ref (ad 0)), (0, .ref b)]) (tail : ∀ (H : Heap) (locs : List Loc), va_S (fun q : Nat => s.heap.size ≤ q) s.heap H locs → W p l e room_1 s m #[Value.ref b] below meth c H locs 100 12380 Q (F0 m 1081 ls [])) : W p l e room_1 s m #[Value.ref b] below meth c H locs 100 12380 Q (F0 m 929 ls []) := by
  have hx := C.1
  have hb := C.2.1
  have hbA : ¬ (fun q : Nat => s.heap.size ≤ q) b := Nat.not_le.mpr hbl
  have hX1 := hXr 1
  have hX2 := hXr 2
  have hX3 := hXr 3
  have hX4 := hXr 4
  have hX5 := hXr 5
  have hX6 := hXr 6
  refine lv_aload_n hx hb dL_law_929 rfl (lv_at hl 2 rfl) ?_
  refine lv_aload_n hx hb dL_law_930 rfl (lv_at hl 3 rfl) ?_
  refine lv_iload_n hx hb dL_law_931 rfl (lv_at hl 0 rfl) ?_
  refine lv_iconst (v := iI 1) hx hb dL_law_932 rfl ?_
  refine gi_add (z := 1) hx hb dL_law_933 (by decide) ?_
  refine g_sld (i := 1) C hX hbl hbA hS (by decide) (by decide) rfl dL_law_934 ?_
  refine lv_aload_n hx hb dL_law_935 rfl (lv_at hl 3 rfl) ?_
  refine lv_iload_n hx hb dL_law_936 rfl (lv_at hl 0 rfl) ?_
  refine lv_iconst (v := iI 2) hx hb dL_law_937 rfl ?_
  refine gi_add (z := 2) hx hb dL_law_938 (by decide) ?_
  refine g_sld (i := 2) C hX hbl hbA hS (by decide) (by decide) rfl dL_law_939 ?_
  refine g_cv (As := [.int (iI (X 1)), .int (iI (X 2))]) (rest := []) (n := 2) C hml (c_X10_advance l D k Ax ad hDx rv0 gz gz (X 1) (X 2) (by omega) (by omega) rfl rfl rfl rfl rfl rfl rfl rfl rfl (fun _ => rfl)) mM_L_103 mI_X10_advance mE_X10_advance mN_X10 mC_X10_advance (by decide +kernel) 0 (ci := 10) rfl rfl hPx hS hAx ⟨Nat.le_of_ble_eq_true rfl, Nat.le_of_ble_eq_true rfl⟩ ⟨Nat.le_of_ble_eq_true rfl, Nat.le_of_ble_eq_true rfl⟩ hl.1 rfl rfl (Nat.le_of_ble_eq_true rfl) dL_law_940 (fun r_1 v_1 f_1 g_1 H1 locs hq_1 hP_1 hk_1 hS => ?_)
  obtain ⟨rfl, -⟩ := hq_1
  show W p l e room_1 s m #[Value.ref b] below meth c _ _ 100 12380 Q (F0 m 943 ls [.int (iI (-1))])
  have hPm := hkeep H1 hk_1
  refine lv_aload_n hx hb dL_law_943 rfl (lv_at hl 1 rfl) ?_
  refine lv_aload_n hx hb dL_law_944 rfl (lv_at hl 3 rfl) ?_
  refine lv_iload_n hx hb dL_law_945 rfl (lv_at hl 0 rfl) ?_
  refine lv_iconst (v := iI 1) hx hb dL_law_946 rfl ?_
  refine gi_add (z := 1) hx hb dL_law_947 (by decide) ?_
  refine g_sld (i := 1) C hX hbl hbA hS (by decide) (by decide) rfl dL_law_948 ?_
  refine lv_aload_n hx hb dL_law_949 rfl (lv_at hl 3 rfl) ?_
  refine lv_iload_n hx hb dL_law_950 rfl (lv_at hl 0 rfl) ?_
  refine lv_iconst (v := iI 2) hx hb dL_law_951 rfl ?_
  refine gi_add (z := 2) hx hb dL_law_952 (by decide) ?_
  refine g_sld (i := 2) C hX hbl hbA hS (by decide) (by decide) rfl dL_law_953 ?_
  refine g_cv (As := [.int (iI (X 1)), .int (iI (X 2))]) (rest := [.int (iI (-1))]) (n := 2) C hml (m_advance l D k Am bd hDm mv0 gz gz (X 1) (X 2) (by omega) (by omega) rfl rfl rfl rfl rfl rfl rfl rfl rfl) mM_L_106 mI_X11_advance mE_X11_advance mN_X11 mC_X11_advance (by decide +kernel) 0 (ci := 11) rfl rfl hPm hS hAm ⟨Nat.le_of_ble_eq_true rfl, Nat.le_of_ble_eq_true rfl⟩ ⟨Nat.le_of_ble_eq_true rfl, Nat.le_of_ble_eq_true rfl⟩ hl.1 rfl rfl (Nat.le_of_ble_eq_true rfl) dL_law_954 (fun r_2 v_2 f_2 g_2 H1 locs hq_2 hP_2 hk_2 hS => ?_)
  obtain ⟨rfl, -⟩ := hq_2
  show W p l e room_1 s m #[Value.ref b] below meth c _ _ 100 12380 Q (F0 m 957 ls [.int (iI (-1)), .int (iI (-1))])
  refine gi_ceq (tgt := 1081) hx hb dL_law_957 (by decide) (by decide) (by decide) (fun c_3 => ?_) (fun c_3 => ?_)
  · exact tail _ _ hS
  · exact absurd rfl c_3
set_option maxHeartbeats 4000000 in
set_option maxRecDepth 100000 in
theorem law_case_21 (C : gC D k p s m #[Value.ref b] c code R_law) (hml : c.maxLocals = 4) (hX : va_X b 7 (fun j => iI (X j)) s s.heap) (hXr : ∀ j, inR (X j)) (hbl : b < s.heap.size) (hPx : gWd D (rwW k ad) rv0 gz gz H) (hDx : rwD Ax k ad) (hDm : mdD Am k bd) (hAx : ∀ q : Nat, Ax q → s.heap.size ≤ q) (hAm : ∀ q : Nat, Am q → s.heap.size ≤ q) (hkeep : ∀ H1 : Heap, (∀ q : Nat, q < H.size → ¬ Ax q → H1[q]? = H[q]?) → gWd D (mdW k bd) mv0 gz gz H1) (hS : va_S (fun q : Nat => s.heap.size ≤ q) s.heap H locs) (hl : lv_has ls 4 [(3, .int (iI 0)), (2, .ref (bd 0)), (1, .ref (ad 0)), (0, .ref b)]) (tail : ∀ (H : Heap) (locs : List Loc), va_S (fun q : Nat => s.heap.size ≤ q) s.heap H locs → W p l e room_1 s m #[Value.ref b] below meth c H locs 100 12380 Q (F0 m 1081 ls [])) : W p l e room_1 s m #[Value.ref b] below meth c H locs 100 12380 Q (F0 m 962 ls []) := by
  have hx := C.1
  have hb := C.2.1
  have hbA : ¬ (fun q : Nat => s.heap.size ≤ q) b := Nat.not_le.mpr hbl
  have hX1 := hXr 1
  have hX2 := hXr 2
  have hX3 := hXr 3
  have hX4 := hXr 4
  have hX5 := hXr 5
  have hX6 := hXr 6
  refine lv_aload_n hx hb dL_law_962 rfl (lv_at hl 2 rfl) ?_
  refine lv_aload_n hx hb dL_law_963 rfl (lv_at hl 3 rfl) ?_
  refine lv_iload_n hx hb dL_law_964 rfl (lv_at hl 0 rfl) ?_
  refine lv_iconst (v := iI 1) hx hb dL_law_965 rfl ?_
  refine gi_add (z := 1) hx hb dL_law_966 (by decide) ?_
  refine g_sld (i := 1) C hX hbl hbA hS (by decide) (by decide) rfl dL_law_967 ?_
  refine lv_aload_n hx hb dL_law_968 rfl (lv_at hl 3 rfl) ?_
  refine lv_iload_n hx hb dL_law_969 rfl (lv_at hl 0 rfl) ?_
  refine lv_iconst (v := iI 2) hx hb dL_law_970 rfl ?_
  refine gi_add (z := 2) hx hb dL_law_971 (by decide) ?_
  refine g_sld (i := 2) C hX hbl hbA hS (by decide) (by decide) rfl dL_law_972 ?_
  refine g_cv (As := [.int (iI (X 1)), .int (iI (X 2))]) (rest := []) (n := 2) C hml (c_X10_order l D k Ax ad hDx rv0 gz gz (X 1) (X 2) (by omega) (by omega) rfl rfl rfl rfl rfl rfl rfl rfl rfl (fun _ => rfl)) mM_L_107 mI_X10_order mE_X10_order mN_X10 mC_X10_order (by decide +kernel) 0 (ci := 10) rfl rfl hPx hS hAx ⟨Nat.le_of_ble_eq_true rfl, Nat.le_of_ble_eq_true rfl⟩ ⟨Nat.le_of_ble_eq_true rfl, Nat.le_of_ble_eq_true rfl⟩ hl.1 rfl rfl (Nat.le_of_ble_eq_true rfl) dL_law_973 (fun r_1 v_1 f_1 g_1 H1 locs hq_1 hP_1 hk_1 hS => ?_)
  obtain ⟨rfl, -⟩ := hq_1
  show W p l e room_1 s m #[Value.ref b] below meth c _ _ 100 12380 Q (F0 m 976 ls [.int (iI (-1))])
  have hPm := hkeep H1 hk_1
  refine lv_aload_n hx hb dL_law_976 rfl (lv_at hl 1 rfl) ?_
  refine lv_aload_n hx hb dL_law_977 rfl (lv_at hl 3 rfl) ?_
  refine lv_iload_n hx hb dL_law_978 rfl (lv_at hl 0 rfl) ?_
  refine lv_iconst (v := iI 1) hx hb dL_law_979 rfl ?_
  refine gi_add (z := 1) hx hb dL_law_980 (by decide) ?_
  refine g_sld (i := 1) C hX hbl hbA hS (by decide) (by decide) rfl dL_law_981 ?_
  refine lv_aload_n hx hb dL_law_982 rfl (lv_at hl 3 rfl) ?_
  refine lv_iload_n hx hb dL_law_983 rfl (lv_at hl 0 rfl) ?_
  refine lv_iconst (v := iI 2) hx hb dL_law_984 rfl ?_
  refine gi_add (z := 2) hx hb dL_law_985 (by decide) ?_
  refine g_sld (i := 2) C hX hbl hbA hS (by decide) (by decide) rfl dL_law_986 ?_
  refine g_cv (As := [.int (iI (X 1)), .int (iI (X 2))]) (rest := [.int (iI (-1))]) (n := 2) C hml (m_order l D k Am bd hDm mv0 gz gz (X 1) (X 2) (by omega) (by omega) rfl rfl rfl rfl rfl rfl rfl rfl rfl) mM_L_110 mI_X11_order mE_X11_order mN_X11 mC_X11_order (by decide +kernel) 0 (ci := 11) rfl rfl hPm hS hAm ⟨Nat.le_of_ble_eq_true rfl, Nat.le_of_ble_eq_true rfl⟩ ⟨Nat.le_of_ble_eq_true rfl, Nat.le_of_ble_eq_true rfl⟩ hl.1 rfl rfl (Nat.le_of_ble_eq_true rfl) dL_law_987 (fun r_2 v_2 f_2 g_2 H1 locs hq_2 hP_2 hk_2 hS => ?_)
  obtain ⟨rfl, -⟩ := hq_2
  show W p l e room_1 s m #[Value.ref b] below meth c _ _ 100 12380 Q (F0 m 990 ls [.int (iI (-1)), .int (iI (-1))])
  refine gi_ceq (tgt := 1081) hx hb dL_law_990 (by decide) (by decide) (by decide) (fun c_3 => ?_) (fun c_3 => ?_)
  · exact tail _ _ hS
  · exact absurd rfl c_3
set_option maxHeartbeats 4000000 in
set_option maxRecDepth 100000 in
theorem law_case_22 (C : gC D k p s m #[Value.ref b] c code R_law) (hml : c.maxLocals = 4) (hX : va_X b 7 (fun j => iI (X j)) s s.heap) (hXr : ∀ j, inR (X j)) (hbl : b < s.heap.size) (hPx : gWd D (rwW k ad) rv0 gz gz H) (hDx : rwD Ax k ad) (hDm : mdD Am k bd) (hAx : ∀ q : Nat, Ax q → s.heap.size ≤ q) (hAm : ∀ q : Nat, Am q → s.heap.size ≤ q) (hkeep : ∀ H1 : Heap, (∀ q : Nat, q < H.size → ¬ Ax q → H1[q]? = H[q]?) → gWd D (mdW k bd) mv0 gz gz H1) (hS : va_S (fun q : Nat => s.heap.size ≤ q) s.heap H locs) (hl : lv_has ls 4 [(3, .int (iI 0)), (2, .ref (bd 0)), (1, .ref (ad 0)), (0, .ref b)]) (tail : ∀ (H : Heap) (locs : List Loc), va_S (fun q : Nat => s.heap.size ≤ q) s.heap H locs → W p l e room_1 s m #[Value.ref b] below meth c H locs 100 12380 Q (F0 m 1081 ls [])) : W p l e room_1 s m #[Value.ref b] below meth c H locs 100 12380 Q (F0 m 995 ls []) := by
  have hx := C.1
  have hb := C.2.1
  have hbA : ¬ (fun q : Nat => s.heap.size ≤ q) b := Nat.not_le.mpr hbl
  have hX1 := hXr 1
  have hX2 := hXr 2
  have hX3 := hXr 3
  have hX4 := hXr 4
  have hX5 := hXr 5
  have hX6 := hXr 6
  refine lv_aload_n hx hb dL_law_995 rfl (lv_at hl 2 rfl) ?_
  refine lv_aload_n hx hb dL_law_996 rfl (lv_at hl 3 rfl) ?_
  refine lv_iload_n hx hb dL_law_997 rfl (lv_at hl 0 rfl) ?_
  refine lv_iconst (v := iI 1) hx hb dL_law_998 rfl ?_
  refine gi_add (z := 1) hx hb dL_law_999 (by decide) ?_
  refine g_sld (i := 1) C hX hbl hbA hS (by decide) (by decide) rfl dL_law_1000 ?_
  refine lv_aload_n hx hb dL_law_1001 rfl (lv_at hl 3 rfl) ?_
  refine lv_iload_n hx hb dL_law_1002 rfl (lv_at hl 0 rfl) ?_
  refine lv_iconst (v := iI 2) hx hb dL_law_1003 rfl ?_
  refine gi_add (z := 2) hx hb dL_law_1004 (by decide) ?_
  refine g_sld (i := 2) C hX hbl hbA hS (by decide) (by decide) rfl dL_law_1005 ?_
  refine lv_aload_n hx hb dL_law_1006 rfl (lv_at hl 3 rfl) ?_
  refine lv_iload_n hx hb dL_law_1007 rfl (lv_at hl 0 rfl) ?_
  refine lv_iconst (v := iI 3) hx hb dL_law_1008 rfl ?_
  refine gi_add (z := 3) hx hb dL_law_1009 (by decide) ?_
  refine g_sld (i := 3) C hX hbl hbA hS (by decide) (by decide) rfl dL_law_1010 ?_
  refine g_cv (As := [.int (iI (X 1)), .int (iI (X 2)), .int (iI (X 3))]) (rest := []) (n := 3) C hml (c_X10_parts l D k Ax ad hDx rv0 gz gz (X 1) (X 2) (X 3) (by omega) (by omega) (by omega) rfl rfl rfl rfl rfl rfl rfl rfl rfl (fun _ => rfl)) mM_L_111 mI_X10_parts mE_X10_parts mN_X10 mC_X10_parts (by decide +kernel) 0 (ci := 10) rfl rfl hPx hS hAx ⟨Nat.le_of_ble_eq_true rfl, Nat.le_of_ble_eq_true rfl⟩ ⟨Nat.le_of_ble_eq_true rfl, Nat.le_of_ble_eq_true rfl⟩ hl.1 rfl rfl (Nat.le_of_ble_eq_true rfl) dL_law_1011 (fun r_1 v_1 f_1 g_1 H1 locs hq_1 hP_1 hk_1 hS => ?_)
  obtain ⟨rfl, -⟩ := hq_1
  show W p l e room_1 s m #[Value.ref b] below meth c _ _ 100 12380 Q (F0 m 1014 ls [.int (iI (-1))])
  have hPm := hkeep H1 hk_1
  refine lv_aload_n hx hb dL_law_1014 rfl (lv_at hl 1 rfl) ?_
  refine lv_aload_n hx hb dL_law_1015 rfl (lv_at hl 3 rfl) ?_
  refine lv_iload_n hx hb dL_law_1016 rfl (lv_at hl 0 rfl) ?_
  refine lv_iconst (v := iI 1) hx hb dL_law_1017 rfl ?_
  refine gi_add (z := 1) hx hb dL_law_1018 (by decide) ?_
  refine g_sld (i := 1) C hX hbl hbA hS (by decide) (by decide) rfl dL_law_1019 ?_
  refine lv_aload_n hx hb dL_law_1020 rfl (lv_at hl 3 rfl) ?_
  refine lv_iload_n hx hb dL_law_1021 rfl (lv_at hl 0 rfl) ?_
  refine lv_iconst (v := iI 2) hx hb dL_law_1022 rfl ?_
  refine gi_add (z := 2) hx hb dL_law_1023 (by decide) ?_
  refine g_sld (i := 2) C hX hbl hbA hS (by decide) (by decide) rfl dL_law_1024 ?_
  refine lv_aload_n hx hb dL_law_1025 rfl (lv_at hl 3 rfl) ?_
  refine lv_iload_n hx hb dL_law_1026 rfl (lv_at hl 0 rfl) ?_
  refine lv_iconst (v := iI 3) hx hb dL_law_1027 rfl ?_
  refine gi_add (z := 3) hx hb dL_law_1028 (by decide) ?_
  refine g_sld (i := 3) C hX hbl hbA hS (by decide) (by decide) rfl dL_law_1029 ?_
  refine g_cv (As := [.int (iI (X 1)), .int (iI (X 2)), .int (iI (X 3))]) (rest := [.int (iI (-1))]) (n := 3) C hml (m_parts l D k Am bd hDm mv0 gz gz (X 1) (X 2) (X 3) (by omega) (by omega) (by omega) rfl rfl rfl rfl rfl rfl rfl rfl rfl) mM_L_114 mI_X11_parts mE_X11_parts mN_X11 mC_X11_parts (by decide +kernel) 0 (ci := 11) rfl rfl hPm hS hAm ⟨Nat.le_of_ble_eq_true rfl, Nat.le_of_ble_eq_true rfl⟩ ⟨Nat.le_of_ble_eq_true rfl, Nat.le_of_ble_eq_true rfl⟩ hl.1 rfl rfl (Nat.le_of_ble_eq_true rfl) dL_law_1030 (fun r_2 v_2 f_2 g_2 H1 locs hq_2 hP_2 hk_2 hS => ?_)
  obtain ⟨rfl, -⟩ := hq_2
  show W p l e room_1 s m #[Value.ref b] below meth c _ _ 100 12380 Q (F0 m 1033 ls [.int (iI (-1)), .int (iI (-1))])
  refine gi_ceq (tgt := 1081) hx hb dL_law_1033 (by decide) (by decide) (by decide) (fun c_3 => ?_) (fun c_3 => ?_)
  · exact tail _ _ hS
  · exact absurd rfl c_3
set_option maxHeartbeats 4000000 in
set_option maxRecDepth 100000 in
theorem law_case_23 (C : gC D k p s m #[Value.ref b] c code R_law) (hml : c.maxLocals = 4) (hX : va_X b 7 (fun j => iI (X j)) s s.heap) (hXr : ∀ j, inR (X j)) (hbl : b < s.heap.size) (hPx : gWd D (rwW k ad) rv0 gz gz H) (hDx : rwD Ax k ad) (hDm : mdD Am k bd) (hAx : ∀ q : Nat, Ax q → s.heap.size ≤ q) (hAm : ∀ q : Nat, Am q → s.heap.size ≤ q) (hkeep : ∀ H1 : Heap, (∀ q : Nat, q < H.size → ¬ Ax q → H1[q]? = H[q]?) → gWd D (mdW k bd) mv0 gz gz H1) (hS : va_S (fun q : Nat => s.heap.size ≤ q) s.heap H locs) (hl : lv_has ls 4 [(3, .int (iI 0)), (2, .ref (bd 0)), (1, .ref (ad 0)), (0, .ref b)]) (tail : ∀ (H : Heap) (locs : List Loc), va_S (fun q : Nat => s.heap.size ≤ q) s.heap H locs → W p l e room_1 s m #[Value.ref b] below meth c H locs 100 12380 Q (F0 m 1081 ls [])) : W p l e room_1 s m #[Value.ref b] below meth c H locs 100 12380 Q (F0 m 1038 ls []) := by
  have hx := C.1
  have hb := C.2.1
  have hbA : ¬ (fun q : Nat => s.heap.size ≤ q) b := Nat.not_le.mpr hbl
  have hX1 := hXr 1
  have hX2 := hXr 2
  have hX3 := hXr 3
  have hX4 := hXr 4
  have hX5 := hXr 5
  have hX6 := hXr 6
  refine lv_aload_n hx hb dL_law_1038 rfl (lv_at hl 2 rfl) ?_
  refine lv_aload_n hx hb dL_law_1039 rfl (lv_at hl 3 rfl) ?_
  refine lv_iload_n hx hb dL_law_1040 rfl (lv_at hl 0 rfl) ?_
  refine lv_iconst (v := iI 1) hx hb dL_law_1041 rfl ?_
  refine gi_add (z := 1) hx hb dL_law_1042 (by decide) ?_
  refine g_sld (i := 1) C hX hbl hbA hS (by decide) (by decide) rfl dL_law_1043 ?_
  refine lv_aload_n hx hb dL_law_1044 rfl (lv_at hl 3 rfl) ?_
  refine lv_iload_n hx hb dL_law_1045 rfl (lv_at hl 0 rfl) ?_
  refine lv_iconst (v := iI 2) hx hb dL_law_1046 rfl ?_
  refine gi_add (z := 2) hx hb dL_law_1047 (by decide) ?_
  refine g_sld (i := 2) C hX hbl hbA hS (by decide) (by decide) rfl dL_law_1048 ?_
  refine lv_aload_n hx hb dL_law_1049 rfl (lv_at hl 3 rfl) ?_
  refine lv_iload_n hx hb dL_law_1050 rfl (lv_at hl 0 rfl) ?_
  refine lv_iconst (v := iI 3) hx hb dL_law_1051 rfl ?_
  refine gi_add (z := 3) hx hb dL_law_1052 (by decide) ?_
  refine g_sld (i := 3) C hX hbl hbA hS (by decide) (by decide) rfl dL_law_1053 ?_
  refine g_cv (As := [.int (iI (X 1)), .int (iI (X 2)), .int (iI (X 3))]) (rest := []) (n := 3) C hml (c_X10_choose l D k Ax ad hDx rv0 gz gz (X 1) (X 2) (X 3) (by omega) (by omega) (by omega) rfl rfl rfl rfl rfl rfl rfl rfl rfl (fun _ => rfl)) mM_L_115 mI_X10_choose mE_X10_choose mN_X10 mC_X10_choose (by decide +kernel) 0 (ci := 10) rfl rfl hPx hS hAx ⟨Nat.le_of_ble_eq_true rfl, Nat.le_of_ble_eq_true rfl⟩ ⟨Nat.le_of_ble_eq_true rfl, Nat.le_of_ble_eq_true rfl⟩ hl.1 rfl rfl (Nat.le_of_ble_eq_true rfl) dL_law_1054 (fun r_1 v_1 f_1 g_1 H1 locs hq_1 hP_1 hk_1 hS => ?_)
  obtain ⟨rfl, -⟩ := hq_1
  show W p l e room_1 s m #[Value.ref b] below meth c _ _ 100 12380 Q (F0 m 1057 ls [.int (iI (-1))])
  have hPm := hkeep H1 hk_1
  refine lv_aload_n hx hb dL_law_1057 rfl (lv_at hl 1 rfl) ?_
  refine lv_aload_n hx hb dL_law_1058 rfl (lv_at hl 3 rfl) ?_
  refine lv_iload_n hx hb dL_law_1059 rfl (lv_at hl 0 rfl) ?_
  refine lv_iconst (v := iI 1) hx hb dL_law_1060 rfl ?_
  refine gi_add (z := 1) hx hb dL_law_1061 (by decide) ?_
  refine g_sld (i := 1) C hX hbl hbA hS (by decide) (by decide) rfl dL_law_1062 ?_
  refine lv_aload_n hx hb dL_law_1063 rfl (lv_at hl 3 rfl) ?_
  refine lv_iload_n hx hb dL_law_1064 rfl (lv_at hl 0 rfl) ?_
  refine lv_iconst (v := iI 2) hx hb dL_law_1065 rfl ?_
  refine gi_add (z := 2) hx hb dL_law_1066 (by decide) ?_
  refine g_sld (i := 2) C hX hbl hbA hS (by decide) (by decide) rfl dL_law_1067 ?_
  refine lv_aload_n hx hb dL_law_1068 rfl (lv_at hl 3 rfl) ?_
  refine lv_iload_n hx hb dL_law_1069 rfl (lv_at hl 0 rfl) ?_
  refine lv_iconst (v := iI 3) hx hb dL_law_1070 rfl ?_
  refine gi_add (z := 3) hx hb dL_law_1071 (by decide) ?_
  refine g_sld (i := 3) C hX hbl hbA hS (by decide) (by decide) rfl dL_law_1072 ?_
  refine g_cv (As := [.int (iI (X 1)), .int (iI (X 2)), .int (iI (X 3))]) (rest := [.int (iI (-1))]) (n := 3) C hml (m_choose l D k Am bd hDm mv0 gz gz (X 1) (X 2) (X 3) (by omega) (by omega) (by omega) rfl rfl rfl rfl rfl rfl rfl rfl rfl) mM_L_118 mI_X11_choose mE_X11_choose mN_X11 mC_X11_choose (by decide +kernel) 0 (ci := 11) rfl rfl hPm hS hAm ⟨Nat.le_of_ble_eq_true rfl, Nat.le_of_ble_eq_true rfl⟩ ⟨Nat.le_of_ble_eq_true rfl, Nat.le_of_ble_eq_true rfl⟩ hl.1 rfl rfl (Nat.le_of_ble_eq_true rfl) dL_law_1073 (fun r_2 v_2 f_2 g_2 H1 locs hq_2 hP_2 hk_2 hS => ?_)
  obtain ⟨rfl, -⟩ := hq_2
  show W p l e room_1 s m #[Value.ref b] below meth c _ _ 100 12380 Q (F0 m 1076 ls [.int (iI (-1)), .int (iI (-1))])
  refine gi_ceq (tgt := 1081) hx hb dL_law_1076 (by decide) (by decide) (by decide) (fun c_3 => ?_) (fun c_3 => ?_)
  · exact tail _ _ hS
  · exact absurd rfl c_3
end GLaw
