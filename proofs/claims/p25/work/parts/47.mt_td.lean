section
theorem dG_dX11_readFactor_0 : (decode cX11_readFactor 0 = .ok (.aload_n 0, 1)) ∧ (decode cX11_readFactor 1 = .ok (.invokevirtual 283, 3)) ∧ (decode cX11_readFactor 4 = .ok (.istore_n 1, 1)) ∧ (decode cX11_readFactor 5 = .ok (.aload_n 0, 1)) ∧ (decode cX11_readFactor 6 = .ok (.getfield 165, 3)) ∧ (decode cX11_readFactor 9 = .ok (.iconst 2, 1)) ∧ (decode cX11_readFactor 10 = .ok (.if_icmp .eq 7, 3)) ∧ (decode cX11_readFactor 13 = .ok (.iload_n 1, 1)) ∧ (decode cX11_readFactor 14 = .ok (.ifCond .le 55, 3)) ∧ (decode cX11_readFactor 17 = .ok (.aload_n 0, 1)) ∧ (decode cX11_readFactor 18 = .ok (.invokevirtual 271, 3)) ∧ (decode cX11_readFactor 21 = .ok (.aload_n 0, 1)) := by decide +kernel
theorem dX11_readFactor_0 : decode cX11_readFactor 0 = .ok (.aload_n 0, 1) := dG_dX11_readFactor_0.1
theorem dX11_readFactor_1 : decode cX11_readFactor 1 = .ok (.invokevirtual 283, 3) := dG_dX11_readFactor_0.2.1
theorem dX11_readFactor_4 : decode cX11_readFactor 4 = .ok (.istore_n 1, 1) := dG_dX11_readFactor_0.2.2.1
theorem dX11_readFactor_5 : decode cX11_readFactor 5 = .ok (.aload_n 0, 1) := dG_dX11_readFactor_0.2.2.2.1
theorem dX11_readFactor_6 : decode cX11_readFactor 6 = .ok (.getfield 165, 3) := dG_dX11_readFactor_0.2.2.2.2.1
theorem dX11_readFactor_9 : decode cX11_readFactor 9 = .ok (.iconst 2, 1) := dG_dX11_readFactor_0.2.2.2.2.2.1
theorem dX11_readFactor_10 : decode cX11_readFactor 10 = .ok (.if_icmp .eq 7, 3) := dG_dX11_readFactor_0.2.2.2.2.2.2.1
theorem dX11_readFactor_13 : decode cX11_readFactor 13 = .ok (.iload_n 1, 1) := dG_dX11_readFactor_0.2.2.2.2.2.2.2.1
theorem dX11_readFactor_14 : decode cX11_readFactor 14 = .ok (.ifCond .le 55, 3) := dG_dX11_readFactor_0.2.2.2.2.2.2.2.2.1
theorem dX11_readFactor_17 : decode cX11_readFactor 17 = .ok (.aload_n 0, 1) := dG_dX11_readFactor_0.2.2.2.2.2.2.2.2.2.1
theorem dX11_readFactor_18 : decode cX11_readFactor 18 = .ok (.invokevirtual 271, 3) := dG_dX11_readFactor_0.2.2.2.2.2.2.2.2.2.2.1
theorem dX11_readFactor_21 : decode cX11_readFactor 21 = .ok (.aload_n 0, 1) := dG_dX11_readFactor_0.2.2.2.2.2.2.2.2.2.2.2
theorem dG_dX11_readFactor_22 : (decode cX11_readFactor 22 = .ok (.getfield 188, 3)) ∧ (decode cX11_readFactor 25 = .ok (.ifCond .le 5, 3)) ∧ (decode cX11_readFactor 28 = .ok (.iconst 0, 1)) ∧ (decode cX11_readFactor 29 = .ok (.ireturn, 1)) ∧ (decode cX11_readFactor 30 = .ok (.aload_n 0, 1)) ∧ (decode cX11_readFactor 31 = .ok (.aload_n 0, 1)) ∧ (decode cX11_readFactor 32 = .ok (.getfield 165, 3)) ∧ (decode cX11_readFactor 35 = .ok (.iconst 2, 1)) ∧ (decode cX11_readFactor 36 = .ok (.if_icmp .ne 7, 3)) ∧ (decode cX11_readFactor 39 = .ok (.iconst 0, 1)) ∧ (decode cX11_readFactor 40 = .ok (.goto 4, 3)) ∧ (decode cX11_readFactor 43 = .ok (.iload_n 1, 1)) := by decide +kernel
theorem dX11_readFactor_22 : decode cX11_readFactor 22 = .ok (.getfield 188, 3) := dG_dX11_readFactor_22.1
theorem dX11_readFactor_25 : decode cX11_readFactor 25 = .ok (.ifCond .le 5, 3) := dG_dX11_readFactor_22.2.1
theorem dX11_readFactor_28 : decode cX11_readFactor 28 = .ok (.iconst 0, 1) := dG_dX11_readFactor_22.2.2.1
theorem dX11_readFactor_29 : decode cX11_readFactor 29 = .ok (.ireturn, 1) := dG_dX11_readFactor_22.2.2.2.1
theorem dX11_readFactor_30 : decode cX11_readFactor 30 = .ok (.aload_n 0, 1) := dG_dX11_readFactor_22.2.2.2.2.1
theorem dX11_readFactor_31 : decode cX11_readFactor 31 = .ok (.aload_n 0, 1) := dG_dX11_readFactor_22.2.2.2.2.2.1
theorem dX11_readFactor_32 : decode cX11_readFactor 32 = .ok (.getfield 165, 3) := dG_dX11_readFactor_22.2.2.2.2.2.2.1
theorem dX11_readFactor_35 : decode cX11_readFactor 35 = .ok (.iconst 2, 1) := dG_dX11_readFactor_22.2.2.2.2.2.2.2.1
theorem dX11_readFactor_36 : decode cX11_readFactor 36 = .ok (.if_icmp .ne 7, 3) := dG_dX11_readFactor_22.2.2.2.2.2.2.2.2.1
theorem dX11_readFactor_39 : decode cX11_readFactor 39 = .ok (.iconst 0, 1) := dG_dX11_readFactor_22.2.2.2.2.2.2.2.2.2.1
theorem dX11_readFactor_40 : decode cX11_readFactor 40 = .ok (.goto 4, 3) := dG_dX11_readFactor_22.2.2.2.2.2.2.2.2.2.2.1
theorem dX11_readFactor_43 : decode cX11_readFactor 43 = .ok (.iload_n 1, 1) := dG_dX11_readFactor_22.2.2.2.2.2.2.2.2.2.2.2
theorem dG_dX11_readFactor_44 : (decode cX11_readFactor 44 = .ok (.aload_n 0, 1)) ∧ (decode cX11_readFactor 45 = .ok (.getfield 165, 3)) ∧ (decode cX11_readFactor 48 = .ok (.iconst 2, 1)) ∧ (decode cX11_readFactor 49 = .ok (.if_icmp .ne 10, 3)) ∧ (decode cX11_readFactor 52 = .ok (.aload_n 0, 1)) ∧ (decode cX11_readFactor 53 = .ok (.getfield 185, 3)) ∧ (decode cX11_readFactor 56 = .ok (.goto 4, 3)) ∧ (decode cX11_readFactor 59 = .ok (.iconst 0, 1)) ∧ (decode cX11_readFactor 60 = .ok (.invokevirtual 261, 3)) ∧ (decode cX11_readFactor 63 = .ok (.aload_n 0, 1)) ∧ (decode cX11_readFactor 64 = .ok (.invokevirtual 201, 3)) ∧ (decode cX11_readFactor 67 = .ok (.iconst 1, 1)) := by decide +kernel
theorem dX11_readFactor_44 : decode cX11_readFactor 44 = .ok (.aload_n 0, 1) := dG_dX11_readFactor_44.1
theorem dX11_readFactor_45 : decode cX11_readFactor 45 = .ok (.getfield 165, 3) := dG_dX11_readFactor_44.2.1
theorem dX11_readFactor_48 : decode cX11_readFactor 48 = .ok (.iconst 2, 1) := dG_dX11_readFactor_44.2.2.1
theorem dX11_readFactor_49 : decode cX11_readFactor 49 = .ok (.if_icmp .ne 10, 3) := dG_dX11_readFactor_44.2.2.2.1
theorem dX11_readFactor_52 : decode cX11_readFactor 52 = .ok (.aload_n 0, 1) := dG_dX11_readFactor_44.2.2.2.2.1
theorem dX11_readFactor_53 : decode cX11_readFactor 53 = .ok (.getfield 185, 3) := dG_dX11_readFactor_44.2.2.2.2.2.1
theorem dX11_readFactor_56 : decode cX11_readFactor 56 = .ok (.goto 4, 3) := dG_dX11_readFactor_44.2.2.2.2.2.2.1
theorem dX11_readFactor_59 : decode cX11_readFactor 59 = .ok (.iconst 0, 1) := dG_dX11_readFactor_44.2.2.2.2.2.2.2.1
theorem dX11_readFactor_60 : decode cX11_readFactor 60 = .ok (.invokevirtual 261, 3) := dG_dX11_readFactor_44.2.2.2.2.2.2.2.2.1
theorem dX11_readFactor_63 : decode cX11_readFactor 63 = .ok (.aload_n 0, 1) := dG_dX11_readFactor_44.2.2.2.2.2.2.2.2.2.1
theorem dX11_readFactor_64 : decode cX11_readFactor 64 = .ok (.invokevirtual 201, 3) := dG_dX11_readFactor_44.2.2.2.2.2.2.2.2.2.2.1
theorem dX11_readFactor_67 : decode cX11_readFactor 67 = .ok (.iconst 1, 1) := dG_dX11_readFactor_44.2.2.2.2.2.2.2.2.2.2.2
theorem dG_dX11_readFactor_68 : (decode cX11_readFactor 68 = .ok (.ireturn, 1)) ∧ (decode cX11_readFactor 69 = .ok (.aload_n 0, 1)) ∧ (decode cX11_readFactor 70 = .ok (.bipush 45, 2)) ∧ (decode cX11_readFactor 72 = .ok (.invokevirtual 204, 3)) ∧ (decode cX11_readFactor 75 = .ok (.ifCond .eq 33, 3)) ∧ (decode cX11_readFactor 78 = .ok (.aload_n 0, 1)) ∧ (decode cX11_readFactor 79 = .ok (.invokevirtual 271, 3)) ∧ (decode cX11_readFactor 82 = .ok (.aload_n 0, 1)) ∧ (decode cX11_readFactor 83 = .ok (.invokevirtual 286, 3)) ∧ (decode cX11_readFactor 86 = .ok (.aload_n 0, 1)) ∧ (decode cX11_readFactor 87 = .ok (.getfield 188, 3)) ∧ (decode cX11_readFactor 90 = .ok (.ifCond .le 5, 3)) := by decide +kernel
theorem dX11_readFactor_68 : decode cX11_readFactor 68 = .ok (.ireturn, 1) := dG_dX11_readFactor_68.1
theorem dX11_readFactor_69 : decode cX11_readFactor 69 = .ok (.aload_n 0, 1) := dG_dX11_readFactor_68.2.1
theorem dX11_readFactor_70 : decode cX11_readFactor 70 = .ok (.bipush 45, 2) := dG_dX11_readFactor_68.2.2.1
theorem dX11_readFactor_72 : decode cX11_readFactor 72 = .ok (.invokevirtual 204, 3) := dG_dX11_readFactor_68.2.2.2.1
theorem dX11_readFactor_75 : decode cX11_readFactor 75 = .ok (.ifCond .eq 33, 3) := dG_dX11_readFactor_68.2.2.2.2.1
theorem dX11_readFactor_78 : decode cX11_readFactor 78 = .ok (.aload_n 0, 1) := dG_dX11_readFactor_68.2.2.2.2.2.1
theorem dX11_readFactor_79 : decode cX11_readFactor 79 = .ok (.invokevirtual 271, 3) := dG_dX11_readFactor_68.2.2.2.2.2.2.1
theorem dX11_readFactor_82 : decode cX11_readFactor 82 = .ok (.aload_n 0, 1) := dG_dX11_readFactor_68.2.2.2.2.2.2.2.1
theorem dX11_readFactor_83 : decode cX11_readFactor 83 = .ok (.invokevirtual 286, 3) := dG_dX11_readFactor_68.2.2.2.2.2.2.2.2.1
theorem dX11_readFactor_86 : decode cX11_readFactor 86 = .ok (.aload_n 0, 1) := dG_dX11_readFactor_68.2.2.2.2.2.2.2.2.2.1
theorem dX11_readFactor_87 : decode cX11_readFactor 87 = .ok (.getfield 188, 3) := dG_dX11_readFactor_68.2.2.2.2.2.2.2.2.2.2.1
theorem dX11_readFactor_90 : decode cX11_readFactor 90 = .ok (.ifCond .le 5, 3) := dG_dX11_readFactor_68.2.2.2.2.2.2.2.2.2.2.2
theorem dG_dX11_readFactor_93 : (decode cX11_readFactor 93 = .ok (.iconst 0, 1)) ∧ (decode cX11_readFactor 94 = .ok (.ireturn, 1)) ∧ (decode cX11_readFactor 95 = .ok (.aload_n 0, 1)) ∧ (decode cX11_readFactor 96 = .ok (.bipush 10, 2)) ∧ (decode cX11_readFactor 98 = .ok (.invokevirtual 277, 3)) ∧ (decode cX11_readFactor 101 = .ok (.aload_n 0, 1)) ∧ (decode cX11_readFactor 102 = .ok (.invokevirtual 201, 3)) ∧ (decode cX11_readFactor 105 = .ok (.goto 42, 3)) ∧ (decode cX11_readFactor 108 = .ok (.aload_n 0, 1)) ∧ (decode cX11_readFactor 109 = .ok (.bipush 40, 2)) ∧ (decode cX11_readFactor 111 = .ok (.invokevirtual 204, 3)) ∧ (decode cX11_readFactor 114 = .ok (.ifCond .eq 29, 3)) := by decide +kernel
theorem dX11_readFactor_93 : decode cX11_readFactor 93 = .ok (.iconst 0, 1) := dG_dX11_readFactor_93.1
theorem dX11_readFactor_94 : decode cX11_readFactor 94 = .ok (.ireturn, 1) := dG_dX11_readFactor_93.2.1
theorem dX11_readFactor_95 : decode cX11_readFactor 95 = .ok (.aload_n 0, 1) := dG_dX11_readFactor_93.2.2.1
theorem dX11_readFactor_96 : decode cX11_readFactor 96 = .ok (.bipush 10, 2) := dG_dX11_readFactor_93.2.2.2.1
theorem dX11_readFactor_98 : decode cX11_readFactor 98 = .ok (.invokevirtual 277, 3) := dG_dX11_readFactor_93.2.2.2.2.1
theorem dX11_readFactor_101 : decode cX11_readFactor 101 = .ok (.aload_n 0, 1) := dG_dX11_readFactor_93.2.2.2.2.2.1
theorem dX11_readFactor_102 : decode cX11_readFactor 102 = .ok (.invokevirtual 201, 3) := dG_dX11_readFactor_93.2.2.2.2.2.2.1
theorem dX11_readFactor_105 : decode cX11_readFactor 105 = .ok (.goto 42, 3) := dG_dX11_readFactor_93.2.2.2.2.2.2.2.1
theorem dX11_readFactor_108 : decode cX11_readFactor 108 = .ok (.aload_n 0, 1) := dG_dX11_readFactor_93.2.2.2.2.2.2.2.2.1
theorem dX11_readFactor_109 : decode cX11_readFactor 109 = .ok (.bipush 40, 2) := dG_dX11_readFactor_93.2.2.2.2.2.2.2.2.2.1
theorem dX11_readFactor_111 : decode cX11_readFactor 111 = .ok (.invokevirtual 204, 3) := dG_dX11_readFactor_93.2.2.2.2.2.2.2.2.2.2.1
theorem dX11_readFactor_114 : decode cX11_readFactor 114 = .ok (.ifCond .eq 29, 3) := dG_dX11_readFactor_93.2.2.2.2.2.2.2.2.2.2.2
theorem dG_dX11_readFactor_117 : (decode cX11_readFactor 117 = .ok (.aload_n 0, 1)) ∧ (decode cX11_readFactor 118 = .ok (.invokevirtual 286, 3)) ∧ (decode cX11_readFactor 121 = .ok (.aload_n 0, 1)) ∧ (decode cX11_readFactor 122 = .ok (.getfield 188, 3)) ∧ (decode cX11_readFactor 125 = .ok (.ifCond .le 5, 3)) ∧ (decode cX11_readFactor 128 = .ok (.iconst 0, 1)) ∧ (decode cX11_readFactor 129 = .ok (.ireturn, 1)) ∧ (decode cX11_readFactor 130 = .ok (.aload_n 0, 1)) ∧ (decode cX11_readFactor 131 = .ok (.bipush 11, 2)) ∧ (decode cX11_readFactor 133 = .ok (.invokevirtual 277, 3)) ∧ (decode cX11_readFactor 136 = .ok (.aload_n 0, 1)) ∧ (decode cX11_readFactor 137 = .ok (.invokevirtual 201, 3)) := by decide +kernel
theorem dX11_readFactor_117 : decode cX11_readFactor 117 = .ok (.aload_n 0, 1) := dG_dX11_readFactor_117.1
theorem dX11_readFactor_118 : decode cX11_readFactor 118 = .ok (.invokevirtual 286, 3) := dG_dX11_readFactor_117.2.1
theorem dX11_readFactor_121 : decode cX11_readFactor 121 = .ok (.aload_n 0, 1) := dG_dX11_readFactor_117.2.2.1
theorem dX11_readFactor_122 : decode cX11_readFactor 122 = .ok (.getfield 188, 3) := dG_dX11_readFactor_117.2.2.2.1
theorem dX11_readFactor_125 : decode cX11_readFactor 125 = .ok (.ifCond .le 5, 3) := dG_dX11_readFactor_117.2.2.2.2.1
theorem dX11_readFactor_128 : decode cX11_readFactor 128 = .ok (.iconst 0, 1) := dG_dX11_readFactor_117.2.2.2.2.2.1
theorem dX11_readFactor_129 : decode cX11_readFactor 129 = .ok (.ireturn, 1) := dG_dX11_readFactor_117.2.2.2.2.2.2.1
theorem dX11_readFactor_130 : decode cX11_readFactor 130 = .ok (.aload_n 0, 1) := dG_dX11_readFactor_117.2.2.2.2.2.2.2.1
theorem dX11_readFactor_131 : decode cX11_readFactor 131 = .ok (.bipush 11, 2) := dG_dX11_readFactor_117.2.2.2.2.2.2.2.2.1
theorem dX11_readFactor_133 : decode cX11_readFactor 133 = .ok (.invokevirtual 277, 3) := dG_dX11_readFactor_117.2.2.2.2.2.2.2.2.2.1
theorem dX11_readFactor_136 : decode cX11_readFactor 136 = .ok (.aload_n 0, 1) := dG_dX11_readFactor_117.2.2.2.2.2.2.2.2.2.2.1
theorem dX11_readFactor_137 : decode cX11_readFactor 137 = .ok (.invokevirtual 201, 3) := dG_dX11_readFactor_117.2.2.2.2.2.2.2.2.2.2.2
theorem dG_dX11_readFactor_140 : (decode cX11_readFactor 140 = .ok (.goto 7, 3)) ∧ (decode cX11_readFactor 143 = .ok (.aload_n 0, 1)) ∧ (decode cX11_readFactor 144 = .ok (.invokevirtual 198, 3)) ∧ (decode cX11_readFactor 147 = .ok (.iconst 0, 1)) ∧ (decode cX11_readFactor 148 = .ok (.ireturn, 1)) := by decide +kernel
theorem dX11_readFactor_140 : decode cX11_readFactor 140 = .ok (.goto 7, 3) := dG_dX11_readFactor_140.1
theorem dX11_readFactor_143 : decode cX11_readFactor 143 = .ok (.aload_n 0, 1) := dG_dX11_readFactor_140.2.1
theorem dX11_readFactor_144 : decode cX11_readFactor 144 = .ok (.invokevirtual 198, 3) := dG_dX11_readFactor_140.2.2.1
theorem dX11_readFactor_147 : decode cX11_readFactor 147 = .ok (.iconst 0, 1) := dG_dX11_readFactor_140.2.2.2.1
theorem dX11_readFactor_148 : decode cX11_readFactor 148 = .ok (.ireturn, 1) := dG_dX11_readFactor_140.2.2.2.2
end

section
set_option maxHeartbeats 4000000 in
set_option maxRecDepth 100000 in
theorem n_readFactor (l : Launch) (D : va_G) (k : Nat → ClassId) (A : Nat → Prop) (ad : Nat → Nat) (hD : mdD A k ad) (v : gV) (f g : gF) (B : Int → Int) (pp : Int) (SS : List Int) (EE : List (Int × Int)) (hB : ∀ k, (f 0) k % 256 = B k) (hc : mAt B (v 3) (v 9) (v 10) (v 8) (v 11) ((g 0) 0) pp) (hb0 : (v 6) = 0) (hX : xM 0 SS EE (f 17) (v 20) (f 11) (f 12) (v 16) (v 21) (v 27) 0) : GM l D k A (mdT k ad) yX11_readFactor cX11_readFactor 2 (some .boolean) 2 48 [.ref (ad 0)] v f g (fun r v1 f1 g1 => ∃ (z : Int) (w6 : Int) (w7 : Int) (w8 : Int) (w9 : Int) (w10 : Int) (w11 : Int) (w16 : Int) (w20 : Int) (w21 : Int) (w27 : Int) (a11_ : Int → Int) (a12_ : Int → Int) (a17_ : Int → Int) (b0_ : Int → Int), r = some (.int (iI z)) ∧ (va_up (va_up (va_up (va_up (va_up (va_up (va_up (va_up (va_up (va_up v 6 w6) 7 w7) 8 w8) 9 w9) 10 w10) 11 w11) 16 w16) 20 w20) 21 w21) 27 w27) = v1 ∧ (va_up (va_up (va_up f 11 a11_) 12 a12_) 17 a17_) = f1 ∧ (va_up g 0 b0_) = g1 ∧ (0 ≤ z ∧ z ≤ 1) ∧ ((w6 = 0 ∧ ((tK B (v 3) pp) ≠ 256 ∧ (tK B (v 3) pp) ≠ 257) ∧ mAt B (v 3) w9 w10 w8 w11 (b0_ 0) (tX B (v 3) pp) ∧ ((z = 1 ∧ ∃ cx vx, xM 0 SS ((cx, vx) :: EE) a17_ w20 a11_ a12_ w16 w21 w27 1 ∧ ∀ k : Nat, exF B (v 3) (k + 1) pp 0 SS EE = exF B (v 3) k (tX B (v 3) pp) 1 (rlN SS ((cx, vx) :: EE)).1 (rlN SS ((cx, vx) :: EE)).2) ∨ (z = 0 ∧ ∃ Sx, xM 0 Sx EE a17_ w20 a11_ a12_ w16 w21 w27 0 ∧ ∀ k : Nat, exF B (v 3) (k + 1) pp 0 SS EE = exF B (v 3) k (tX B (v 3) pp) 0 Sx EE))) ∨ (w6 ≠ 0 ∧ w7 = pp ∧ mAt B (v 3) w9 w10 w8 w11 (b0_ 0) pp ∧ ∀ k : Nat, exF B (v 3) (k + 1) pp 0 SS EE = (w6, pp, EE)))) := by
  refine GM.of (by decide) (Nat.le_of_ble_eq_true rfl) ?_
  intro p e s m args below meth c Q ls hQ C hml hr hlocks hP hl
  have hx := C.1
  have hb := C.2.1
  have hok := hP.2
  have hS : va_S A s.heap s.heap [] := va_S.rf
  have hl : lv_has ls 2 [(0, .ref (ad 0))] := hl
  have hP : gWd D (mdT k ad) (va_up (va_up (va_up (va_up (va_up (va_up (va_up (va_up (va_up (va_up v 6 (v 6)) 7 (v 7)) 8 (v 8)) 9 (v 9)) 10 (v 10)) 11 (v 11)) 16 (v 16)) 20 (v 20)) 21 (v 21)) 27 (v 27)) (va_up (va_up (va_up f 11 (f 11)) 12 (f 12)) 17 (f 17)) (va_up g 0 (g 0)) s.heap := by rw [va_id, va_id, va_id, va_id, va_id, va_id, va_id, va_id, va_id, va_id, va_id, va_id, va_id, va_id]; exact hP
  have hq := hc.of
  have hle := hc.le
  have hfk := fk_rng B (v 3) pp
  have hxr := xM_rng hX
  have htv := tV_rng B (v 3) pp
  have r_1 : 0 ≤ (v 9) ∧ (v 9) ≤ 700 := hok.1 9
  have r_2 : 0 ≤ (v 10) ∧ (v 10) ≤ 700 := hok.1 10
  have r_3 : 0 ≤ (v 3) ∧ (v 3) ≤ 700 := hok.1 3
  have r_4 : 0 ≤ (v 8) ∧ (v 8) ≤ 4 := hok.1 8
  have r_5 : 0 ≤ (v 6) ∧ (v 6) ≤ 5 := hok.1 6
  have r_6 : 0 ≤ (v 16) ∧ (v 16) ≤ 41 := hok.1 16
  have r_7 : 0 ≤ (v 20) ∧ (v 20) ≤ 64 := hok.1 20
  have r_8 : 0 ≤ (v 21) ∧ (v 21) ≤ 9 := hok.1 21
  have r_9 : 0 ≤ (v 27) ∧ (v 27) ≤ 41 := hok.1 27
  refine lv_aload_n hx hb dX11_readFactor_0 rfl (lv_at hl 0 rfl) ?_
  refine g_cv (As := []) (rest := []) (n := 0) C hml (n_nameOf l D k A ad hD (va_up (va_up (va_up (va_up (va_up (va_up (va_up (va_up (va_up (va_up v 6 (v 6)) 7 (v 7)) 8 (v 8)) 9 (v 9)) 10 (v 10)) 11 (v 11)) 16 (v 16)) 20 (v 20)) 21 (v 21)) 27 (v 27)) (va_up (va_up (va_up f 11 (f 11)) 12 (f 12)) 17 (f 17)) (va_up g 0 (g 0)) B pp (show mAt B (v 3) (v 9) (v 10) (v 8) (v 11) ((g 0) 0) pp from hc)) mM_X11_283 mI_X11_nameOf mE_X11_nameOf mN_X11 mC_X11_nameOf (by decide +kernel) 0 (ci := 11) rfl rfl hP hS (fun _ h => h) ⟨Nat.le_of_ble_eq_true rfl, Nat.le_of_ble_eq_true rfl⟩ ⟨Nat.zero_le _, Nat.zero_le _⟩ hl.1 rfl rfl (Nat.le_of_ble_eq_true rfl) dX11_readFactor_1 (fun r_10 v_10 f_10 g_10 H locs hq_10 hP _ hS => ?_)
  obtain ⟨z_10, rfl, rfl, rfl, rfl, p0_10, p1_10, p2_10⟩ := hq_10
  show W p l e (gRm 2 48) s m args below meth c _ _ 0 0 Q (F0 m 4 ls [.int (iI z_10)])
  replace p0_10 : (-1) ≤ z_10 ∧ z_10 ≤ 6 := p0_10
  replace p1_10 : 0 < z_10 ↔ (272 ≤ (tK B (v 3) pp) ∧ (tK B (v 3) pp) ≤ 277) := p1_10
  replace p2_10 : 0 < z_10 → z_10 = (tK B (v 3) pp) - 271 := p2_10
  have hna := p1_10
  have hnb := p2_10
  refine lv_istore_n (lv' := [(1, .int (iI z_10)), (0, .ref (ad 0))]) hx hb dX11_readFactor_4 rfl hl (by decide) rfl (fun ls hl => ?_)
  refine lv_aload_n hx hb dX11_readFactor_5 rfl (lv_at hl 1 rfl) ?_
  refine mdG_sort C hP mF_X11_165 dX11_readFactor_6 ?_
  show W p l e (gRm 2 48) s m args below meth c _ _ 0 0 Q (F0 m 9 ls [.int (iI (v 8))])
  refine lv_iconst (v := iI 2) hx hb dX11_readFactor_9 rfl ?_
  refine gi_ceq (tgt := 17) hx hb dX11_readFactor_10 (by decide) (by omega) (by decide) (fun c_11 => ?_) (fun c_11 => ?_)
  · refine lv_aload_n hx hb dX11_readFactor_17 rfl (lv_at hl 1 rfl) ?_
    refine g_cv (As := []) (rest := []) (n := 0) C hml (n_counts l D k A ad hD (va_up (va_up (va_up (va_up (va_up (va_up (va_up (va_up (va_up (va_up v 6 (v 6)) 7 (v 7)) 8 (v 8)) 9 (v 9)) 10 (v 10)) 11 (v 11)) 16 (v 16)) 20 (v 20)) 21 (v 21)) 27 (v 27)) (va_up (va_up (va_up f 11 (f 11)) 12 (f 12)) 17 (f 17)) (va_up g 0 (g 0)) (show (v 27) ≤ 40 from by omega)) mM_X11_271 mI_X11_counts mE_X11_counts mN_X11 mC_X11_counts (by decide +kernel) 0 (ci := 11) rfl rfl hP hS (fun _ h => h) ⟨Nat.le_of_ble_eq_true rfl, Nat.le_of_ble_eq_true rfl⟩ ⟨Nat.zero_le _, Nat.zero_le _⟩ hl.1 rfl rfl (Nat.le_of_ble_eq_true rfl) dX11_readFactor_18 (fun r_12 v_12 f_12 g_12 H locs hq_12 hP _ hS => ?_)
    obtain ⟨w6_12, w7_12, rfl, rfl, rfl, rfl, p0_12, p1_12, p2_12⟩ := hq_12
    show W p l e (gRm 2 48) s m args below meth c _ _ 0 0 Q (F0 m 21 ls [])
    have hP : gWd D (mdT k ad) (va_up (va_up (va_up (va_up (va_up (va_up (va_up (va_up (va_up (va_up v 6 w6_12) 7 w7_12) 8 (v 8)) 9 (v 9)) 10 (v 10)) 11 (v 11)) 16 (v 16)) 20 (v 20)) 21 (v 21)) 27 ((v 27) + 1)) (va_up (va_up (va_up f 11 (f 11)) 12 (f 12)) 17 (f 17)) (va_up g 0 (g 0)) H := ⟨hP.1, (gF_up (V := mdV) (F := mdF) (gF_up (V := mdV) (F := mdF) (gF_up (V := mdV) (F := mdF) (gR_up (V := mdV) (F := mdF) (gR_up (V := mdV) (F := mdF) (gR_up (V := mdV) (F := mdF) (gR_up (V := mdV) (F := mdF) (gR_up (V := mdV) (F := mdF) (gR_up (V := mdV) (F := mdF) (gR_up (V := mdV) (F := mdF) (gR_up (V := mdV) (F := mdF) (gR_up (V := mdV) (F := mdF) (gR_up (V := mdV) (F := mdF) ⟨hok.1, hok.2⟩ 6 (hP.2.1 6)) 7 (hP.2.1 7)) 8 (hP.2.1 8)) 9 (hP.2.1 9)) 10 (hP.2.1 10)) 11 (hP.2.1 11)) 16 (hP.2.1 16)) 20 (hP.2.1 20)) 21 (hP.2.1 21)) 27 (hP.2.1 27)) 11 (hP.2.2 11)) 12 (hP.2.2 12)) 17 (hP.2.2 17))⟩
    replace p0_12 : (v 27) = 40 → (v 6) = 0 → w6_12 = 3 ∧ w7_12 = (v 9) := p0_12
    replace p1_12 : (v 27) < 40 → w6_12 = (v 6) ∧ w7_12 = (v 7) := p1_12
    replace p2_12 : 0 < (v 6) → w6_12 = (v 6) ∧ w7_12 = (v 7) := p2_12
    have rw6_12 : 0 ≤ w6_12 ∧ w6_12 ≤ 5 := hP.2.1 6
    have rw7_12 : 0 ≤ w7_12 ∧ w7_12 ≤ 700 := hP.2.1 7
    refine lv_aload_n hx hb dX11_readFactor_21 rfl (lv_at hl 1 rfl) ?_
    refine mdG_bad C hP mF_X11_188 dX11_readFactor_22 ?_
    show W p l e (gRm 2 48) s m args below meth c _ _ 0 0 Q (F0 m 25 ls [.int (iI w6_12)])
    have r_13 : 0 ≤ w6_12 ∧ w6_12 ≤ 5 := hP.2.1 6
    refine gi_zle (tgt := 30) hx hb dX11_readFactor_25 (by decide) (by omega) (fun c_14 => ?_) (fun c_14 => ?_)
    · refine lv_aload_n hx hb dX11_readFactor_30 rfl (lv_at hl 1 rfl) ?_
      refine lv_aload_n hx hb dX11_readFactor_31 rfl (lv_at hl 1 rfl) ?_
      refine mdG_sort C hP mF_X11_165 dX11_readFactor_32 ?_
      show W p l e (gRm 2 48) s m args below meth c _ _ 0 0 Q (F0 m 35 ls [.int (iI (v 8)), .ref (ad 0)])
      refine lv_iconst (v := iI 2) hx hb dX11_readFactor_35 rfl ?_
      refine gi_cne (tgt := 43) hx hb dX11_readFactor_36 (by decide) (by omega) (by decide) (fun c_15 => ?_) (fun c_15 => ?_)
      · refine lv_iload_n hx hb dX11_readFactor_43 rfl (lv_at hl 0 rfl) ?_
        refine lv_aload_n hx hb dX11_readFactor_44 rfl (lv_at hl 1 rfl) ?_
        refine mdG_sort C hP mF_X11_165 dX11_readFactor_45 ?_
        show W p l e (gRm 2 48) s m args below meth c _ _ 0 0 Q (F0 m 48 ls [.int (iI (v 8)), .int (iI z_10), .ref (ad 0)])
        refine lv_iconst (v := iI 2) hx hb dX11_readFactor_48 rfl ?_
        refine gi_cne (tgt := 59) hx hb dX11_readFactor_49 (by decide) (by omega) (by decide) (fun c_16 => ?_) (fun c_16 => ?_)
        · refine lv_iconst (v := iI 0) hx hb dX11_readFactor_59 rfl ?_
          refine g_cv (As := [.int (iI z_10), .int (iI 0)]) (rest := []) (n := 2) C hml (n_puts l D k A ad hD (va_up (va_up (va_up (va_up (va_up (va_up (va_up (va_up (va_up (va_up v 6 w6_12) 7 w7_12) 8 (v 8)) 9 (v 9)) 10 (v 10)) 11 (v 11)) 16 (v 16)) 20 (v 20)) 21 (v 21)) 27 ((v 27) + 1)) (va_up (va_up (va_up f 11 (f 11)) 12 (f 12)) 17 (f 17)) (va_up g 0 (g 0)) z_10 0 (by omega) (by decide) (show (v 16) ≤ 40 from by omega) (show 0 ≤ z_10 ∧ z_10 ≤ 11 from by omega) (show 0 ≤ (0 : Int) ∧ (0 : Int) ≤ 999999 from by omega)) mM_X11_261 mI_X11_puts mE_X11_puts mN_X11 mC_X11_puts (by decide +kernel) 0 (ci := 11) rfl rfl hP hS (fun _ h => h) ⟨Nat.le_of_ble_eq_true rfl, Nat.le_of_ble_eq_true rfl⟩ ⟨Nat.zero_le _, Nat.zero_le _⟩ hl.1 rfl rfl (Nat.le_of_ble_eq_true rfl) dX11_readFactor_60 (fun r_17 v_17 f_17 g_17 H locs hq_17 hP _ hS => ?_)
          obtain ⟨rfl, rfl, rfl, rfl⟩ := hq_17
          show W p l e (gRm 2 48) s m args below meth c _ _ 0 0 Q (F0 m 63 ls [])
          have hP : gWd D (mdT k ad) (va_up (va_up (va_up (va_up (va_up (va_up (va_up (va_up (va_up (va_up v 6 w6_12) 7 w7_12) 8 (v 8)) 9 (v 9)) 10 (v 10)) 11 (v 11)) 16 ((v 16) + 1)) 20 (v 20)) 21 (v 21)) 27 ((v 27) + 1)) (va_up (va_up (va_up f 11 (u1 (f 11) (v 16) z_10)) 12 (u1 (f 12) (v 16) (0 : Int))) 17 (f 17)) (va_up g 0 (g 0)) H := ⟨hP.1, (gF_up (V := mdV) (F := mdF) (gF_up (V := mdV) (F := mdF) (gF_up (V := mdV) (F := mdF) (gR_up (V := mdV) (F := mdF) (gR_up (V := mdV) (F := mdF) (gR_up (V := mdV) (F := mdF) (gR_up (V := mdV) (F := mdF) (gR_up (V := mdV) (F := mdF) (gR_up (V := mdV) (F := mdF) (gR_up (V := mdV) (F := mdF) (gR_up (V := mdV) (F := mdF) (gR_up (V := mdV) (F := mdF) (gR_up (V := mdV) (F := mdF) ⟨hok.1, hok.2⟩ 6 (hP.2.1 6)) 7 (hP.2.1 7)) 8 (hP.2.1 8)) 9 (hP.2.1 9)) 10 (hP.2.1 10)) 11 (hP.2.1 11)) 16 (hP.2.1 16)) 20 (hP.2.1 20)) 21 (hP.2.1 21)) 27 (hP.2.1 27)) 11 (hP.2.2 11)) 12 (hP.2.2 12)) 17 (hP.2.2 17))⟩
          refine lv_aload_n hx hb dX11_readFactor_63 rfl (lv_at hl 1 rfl) ?_
          refine g_cv (As := []) (rest := []) (n := 0) C hml (n_next l D k A ad hD (va_up (va_up (va_up (va_up (va_up (va_up (va_up (va_up (va_up (va_up v 6 w6_12) 7 w7_12) 8 (v 8)) 9 (v 9)) 10 (v 10)) 11 (v 11)) 16 ((v 16) + 1)) 20 (v 20)) 21 (v 21)) 27 ((v 27) + 1)) (va_up (va_up (va_up f 11 (u1 (f 11) (v 16) z_10)) 12 (u1 (f 12) (v 16) (0 : Int))) 17 (f 17)) (va_up g 0 (g 0)) B (show ∀ k, (f 0) k % 256 = B k from hB) (show 0 ≤ (v 10) ∧ (v 10) ≤ (v 3) from by omega)) mM_X11_201 mI_X11_next mE_X11_next mN_X11 mC_X11_next (by decide +kernel) 0 (ci := 11) rfl rfl hP hS (fun _ h => h) ⟨Nat.le_of_ble_eq_true rfl, Nat.le_of_ble_eq_true rfl⟩ ⟨Nat.zero_le _, Nat.zero_le _⟩ hl.1 rfl rfl (Nat.le_of_ble_eq_true rfl) dX11_readFactor_64 (fun r_18 v_18 f_18 g_18 H locs hq_18 hP _ hS => ?_)
          obtain ⟨w8_18, w9_18, w10_18, w11_18, b0_18, rfl, rfl, rfl, rfl, p0_18⟩ := hq_18
          show W p l e (gRm 2 48) s m args below meth c _ _ 0 0 Q (F0 m 67 ls [])
          have hP : gWd D (mdT k ad) (va_up (va_up (va_up (va_up (va_up (va_up (va_up (va_up (va_up (va_up v 6 w6_12) 7 w7_12) 8 w8_18) 9 w9_18) 10 w10_18) 11 w11_18) 16 ((v 16) + 1)) 20 (v 20)) 21 (v 21)) 27 ((v 27) + 1)) (va_up (va_up (va_up f 11 (u1 (f 11) (v 16) z_10)) 12 (u1 (f 12) (v 16) (0 : Int))) 17 (f 17)) (va_up g 0 b0_18) H := ⟨hP.1, (gF_up (V := mdV) (F := mdF) (gF_up (V := mdV) (F := mdF) (gF_up (V := mdV) (F := mdF) (gR_up (V := mdV) (F := mdF) (gR_up (V := mdV) (F := mdF) (gR_up (V := mdV) (F := mdF) (gR_up (V := mdV) (F := mdF) (gR_up (V := mdV) (F := mdF) (gR_up (V := mdV) (F := mdF) (gR_up (V := mdV) (F := mdF) (gR_up (V := mdV) (F := mdF) (gR_up (V := mdV) (F := mdF) (gR_up (V := mdV) (F := mdF) ⟨hok.1, hok.2⟩ 6 (hP.2.1 6)) 7 (hP.2.1 7)) 8 (hP.2.1 8)) 9 (hP.2.1 9)) 10 (hP.2.1 10)) 11 (hP.2.1 11)) 16 (hP.2.1 16)) 20 (hP.2.1 20)) 21 (hP.2.1 21)) 27 (hP.2.1 27)) 11 (hP.2.2 11)) 12 (hP.2.2 12)) 17 (hP.2.2 17))⟩
          replace p0_18 : mAt B (v 3) w9_18 w10_18 w8_18 w11_18 (b0_18 0) (run bW B (v 3) (v 10)) := p0_18
          have rw8_18 : 0 ≤ w8_18 ∧ w8_18 ≤ 4 := hP.2.1 8
          have rw9_18 : 0 ≤ w9_18 ∧ w9_18 ≤ 700 := hP.2.1 9
          have rw10_18 : 0 ≤ w10_18 ∧ w10_18 ≤ 700 := hP.2.1 10
          have rw11_18 : 0 ≤ w11_18 ∧ w11_18 ≤ 999999 := hP.2.1 11
          have hN : mAt B (v 3) w9_18 w10_18 w8_18 w11_18 (b0_18 0) (tX B (v 3) pp) := by have h := p0_18; rw [hc.bh] at h; exact h
          clear p0_18
          refine lv_iconst (v := iI 1) hx hb dX11_readFactor_67 rfl ?_
          exact g_zret hQ C hr hlocks (by decide) hP hS dX11_readFactor_68 ⟨1, w6_12, w7_12, w8_18, w9_18, w10_18, w11_18, ((v 16) + 1), (v 20), (v 21), ((v 27) + 1), (u1 (f 11) (v 16) z_10), (u1 (f 12) (v 16) (0 : Int)), (f 17), b0_18, rfl, rfl, rfl, rfl, (by first | omega | (split <;> omega)), (by first | (exfalso; omega) | exact Or.inl ⟨by omega, by omega, hN, Or.inl ⟨rfl, 6, _, xM_item hX (by decide) mp_num (by omega) (by omega), fun k => exF_num k (Or.inl ⟨by omega, rfl⟩) (by omega) (by omega)⟩⟩ | exact Or.inl ⟨by omega, by omega, hN, Or.inl ⟨rfl, (tK B (v 3) pp) - 272, 0, xM_item hX (by omega) (by have h := mp_nam (x := (tK B (v 3) pp) - 272) (by omega); omega) (by omega) (by omega), fun k => exF_num k (Or.inr ⟨by omega, rfl⟩) (tV_nam (by omega)).symm (by omega)⟩⟩)⟩
        · refine lv_aload_n hx hb dX11_readFactor_52 rfl (lv_at hl 1 rfl) ?_
          refine mdG_number C hP mF_X11_185 dX11_readFactor_53 ?_
          show W p l e (gRm 2 48) s m args below meth c _ _ 0 0 Q (F0 m 56 ls [.int (iI (v 11)), .int (iI z_10), .ref (ad 0)])
          have r_19 : 0 ≤ (v 11) ∧ (v 11) ≤ 999999 := hok.1 11
          refine lv_goto (tgt := 60) hx hb dX11_readFactor_56 (by decide) ?_
          refine g_cv (As := [.int (iI z_10), .int (iI (v 11))]) (rest := []) (n := 2) C hml (n_puts l D k A ad hD (va_up (va_up (va_up (va_up (va_up (va_up (va_up (va_up (va_up (va_up v 6 w6_12) 7 w7_12) 8 (v 8)) 9 (v 9)) 10 (v 10)) 11 (v 11)) 16 (v 16)) 20 (v 20)) 21 (v 21)) 27 ((v 27) + 1)) (va_up (va_up (va_up f 11 (f 11)) 12 (f 12)) 17 (f 17)) (va_up g 0 (g 0)) z_10 (v 11) (by omega) (by omega) (show (v 16) ≤ 40 from by omega) (show 0 ≤ z_10 ∧ z_10 ≤ 11 from by omega) (show 0 ≤ (v 11) ∧ (v 11) ≤ 999999 from by omega)) mM_X11_261 mI_X11_puts mE_X11_puts mN_X11 mC_X11_puts (by decide +kernel) 0 (ci := 11) rfl rfl hP hS (fun _ h => h) ⟨Nat.le_of_ble_eq_true rfl, Nat.le_of_ble_eq_true rfl⟩ ⟨Nat.zero_le _, Nat.zero_le _⟩ hl.1 rfl rfl (Nat.le_of_ble_eq_true rfl) dX11_readFactor_60 (fun r_20 v_20 f_20 g_20 H locs hq_20 hP _ hS => ?_)
          obtain ⟨rfl, rfl, rfl, rfl⟩ := hq_20
          show W p l e (gRm 2 48) s m args below meth c _ _ 0 0 Q (F0 m 63 ls [])
          have hP : gWd D (mdT k ad) (va_up (va_up (va_up (va_up (va_up (va_up (va_up (va_up (va_up (va_up v 6 w6_12) 7 w7_12) 8 (v 8)) 9 (v 9)) 10 (v 10)) 11 (v 11)) 16 ((v 16) + 1)) 20 (v 20)) 21 (v 21)) 27 ((v 27) + 1)) (va_up (va_up (va_up f 11 (u1 (f 11) (v 16) z_10)) 12 (u1 (f 12) (v 16) (v 11))) 17 (f 17)) (va_up g 0 (g 0)) H := ⟨hP.1, (gF_up (V := mdV) (F := mdF) (gF_up (V := mdV) (F := mdF) (gF_up (V := mdV) (F := mdF) (gR_up (V := mdV) (F := mdF) (gR_up (V := mdV) (F := mdF) (gR_up (V := mdV) (F := mdF) (gR_up (V := mdV) (F := mdF) (gR_up (V := mdV) (F := mdF) (gR_up (V := mdV) (F := mdF) (gR_up (V := mdV) (F := mdF) (gR_up (V := mdV) (F := mdF) (gR_up (V := mdV) (F := mdF) (gR_up (V := mdV) (F := mdF) ⟨hok.1, hok.2⟩ 6 (hP.2.1 6)) 7 (hP.2.1 7)) 8 (hP.2.1 8)) 9 (hP.2.1 9)) 10 (hP.2.1 10)) 11 (hP.2.1 11)) 16 (hP.2.1 16)) 20 (hP.2.1 20)) 21 (hP.2.1 21)) 27 (hP.2.1 27)) 11 (hP.2.2 11)) 12 (hP.2.2 12)) 17 (hP.2.2 17))⟩
          refine lv_aload_n hx hb dX11_readFactor_63 rfl (lv_at hl 1 rfl) ?_
          refine g_cv (As := []) (rest := []) (n := 0) C hml (n_next l D k A ad hD (va_up (va_up (va_up (va_up (va_up (va_up (va_up (va_up (va_up (va_up v 6 w6_12) 7 w7_12) 8 (v 8)) 9 (v 9)) 10 (v 10)) 11 (v 11)) 16 ((v 16) + 1)) 20 (v 20)) 21 (v 21)) 27 ((v 27) + 1)) (va_up (va_up (va_up f 11 (u1 (f 11) (v 16) z_10)) 12 (u1 (f 12) (v 16) (v 11))) 17 (f 17)) (va_up g 0 (g 0)) B (show ∀ k, (f 0) k % 256 = B k from hB) (show 0 ≤ (v 10) ∧ (v 10) ≤ (v 3) from by omega)) mM_X11_201 mI_X11_next mE_X11_next mN_X11 mC_X11_next (by decide +kernel) 0 (ci := 11) rfl rfl hP hS (fun _ h => h) ⟨Nat.le_of_ble_eq_true rfl, Nat.le_of_ble_eq_true rfl⟩ ⟨Nat.zero_le _, Nat.zero_le _⟩ hl.1 rfl rfl (Nat.le_of_ble_eq_true rfl) dX11_readFactor_64 (fun r_21 v_21 f_21 g_21 H locs hq_21 hP _ hS => ?_)
          obtain ⟨w8_21, w9_21, w10_21, w11_21, b0_21, rfl, rfl, rfl, rfl, p0_21⟩ := hq_21
          show W p l e (gRm 2 48) s m args below meth c _ _ 0 0 Q (F0 m 67 ls [])
          have hP : gWd D (mdT k ad) (va_up (va_up (va_up (va_up (va_up (va_up (va_up (va_up (va_up (va_up v 6 w6_12) 7 w7_12) 8 w8_21) 9 w9_21) 10 w10_21) 11 w11_21) 16 ((v 16) + 1)) 20 (v 20)) 21 (v 21)) 27 ((v 27) + 1)) (va_up (va_up (va_up f 11 (u1 (f 11) (v 16) z_10)) 12 (u1 (f 12) (v 16) (v 11))) 17 (f 17)) (va_up g 0 b0_21) H := ⟨hP.1, (gF_up (V := mdV) (F := mdF) (gF_up (V := mdV) (F := mdF) (gF_up (V := mdV) (F := mdF) (gR_up (V := mdV) (F := mdF) (gR_up (V := mdV) (F := mdF) (gR_up (V := mdV) (F := mdF) (gR_up (V := mdV) (F := mdF) (gR_up (V := mdV) (F := mdF) (gR_up (V := mdV) (F := mdF) (gR_up (V := mdV) (F := mdF) (gR_up (V := mdV) (F := mdF) (gR_up (V := mdV) (F := mdF) (gR_up (V := mdV) (F := mdF) ⟨hok.1, hok.2⟩ 6 (hP.2.1 6)) 7 (hP.2.1 7)) 8 (hP.2.1 8)) 9 (hP.2.1 9)) 10 (hP.2.1 10)) 11 (hP.2.1 11)) 16 (hP.2.1 16)) 20 (hP.2.1 20)) 21 (hP.2.1 21)) 27 (hP.2.1 27)) 11 (hP.2.2 11)) 12 (hP.2.2 12)) 17 (hP.2.2 17))⟩
          replace p0_21 : mAt B (v 3) w9_21 w10_21 w8_21 w11_21 (b0_21 0) (run bW B (v 3) (v 10)) := p0_21
          have rw8_21 : 0 ≤ w8_21 ∧ w8_21 ≤ 4 := hP.2.1 8
          have rw9_21 : 0 ≤ w9_21 ∧ w9_21 ≤ 700 := hP.2.1 9
          have rw10_21 : 0 ≤ w10_21 ∧ w10_21 ≤ 700 := hP.2.1 10
          have rw11_21 : 0 ≤ w11_21 ∧ w11_21 ≤ 999999 := hP.2.1 11
          have hN : mAt B (v 3) w9_21 w10_21 w8_21 w11_21 (b0_21 0) (tX B (v 3) pp) := by have h := p0_21; rw [hc.bh] at h; exact h
          clear p0_21
          refine lv_iconst (v := iI 1) hx hb dX11_readFactor_67 rfl ?_
          exact g_zret hQ C hr hlocks (by decide) hP hS dX11_readFactor_68 ⟨1, w6_12, w7_12, w8_21, w9_21, w10_21, w11_21, ((v 16) + 1), (v 20), (v 21), ((v 27) + 1), (u1 (f 11) (v 16) z_10), (u1 (f 12) (v 16) (v 11)), (f 17), b0_21, rfl, rfl, rfl, rfl, (by first | omega | (split <;> omega)), (by first | (exfalso; omega) | exact Or.inl ⟨by omega, by omega, hN, Or.inl ⟨rfl, 6, _, xM_item hX (by decide) mp_num (by omega) (by omega), fun k => exF_num k (Or.inl ⟨by omega, rfl⟩) (by omega) (by omega)⟩⟩ | exact Or.inl ⟨by omega, by omega, hN, Or.inl ⟨rfl, (tK B (v 3) pp) - 272, 0, xM_item hX (by omega) (by have h := mp_nam (x := (tK B (v 3) pp) - 272) (by omega); omega) (by omega) (by omega), fun k => exF_num k (Or.inr ⟨by omega, rfl⟩) (tV_nam (by omega)).symm (by omega)⟩⟩)⟩
      · refine lv_iconst (v := iI 0) hx hb dX11_readFactor_39 rfl ?_
        refine lv_goto (tgt := 44) hx hb dX11_readFactor_40 (by decide) ?_
        refine lv_aload_n hx hb dX11_readFactor_44 rfl (lv_at hl 1 rfl) ?_
        refine mdG_sort C hP mF_X11_165 dX11_readFactor_45 ?_
        show W p l e (gRm 2 48) s m args below meth c _ _ 0 0 Q (F0 m 48 ls [.int (iI (v 8)), .int (iI 0), .ref (ad 0)])
        refine lv_iconst (v := iI 2) hx hb dX11_readFactor_48 rfl ?_
        refine gi_cne (tgt := 59) hx hb dX11_readFactor_49 (by decide) (by omega) (by decide) (fun c_22 => ?_) (fun c_22 => ?_)
        · refine lv_iconst (v := iI 0) hx hb dX11_readFactor_59 rfl ?_
          refine g_cv (As := [.int (iI 0), .int (iI 0)]) (rest := []) (n := 2) C hml (n_puts l D k A ad hD (va_up (va_up (va_up (va_up (va_up (va_up (va_up (va_up (va_up (va_up v 6 w6_12) 7 w7_12) 8 (v 8)) 9 (v 9)) 10 (v 10)) 11 (v 11)) 16 (v 16)) 20 (v 20)) 21 (v 21)) 27 ((v 27) + 1)) (va_up (va_up (va_up f 11 (f 11)) 12 (f 12)) 17 (f 17)) (va_up g 0 (g 0)) 0 0 (by decide) (by decide) (show (v 16) ≤ 40 from by omega) (show 0 ≤ (0 : Int) ∧ (0 : Int) ≤ 11 from by omega) (show 0 ≤ (0 : Int) ∧ (0 : Int) ≤ 999999 from by omega)) mM_X11_261 mI_X11_puts mE_X11_puts mN_X11 mC_X11_puts (by decide +kernel) 0 (ci := 11) rfl rfl hP hS (fun _ h => h) ⟨Nat.le_of_ble_eq_true rfl, Nat.le_of_ble_eq_true rfl⟩ ⟨Nat.zero_le _, Nat.zero_le _⟩ hl.1 rfl rfl (Nat.le_of_ble_eq_true rfl) dX11_readFactor_60 (fun r_23 v_23 f_23 g_23 H locs hq_23 hP _ hS => ?_)
          obtain ⟨rfl, rfl, rfl, rfl⟩ := hq_23
          show W p l e (gRm 2 48) s m args below meth c _ _ 0 0 Q (F0 m 63 ls [])
          have hP : gWd D (mdT k ad) (va_up (va_up (va_up (va_up (va_up (va_up (va_up (va_up (va_up (va_up v 6 w6_12) 7 w7_12) 8 (v 8)) 9 (v 9)) 10 (v 10)) 11 (v 11)) 16 ((v 16) + 1)) 20 (v 20)) 21 (v 21)) 27 ((v 27) + 1)) (va_up (va_up (va_up f 11 (u1 (f 11) (v 16) (0 : Int))) 12 (u1 (f 12) (v 16) (0 : Int))) 17 (f 17)) (va_up g 0 (g 0)) H := ⟨hP.1, (gF_up (V := mdV) (F := mdF) (gF_up (V := mdV) (F := mdF) (gF_up (V := mdV) (F := mdF) (gR_up (V := mdV) (F := mdF) (gR_up (V := mdV) (F := mdF) (gR_up (V := mdV) (F := mdF) (gR_up (V := mdV) (F := mdF) (gR_up (V := mdV) (F := mdF) (gR_up (V := mdV) (F := mdF) (gR_up (V := mdV) (F := mdF) (gR_up (V := mdV) (F := mdF) (gR_up (V := mdV) (F := mdF) (gR_up (V := mdV) (F := mdF) ⟨hok.1, hok.2⟩ 6 (hP.2.1 6)) 7 (hP.2.1 7)) 8 (hP.2.1 8)) 9 (hP.2.1 9)) 10 (hP.2.1 10)) 11 (hP.2.1 11)) 16 (hP.2.1 16)) 20 (hP.2.1 20)) 21 (hP.2.1 21)) 27 (hP.2.1 27)) 11 (hP.2.2 11)) 12 (hP.2.2 12)) 17 (hP.2.2 17))⟩
          refine lv_aload_n hx hb dX11_readFactor_63 rfl (lv_at hl 1 rfl) ?_
          refine g_cv (As := []) (rest := []) (n := 0) C hml (n_next l D k A ad hD (va_up (va_up (va_up (va_up (va_up (va_up (va_up (va_up (va_up (va_up v 6 w6_12) 7 w7_12) 8 (v 8)) 9 (v 9)) 10 (v 10)) 11 (v 11)) 16 ((v 16) + 1)) 20 (v 20)) 21 (v 21)) 27 ((v 27) + 1)) (va_up (va_up (va_up f 11 (u1 (f 11) (v 16) (0 : Int))) 12 (u1 (f 12) (v 16) (0 : Int))) 17 (f 17)) (va_up g 0 (g 0)) B (show ∀ k, (f 0) k % 256 = B k from hB) (show 0 ≤ (v 10) ∧ (v 10) ≤ (v 3) from by omega)) mM_X11_201 mI_X11_next mE_X11_next mN_X11 mC_X11_next (by decide +kernel) 0 (ci := 11) rfl rfl hP hS (fun _ h => h) ⟨Nat.le_of_ble_eq_true rfl, Nat.le_of_ble_eq_true rfl⟩ ⟨Nat.zero_le _, Nat.zero_le _⟩ hl.1 rfl rfl (Nat.le_of_ble_eq_true rfl) dX11_readFactor_64 (fun r_24 v_24 f_24 g_24 H locs hq_24 hP _ hS => ?_)
          obtain ⟨w8_24, w9_24, w10_24, w11_24, b0_24, rfl, rfl, rfl, rfl, p0_24⟩ := hq_24
          show W p l e (gRm 2 48) s m args below meth c _ _ 0 0 Q (F0 m 67 ls [])
          have hP : gWd D (mdT k ad) (va_up (va_up (va_up (va_up (va_up (va_up (va_up (va_up (va_up (va_up v 6 w6_12) 7 w7_12) 8 w8_24) 9 w9_24) 10 w10_24) 11 w11_24) 16 ((v 16) + 1)) 20 (v 20)) 21 (v 21)) 27 ((v 27) + 1)) (va_up (va_up (va_up f 11 (u1 (f 11) (v 16) (0 : Int))) 12 (u1 (f 12) (v 16) (0 : Int))) 17 (f 17)) (va_up g 0 b0_24) H := ⟨hP.1, (gF_up (V := mdV) (F := mdF) (gF_up (V := mdV) (F := mdF) (gF_up (V := mdV) (F := mdF) (gR_up (V := mdV) (F := mdF) (gR_up (V := mdV) (F := mdF) (gR_up (V := mdV) (F := mdF) (gR_up (V := mdV) (F := mdF) (gR_up (V := mdV) (F := mdF) (gR_up (V := mdV) (F := mdF) (gR_up (V := mdV) (F := mdF) (gR_up (V := mdV) (F := mdF) (gR_up (V := mdV) (F := mdF) (gR_up (V := mdV) (F := mdF) ⟨hok.1, hok.2⟩ 6 (hP.2.1 6)) 7 (hP.2.1 7)) 8 (hP.2.1 8)) 9 (hP.2.1 9)) 10 (hP.2.1 10)) 11 (hP.2.1 11)) 16 (hP.2.1 16)) 20 (hP.2.1 20)) 21 (hP.2.1 21)) 27 (hP.2.1 27)) 11 (hP.2.2 11)) 12 (hP.2.2 12)) 17 (hP.2.2 17))⟩
          replace p0_24 : mAt B (v 3) w9_24 w10_24 w8_24 w11_24 (b0_24 0) (run bW B (v 3) (v 10)) := p0_24
          have rw8_24 : 0 ≤ w8_24 ∧ w8_24 ≤ 4 := hP.2.1 8
          have rw9_24 : 0 ≤ w9_24 ∧ w9_24 ≤ 700 := hP.2.1 9
          have rw10_24 : 0 ≤ w10_24 ∧ w10_24 ≤ 700 := hP.2.1 10
          have rw11_24 : 0 ≤ w11_24 ∧ w11_24 ≤ 999999 := hP.2.1 11
          have hN : mAt B (v 3) w9_24 w10_24 w8_24 w11_24 (b0_24 0) (tX B (v 3) pp) := by have h := p0_24; rw [hc.bh] at h; exact h
          clear p0_24
          refine lv_iconst (v := iI 1) hx hb dX11_readFactor_67 rfl ?_
          exact g_zret hQ C hr hlocks (by decide) hP hS dX11_readFactor_68 ⟨1, w6_12, w7_12, w8_24, w9_24, w10_24, w11_24, ((v 16) + 1), (v 20), (v 21), ((v 27) + 1), (u1 (f 11) (v 16) (0 : Int)), (u1 (f 12) (v 16) (0 : Int)), (f 17), b0_24, rfl, rfl, rfl, rfl, (by first | omega | (split <;> omega)), (by first | (exfalso; omega) | exact Or.inl ⟨by omega, by omega, hN, Or.inl ⟨rfl, 6, _, xM_item hX (by decide) mp_num (by omega) (by omega), fun k => exF_num k (Or.inl ⟨by omega, rfl⟩) (by omega) (by omega)⟩⟩ | exact Or.inl ⟨by omega, by omega, hN, Or.inl ⟨rfl, (tK B (v 3) pp) - 272, 0, xM_item hX (by omega) (by have h := mp_nam (x := (tK B (v 3) pp) - 272) (by omega); omega) (by omega) (by omega), fun k => exF_num k (Or.inr ⟨by omega, rfl⟩) (tV_nam (by omega)).symm (by omega)⟩⟩)⟩
        · refine lv_aload_n hx hb dX11_readFactor_52 rfl (lv_at hl 1 rfl) ?_
          refine mdG_number C hP mF_X11_185 dX11_readFactor_53 ?_
          show W p l e (gRm 2 48) s m args below meth c _ _ 0 0 Q (F0 m 56 ls [.int (iI (v 11)), .int (iI 0), .ref (ad 0)])
          have r_25 : 0 ≤ (v 11) ∧ (v 11) ≤ 999999 := hok.1 11
          refine lv_goto (tgt := 60) hx hb dX11_readFactor_56 (by decide) ?_
          refine g_cv (As := [.int (iI 0), .int (iI (v 11))]) (rest := []) (n := 2) C hml (n_puts l D k A ad hD (va_up (va_up (va_up (va_up (va_up (va_up (va_up (va_up (va_up (va_up v 6 w6_12) 7 w7_12) 8 (v 8)) 9 (v 9)) 10 (v 10)) 11 (v 11)) 16 (v 16)) 20 (v 20)) 21 (v 21)) 27 ((v 27) + 1)) (va_up (va_up (va_up f 11 (f 11)) 12 (f 12)) 17 (f 17)) (va_up g 0 (g 0)) 0 (v 11) (by decide) (by omega) (show (v 16) ≤ 40 from by omega) (show 0 ≤ (0 : Int) ∧ (0 : Int) ≤ 11 from by omega) (show 0 ≤ (v 11) ∧ (v 11) ≤ 999999 from by omega)) mM_X11_261 mI_X11_puts mE_X11_puts mN_X11 mC_X11_puts (by decide +kernel) 0 (ci := 11) rfl rfl hP hS (fun _ h => h) ⟨Nat.le_of_ble_eq_true rfl, Nat.le_of_ble_eq_true rfl⟩ ⟨Nat.zero_le _, Nat.zero_le _⟩ hl.1 rfl rfl (Nat.le_of_ble_eq_true rfl) dX11_readFactor_60 (fun r_26 v_26 f_26 g_26 H locs hq_26 hP _ hS => ?_)
          obtain ⟨rfl, rfl, rfl, rfl⟩ := hq_26
          show W p l e (gRm 2 48) s m args below meth c _ _ 0 0 Q (F0 m 63 ls [])
          have hP : gWd D (mdT k ad) (va_up (va_up (va_up (va_up (va_up (va_up (va_up (va_up (va_up (va_up v 6 w6_12) 7 w7_12) 8 (v 8)) 9 (v 9)) 10 (v 10)) 11 (v 11)) 16 ((v 16) + 1)) 20 (v 20)) 21 (v 21)) 27 ((v 27) + 1)) (va_up (va_up (va_up f 11 (u1 (f 11) (v 16) (0 : Int))) 12 (u1 (f 12) (v 16) (v 11))) 17 (f 17)) (va_up g 0 (g 0)) H := ⟨hP.1, (gF_up (V := mdV) (F := mdF) (gF_up (V := mdV) (F := mdF) (gF_up (V := mdV) (F := mdF) (gR_up (V := mdV) (F := mdF) (gR_up (V := mdV) (F := mdF) (gR_up (V := mdV) (F := mdF) (gR_up (V := mdV) (F := mdF) (gR_up (V := mdV) (F := mdF) (gR_up (V := mdV) (F := mdF) (gR_up (V := mdV) (F := mdF) (gR_up (V := mdV) (F := mdF) (gR_up (V := mdV) (F := mdF) (gR_up (V := mdV) (F := mdF) ⟨hok.1, hok.2⟩ 6 (hP.2.1 6)) 7 (hP.2.1 7)) 8 (hP.2.1 8)) 9 (hP.2.1 9)) 10 (hP.2.1 10)) 11 (hP.2.1 11)) 16 (hP.2.1 16)) 20 (hP.2.1 20)) 21 (hP.2.1 21)) 27 (hP.2.1 27)) 11 (hP.2.2 11)) 12 (hP.2.2 12)) 17 (hP.2.2 17))⟩
          refine lv_aload_n hx hb dX11_readFactor_63 rfl (lv_at hl 1 rfl) ?_
          refine g_cv (As := []) (rest := []) (n := 0) C hml (n_next l D k A ad hD (va_up (va_up (va_up (va_up (va_up (va_up (va_up (va_up (va_up (va_up v 6 w6_12) 7 w7_12) 8 (v 8)) 9 (v 9)) 10 (v 10)) 11 (v 11)) 16 ((v 16) + 1)) 20 (v 20)) 21 (v 21)) 27 ((v 27) + 1)) (va_up (va_up (va_up f 11 (u1 (f 11) (v 16) (0 : Int))) 12 (u1 (f 12) (v 16) (v 11))) 17 (f 17)) (va_up g 0 (g 0)) B (show ∀ k, (f 0) k % 256 = B k from hB) (show 0 ≤ (v 10) ∧ (v 10) ≤ (v 3) from by omega)) mM_X11_201 mI_X11_next mE_X11_next mN_X11 mC_X11_next (by decide +kernel) 0 (ci := 11) rfl rfl hP hS (fun _ h => h) ⟨Nat.le_of_ble_eq_true rfl, Nat.le_of_ble_eq_true rfl⟩ ⟨Nat.zero_le _, Nat.zero_le _⟩ hl.1 rfl rfl (Nat.le_of_ble_eq_true rfl) dX11_readFactor_64 (fun r_27 v_27 f_27 g_27 H locs hq_27 hP _ hS => ?_)
          obtain ⟨w8_27, w9_27, w10_27, w11_27, b0_27, rfl, rfl, rfl, rfl, p0_27⟩ := hq_27
          show W p l e (gRm 2 48) s m args below meth c _ _ 0 0 Q (F0 m 67 ls [])
          have hP : gWd D (mdT k ad) (va_up (va_up (va_up (va_up (va_up (va_up (va_up (va_up (va_up (va_up v 6 w6_12) 7 w7_12) 8 w8_27) 9 w9_27) 10 w10_27) 11 w11_27) 16 ((v 16) + 1)) 20 (v 20)) 21 (v 21)) 27 ((v 27) + 1)) (va_up (va_up (va_up f 11 (u1 (f 11) (v 16) (0 : Int))) 12 (u1 (f 12) (v 16) (v 11))) 17 (f 17)) (va_up g 0 b0_27) H := ⟨hP.1, (gF_up (V := mdV) (F := mdF) (gF_up (V := mdV) (F := mdF) (gF_up (V := mdV) (F := mdF) (gR_up (V := mdV) (F := mdF) (gR_up (V := mdV) (F := mdF) (gR_up (V := mdV) (F := mdF) (gR_up (V := mdV) (F := mdF) (gR_up (V := mdV) (F := mdF) (gR_up (V := mdV) (F := mdF) (gR_up (V := mdV) (F := mdF) (gR_up (V := mdV) (F := mdF) (gR_up (V := mdV) (F := mdF) (gR_up (V := mdV) (F := mdF) ⟨hok.1, hok.2⟩ 6 (hP.2.1 6)) 7 (hP.2.1 7)) 8 (hP.2.1 8)) 9 (hP.2.1 9)) 10 (hP.2.1 10)) 11 (hP.2.1 11)) 16 (hP.2.1 16)) 20 (hP.2.1 20)) 21 (hP.2.1 21)) 27 (hP.2.1 27)) 11 (hP.2.2 11)) 12 (hP.2.2 12)) 17 (hP.2.2 17))⟩
          replace p0_27 : mAt B (v 3) w9_27 w10_27 w8_27 w11_27 (b0_27 0) (run bW B (v 3) (v 10)) := p0_27
          have rw8_27 : 0 ≤ w8_27 ∧ w8_27 ≤ 4 := hP.2.1 8
          have rw9_27 : 0 ≤ w9_27 ∧ w9_27 ≤ 700 := hP.2.1 9
          have rw10_27 : 0 ≤ w10_27 ∧ w10_27 ≤ 700 := hP.2.1 10
          have rw11_27 : 0 ≤ w11_27 ∧ w11_27 ≤ 999999 := hP.2.1 11
          have hN : mAt B (v 3) w9_27 w10_27 w8_27 w11_27 (b0_27 0) (tX B (v 3) pp) := by have h := p0_27; rw [hc.bh] at h; exact h
          clear p0_27
          refine lv_iconst (v := iI 1) hx hb dX11_readFactor_67 rfl ?_
          exact g_zret hQ C hr hlocks (by decide) hP hS dX11_readFactor_68 ⟨1, w6_12, w7_12, w8_27, w9_27, w10_27, w11_27, ((v 16) + 1), (v 20), (v 21), ((v 27) + 1), (u1 (f 11) (v 16) (0 : Int)), (u1 (f 12) (v 16) (v 11)), (f 17), b0_27, rfl, rfl, rfl, rfl, (by first | omega | (split <;> omega)), (by first | (exfalso; omega) | exact Or.inl ⟨by omega, by omega, hN, Or.inl ⟨rfl, 6, _, xM_item hX (by decide) mp_num (by omega) (by omega), fun k => exF_num k (Or.inl ⟨by omega, rfl⟩) (by omega) (by omega)⟩⟩ | exact Or.inl ⟨by omega, by omega, hN, Or.inl ⟨rfl, (tK B (v 3) pp) - 272, 0, xM_item hX (by omega) (by have h := mp_nam (x := (tK B (v 3) pp) - 272) (by omega); omega) (by omega) (by omega), fun k => exF_num k (Or.inr ⟨by omega, rfl⟩) (tV_nam (by omega)).symm (by omega)⟩⟩)⟩
    · refine lv_iconst (v := iI 0) hx hb dX11_readFactor_28 rfl ?_
      exact g_zret hQ C hr hlocks (by decide) hP hS dX11_readFactor_29 ⟨0, w6_12, w7_12, (v 8), (v 9), (v 10), (v 11), (v 16), (v 20), (v 21), ((v 27) + 1), (f 11), (f 12), (f 17), (g 0), rfl, rfl, rfl, rfl, (by first | omega | (split <;> omega)), (by first | (exfalso; omega) | exact Or.inr ⟨by omega, by omega, hc, fun k => (exF_num3 k (by omega) (by omega)).trans (Prod.ext (show (3 : Int) = w6_12 by omega) rfl)⟩)⟩
  · refine lv_iload_n hx hb dX11_readFactor_13 rfl (lv_at hl 0 rfl) ?_
    refine gi_zle (tgt := 69) hx hb dX11_readFactor_14 (by decide) (by omega) (fun c_28 => ?_) (fun c_28 => ?_)
    · refine lv_aload_n hx hb dX11_readFactor_69 rfl (lv_at hl 1 rfl) ?_
      refine lv_bipush (v := iI 45) hx hb dX11_readFactor_70 (by decide) ?_
      refine g_cv (As := [.int (iI 45)]) (rest := []) (n := 1) C hml (n_isSign l D k A ad hD (va_up (va_up (va_up (va_up (va_up (va_up (va_up (va_up (va_up (va_up v 6 (v 6)) 7 (v 7)) 8 (v 8)) 9 (v 9)) 10 (v 10)) 11 (v 11)) 16 (v 16)) 20 (v 20)) 21 (v 21)) 27 (v 27)) (va_up (va_up (va_up f 11 (f 11)) 12 (f 12)) 17 (f 17)) (va_up g 0 (g 0)) 45 (by decide)) mM_X11_204 mI_X11_isSign mE_X11_isSign mN_X11 mC_X11_isSign (by decide +kernel) 0 (ci := 11) rfl rfl hP hS (fun _ h => h) ⟨Nat.le_of_ble_eq_true rfl, Nat.le_of_ble_eq_true rfl⟩ ⟨Nat.zero_le _, Nat.zero_le _⟩ hl.1 rfl rfl (Nat.le_of_ble_eq_true rfl) dX11_readFactor_72 (fun r_29 v_29 f_29 g_29 H locs hq_29 hP _ hS => ?_)
      obtain ⟨z_29, rfl, rfl, rfl, rfl, p0_29⟩ := hq_29
      show W p l e (gRm 2 48) s m args below meth c _ _ 0 0 Q (F0 m 75 ls [.int (iI z_29)])
      replace p0_29 : z_29 = (if (v 8) = 3 ∧ (v 11) = (45 : Int) then 1 else 0) := p0_29
      have w_29 := gif (P := (v 8) = 3 ∧ (v 11) = (45 : Int)) p0_29
      have hz_29 : inR z_29 := (by first | omega | (rw [p0_29]; split <;> omega))
      refine gi_zeq (tgt := 108) hx hb dX11_readFactor_75 (by decide) (by omega) (fun c_30 => ?_) (fun c_30 => ?_)
      · have v_29 := w_29.elim (fun q => absurd (q.1.symm.trans c_30) (by decide)) (fun q => q.2)
        clear w_29 p0_29
        refine lv_aload_n hx hb dX11_readFactor_108 rfl (lv_at hl 1 rfl) ?_
        refine lv_bipush (v := iI 40) hx hb dX11_readFactor_109 (by decide) ?_
        refine g_cv (As := [.int (iI 40)]) (rest := []) (n := 1) C hml (n_isSign l D k A ad hD (va_up (va_up (va_up (va_up (va_up (va_up (va_up (va_up (va_up (va_up v 6 (v 6)) 7 (v 7)) 8 (v 8)) 9 (v 9)) 10 (v 10)) 11 (v 11)) 16 (v 16)) 20 (v 20)) 21 (v 21)) 27 (v 27)) (va_up (va_up (va_up f 11 (f 11)) 12 (f 12)) 17 (f 17)) (va_up g 0 (g 0)) 40 (by decide)) mM_X11_204 mI_X11_isSign mE_X11_isSign mN_X11 mC_X11_isSign (by decide +kernel) 0 (ci := 11) rfl rfl hP hS (fun _ h => h) ⟨Nat.le_of_ble_eq_true rfl, Nat.le_of_ble_eq_true rfl⟩ ⟨Nat.zero_le _, Nat.zero_le _⟩ hl.1 rfl rfl (Nat.le_of_ble_eq_true rfl) dX11_readFactor_111 (fun r_31 v_31 f_31 g_31 H locs hq_31 hP _ hS => ?_)
        obtain ⟨z_31, rfl, rfl, rfl, rfl, p0_31⟩ := hq_31
        show W p l e (gRm 2 48) s m args below meth c _ _ 0 0 Q (F0 m 114 ls [.int (iI z_31)])
        replace p0_31 : z_31 = (if (v 8) = 3 ∧ (v 11) = (40 : Int) then 1 else 0) := p0_31
        have w_31 := gif (P := (v 8) = 3 ∧ (v 11) = (40 : Int)) p0_31
        have hz_31 : inR z_31 := (by first | omega | (rw [p0_31]; split <;> omega))
        refine gi_zeq (tgt := 143) hx hb dX11_readFactor_114 (by decide) (by omega) (fun c_32 => ?_) (fun c_32 => ?_)
        · have v_31 := w_31.elim (fun q => absurd (q.1.symm.trans c_32) (by decide)) (fun q => q.2)
          clear w_31 p0_31
          refine lv_aload_n hx hb dX11_readFactor_143 rfl (lv_at hl 1 rfl) ?_
          refine g_cv (As := []) (rest := []) (n := 0) C hml (n_wrong l D k A ad hD (va_up (va_up (va_up (va_up (va_up (va_up (va_up (va_up (va_up (va_up v 6 (v 6)) 7 (v 7)) 8 (v 8)) 9 (v 9)) 10 (v 10)) 11 (v 11)) 16 (v 16)) 20 (v 20)) 21 (v 21)) 27 (v 27)) (va_up (va_up (va_up f 11 (f 11)) 12 (f 12)) 17 (f 17)) (va_up g 0 (g 0))) mM_X11_198 mI_X11_wrong mE_X11_wrong mN_X11 mC_X11_wrong (by decide +kernel) 0 (ci := 11) rfl rfl hP hS (fun _ h => h) ⟨Nat.le_of_ble_eq_true rfl, Nat.le_of_ble_eq_true rfl⟩ ⟨Nat.zero_le _, Nat.zero_le _⟩ hl.1 rfl rfl (Nat.le_of_ble_eq_true rfl) dX11_readFactor_144 (fun r_33 v_33 f_33 g_33 H locs hq_33 hP _ hS => ?_)
          obtain ⟨w6_33, w7_33, rfl, rfl, rfl, rfl, p0_33, p1_33⟩ := hq_33
          show W p l e (gRm 2 48) s m args below meth c _ _ 0 0 Q (F0 m 147 ls [])
          have hP : gWd D (mdT k ad) (va_up (va_up (va_up (va_up (va_up (va_up (va_up (va_up (va_up (va_up v 6 w6_33) 7 w7_33) 8 (v 8)) 9 (v 9)) 10 (v 10)) 11 (v 11)) 16 (v 16)) 20 (v 20)) 21 (v 21)) 27 (v 27)) (va_up (va_up (va_up f 11 (f 11)) 12 (f 12)) 17 (f 17)) (va_up g 0 (g 0)) H := ⟨hP.1, (gF_up (V := mdV) (F := mdF) (gF_up (V := mdV) (F := mdF) (gF_up (V := mdV) (F := mdF) (gR_up (V := mdV) (F := mdF) (gR_up (V := mdV) (F := mdF) (gR_up (V := mdV) (F := mdF) (gR_up (V := mdV) (F := mdF) (gR_up (V := mdV) (F := mdF) (gR_up (V := mdV) (F := mdF) (gR_up (V := mdV) (F := mdF) (gR_up (V := mdV) (F := mdF) (gR_up (V := mdV) (F := mdF) (gR_up (V := mdV) (F := mdF) ⟨hok.1, hok.2⟩ 6 (hP.2.1 6)) 7 (hP.2.1 7)) 8 (hP.2.1 8)) 9 (hP.2.1 9)) 10 (hP.2.1 10)) 11 (hP.2.1 11)) 16 (hP.2.1 16)) 20 (hP.2.1 20)) 21 (hP.2.1 21)) 27 (hP.2.1 27)) 11 (hP.2.2 11)) 12 (hP.2.2 12)) 17 (hP.2.2 17))⟩
          replace p0_33 : (v 6) = 0 → w6_33 = (if (v 8) = 4 then 1 else 2) ∧ w7_33 = (v 9) := p0_33
          replace p1_33 : 0 < (v 6) → w6_33 = (v 6) ∧ w7_33 = (v 7) := p1_33
          have rw6_33 : 0 ≤ w6_33 ∧ w6_33 ≤ 5 := hP.2.1 6
          have rw7_33 : 0 ≤ w7_33 ∧ w7_33 ≤ 700 := hP.2.1 7
          first | replace p0_33 := p0_33 (by omega) | clear p0_33
          first | replace p1_33 := p1_33 (by omega) | clear p1_33
          have hwv : (if (v 8) = 4 then (1 : Int) else 2) = (fk B (v 3) pp) := (if h4 : (v 8) = 4 then (by rw [if_pos h4, fk_p (hq.2.2.2.1.mp h4)]) else (by rw [if_neg h4, fk_n (fun q => h4 (hq.2.2.2.1.mpr q))]))
          refine lv_iconst (v := iI 0) hx hb dX11_readFactor_147 rfl ?_
          exact g_zret hQ C hr hlocks (by decide) hP hS dX11_readFactor_148 ⟨0, w6_33, w7_33, (v 8), (v 9), (v 10), (v 11), (v 16), (v 20), (v 21), (v 27), (f 11), (f 12), (f 17), (g 0), rfl, rfl, rfl, rfl, (by first | omega | (split <;> omega)), (by first | exact Or.inl ⟨by omega, by omega, hN, Or.inr ⟨rfl, 10 :: SS, xM_nest hX (by decide) (by omega) (by omega) (by omega) (by omega), fun k => exF_neg k (by omega) (by omega) (by omega)⟩⟩ | exact Or.inl ⟨by omega, by omega, hN, Or.inr ⟨rfl, 11 :: SS, xM_nest hX (by decide) (by omega) (by omega) (by omega) (by omega), fun k => exF_par k (by omega) (by omega)⟩⟩ | exact Or.inr ⟨by omega, by omega, hc, fun k => (exF_bad0 k (by omega)).trans (Prod.ext (show ((fk B (v 3) pp) : Int) = w6_33 by omega) rfl)⟩)⟩
        · have v_31 := w_31.elim (fun q => q.2) (fun q => absurd q.1 c_32)
          clear w_31 p0_31
          refine lv_aload_n hx hb dX11_readFactor_117 rfl (lv_at hl 1 rfl) ?_
          refine g_cv (As := []) (rest := []) (n := 0) C hml (n_deeper l D k A ad hD (va_up (va_up (va_up (va_up (va_up (va_up (va_up (va_up (va_up (va_up v 6 (v 6)) 7 (v 7)) 8 (v 8)) 9 (v 9)) 10 (v 10)) 11 (v 11)) 16 (v 16)) 20 (v 20)) 21 (v 21)) 27 (v 27)) (va_up (va_up (va_up f 11 (f 11)) 12 (f 12)) 17 (f 17)) (va_up g 0 (g 0)) (show (v 21) ≤ 8 from by omega)) mM_X11_286 mI_X11_deeper mE_X11_deeper mN_X11 mC_X11_deeper (by decide +kernel) 0 (ci := 11) rfl rfl hP hS (fun _ h => h) ⟨Nat.le_of_ble_eq_true rfl, Nat.le_of_ble_eq_true rfl⟩ ⟨Nat.zero_le _, Nat.zero_le _⟩ hl.1 rfl rfl (Nat.le_of_ble_eq_true rfl) dX11_readFactor_118 (fun r_34 v_34 f_34 g_34 H locs hq_34 hP _ hS => ?_)
          obtain ⟨w6_34, w7_34, rfl, rfl, rfl, rfl, p0_34, p1_34, p2_34⟩ := hq_34
          show W p l e (gRm 2 48) s m args below meth c _ _ 0 0 Q (F0 m 121 ls [])
          have hP : gWd D (mdT k ad) (va_up (va_up (va_up (va_up (va_up (va_up (va_up (va_up (va_up (va_up v 6 w6_34) 7 w7_34) 8 (v 8)) 9 (v 9)) 10 (v 10)) 11 (v 11)) 16 (v 16)) 20 (v 20)) 21 ((v 21) + 1)) 27 (v 27)) (va_up (va_up (va_up f 11 (f 11)) 12 (f 12)) 17 (f 17)) (va_up g 0 (g 0)) H := ⟨hP.1, (gF_up (V := mdV) (F := mdF) (gF_up (V := mdV) (F := mdF) (gF_up (V := mdV) (F := mdF) (gR_up (V := mdV) (F := mdF) (gR_up (V := mdV) (F := mdF) (gR_up (V := mdV) (F := mdF) (gR_up (V := mdV) (F := mdF) (gR_up (V := mdV) (F := mdF) (gR_up (V := mdV) (F := mdF) (gR_up (V := mdV) (F := mdF) (gR_up (V := mdV) (F := mdF) (gR_up (V := mdV) (F := mdF) (gR_up (V := mdV) (F := mdF) ⟨hok.1, hok.2⟩ 6 (hP.2.1 6)) 7 (hP.2.1 7)) 8 (hP.2.1 8)) 9 (hP.2.1 9)) 10 (hP.2.1 10)) 11 (hP.2.1 11)) 16 (hP.2.1 16)) 20 (hP.2.1 20)) 21 (hP.2.1 21)) 27 (hP.2.1 27)) 11 (hP.2.2 11)) 12 (hP.2.2 12)) 17 (hP.2.2 17))⟩
          replace p0_34 : (v 21) = 8 → (v 6) = 0 → w6_34 = 3 ∧ w7_34 = (v 9) := p0_34
          replace p1_34 : (v 21) < 8 → w6_34 = (v 6) ∧ w7_34 = (v 7) := p1_34
          replace p2_34 : 0 < (v 6) → w6_34 = (v 6) ∧ w7_34 = (v 7) := p2_34
          have rw6_34 : 0 ≤ w6_34 ∧ w6_34 ≤ 5 := hP.2.1 6
          have rw7_34 : 0 ≤ w7_34 ∧ w7_34 ≤ 700 := hP.2.1 7
          refine lv_aload_n hx hb dX11_readFactor_121 rfl (lv_at hl 1 rfl) ?_
          refine mdG_bad C hP mF_X11_188 dX11_readFactor_122 ?_
          show W p l e (gRm 2 48) s m args below meth c _ _ 0 0 Q (F0 m 125 ls [.int (iI w6_34)])
          have r_35 : 0 ≤ w6_34 ∧ w6_34 ≤ 5 := hP.2.1 6
          refine gi_zle (tgt := 130) hx hb dX11_readFactor_125 (by decide) (by omega) (fun c_36 => ?_) (fun c_36 => ?_)
          · refine lv_aload_n hx hb dX11_readFactor_130 rfl (lv_at hl 1 rfl) ?_
            refine lv_bipush (v := iI 11) hx hb dX11_readFactor_131 (by decide) ?_
            refine g_cv (As := [.int (iI 11)]) (rest := []) (n := 1) C hml (n_waitFor l D k A ad hD (va_up (va_up (va_up (va_up (va_up (va_up (va_up (va_up (va_up (va_up v 6 w6_34) 7 w7_34) 8 (v 8)) 9 (v 9)) 10 (v 10)) 11 (v 11)) 16 (v 16)) 20 (v 20)) 21 ((v 21) + 1)) 27 (v 27)) (va_up (va_up (va_up f 11 (f 11)) 12 (f 12)) 17 (f 17)) (va_up g 0 (g 0)) 11 (by decide) (show (v 20) ≤ 63 from by omega) (show 0 ≤ (11 : Int) ∧ (11 : Int) ≤ 11 from by omega)) mM_X11_277 mI_X11_waitFor mE_X11_waitFor mN_X11 mC_X11_waitFor (by decide +kernel) 0 (ci := 11) rfl rfl hP hS (fun _ h => h) ⟨Nat.le_of_ble_eq_true rfl, Nat.le_of_ble_eq_true rfl⟩ ⟨Nat.zero_le _, Nat.zero_le _⟩ hl.1 rfl rfl (Nat.le_of_ble_eq_true rfl) dX11_readFactor_133 (fun r_37 v_37 f_37 g_37 H locs hq_37 hP _ hS => ?_)
            obtain ⟨rfl, rfl, rfl, rfl⟩ := hq_37
            show W p l e (gRm 2 48) s m args below meth c _ _ 0 0 Q (F0 m 136 ls [])
            have hP : gWd D (mdT k ad) (va_up (va_up (va_up (va_up (va_up (va_up (va_up (va_up (va_up (va_up v 6 w6_34) 7 w7_34) 8 (v 8)) 9 (v 9)) 10 (v 10)) 11 (v 11)) 16 (v 16)) 20 ((v 20) + 1)) 21 ((v 21) + 1)) 27 (v 27)) (va_up (va_up (va_up f 11 (f 11)) 12 (f 12)) 17 (u1 (f 17) (v 20) (11 : Int))) (va_up g 0 (g 0)) H := ⟨hP.1, (gF_up (V := mdV) (F := mdF) (gF_up (V := mdV) (F := mdF) (gF_up (V := mdV) (F := mdF) (gR_up (V := mdV) (F := mdF) (gR_up (V := mdV) (F := mdF) (gR_up (V := mdV) (F := mdF) (gR_up (V := mdV) (F := mdF) (gR_up (V := mdV) (F := mdF) (gR_up (V := mdV) (F := mdF) (gR_up (V := mdV) (F := mdF) (gR_up (V := mdV) (F := mdF) (gR_up (V := mdV) (F := mdF) (gR_up (V := mdV) (F := mdF) ⟨hok.1, hok.2⟩ 6 (hP.2.1 6)) 7 (hP.2.1 7)) 8 (hP.2.1 8)) 9 (hP.2.1 9)) 10 (hP.2.1 10)) 11 (hP.2.1 11)) 16 (hP.2.1 16)) 20 (hP.2.1 20)) 21 (hP.2.1 21)) 27 (hP.2.1 27)) 11 (hP.2.2 11)) 12 (hP.2.2 12)) 17 (hP.2.2 17))⟩
            refine lv_aload_n hx hb dX11_readFactor_136 rfl (lv_at hl 1 rfl) ?_
            refine g_cv (As := []) (rest := []) (n := 0) C hml (n_next l D k A ad hD (va_up (va_up (va_up (va_up (va_up (va_up (va_up (va_up (va_up (va_up v 6 w6_34) 7 w7_34) 8 (v 8)) 9 (v 9)) 10 (v 10)) 11 (v 11)) 16 (v 16)) 20 ((v 20) + 1)) 21 ((v 21) + 1)) 27 (v 27)) (va_up (va_up (va_up f 11 (f 11)) 12 (f 12)) 17 (u1 (f 17) (v 20) (11 : Int))) (va_up g 0 (g 0)) B (show ∀ k, (f 0) k % 256 = B k from hB) (show 0 ≤ (v 10) ∧ (v 10) ≤ (v 3) from by omega)) mM_X11_201 mI_X11_next mE_X11_next mN_X11 mC_X11_next (by decide +kernel) 0 (ci := 11) rfl rfl hP hS (fun _ h => h) ⟨Nat.le_of_ble_eq_true rfl, Nat.le_of_ble_eq_true rfl⟩ ⟨Nat.zero_le _, Nat.zero_le _⟩ hl.1 rfl rfl (Nat.le_of_ble_eq_true rfl) dX11_readFactor_137 (fun r_38 v_38 f_38 g_38 H locs hq_38 hP _ hS => ?_)
            obtain ⟨w8_38, w9_38, w10_38, w11_38, b0_38, rfl, rfl, rfl, rfl, p0_38⟩ := hq_38
            show W p l e (gRm 2 48) s m args below meth c _ _ 0 0 Q (F0 m 140 ls [])
            have hP : gWd D (mdT k ad) (va_up (va_up (va_up (va_up (va_up (va_up (va_up (va_up (va_up (va_up v 6 w6_34) 7 w7_34) 8 w8_38) 9 w9_38) 10 w10_38) 11 w11_38) 16 (v 16)) 20 ((v 20) + 1)) 21 ((v 21) + 1)) 27 (v 27)) (va_up (va_up (va_up f 11 (f 11)) 12 (f 12)) 17 (u1 (f 17) (v 20) (11 : Int))) (va_up g 0 b0_38) H := ⟨hP.1, (gF_up (V := mdV) (F := mdF) (gF_up (V := mdV) (F := mdF) (gF_up (V := mdV) (F := mdF) (gR_up (V := mdV) (F := mdF) (gR_up (V := mdV) (F := mdF) (gR_up (V := mdV) (F := mdF) (gR_up (V := mdV) (F := mdF) (gR_up (V := mdV) (F := mdF) (gR_up (V := mdV) (F := mdF) (gR_up (V := mdV) (F := mdF) (gR_up (V := mdV) (F := mdF) (gR_up (V := mdV) (F := mdF) (gR_up (V := mdV) (F := mdF) ⟨hok.1, hok.2⟩ 6 (hP.2.1 6)) 7 (hP.2.1 7)) 8 (hP.2.1 8)) 9 (hP.2.1 9)) 10 (hP.2.1 10)) 11 (hP.2.1 11)) 16 (hP.2.1 16)) 20 (hP.2.1 20)) 21 (hP.2.1 21)) 27 (hP.2.1 27)) 11 (hP.2.2 11)) 12 (hP.2.2 12)) 17 (hP.2.2 17))⟩
            replace p0_38 : mAt B (v 3) w9_38 w10_38 w8_38 w11_38 (b0_38 0) (run bW B (v 3) (v 10)) := p0_38
            have rw8_38 : 0 ≤ w8_38 ∧ w8_38 ≤ 4 := hP.2.1 8
            have rw9_38 : 0 ≤ w9_38 ∧ w9_38 ≤ 700 := hP.2.1 9
            have rw10_38 : 0 ≤ w10_38 ∧ w10_38 ≤ 700 := hP.2.1 10
            have rw11_38 : 0 ≤ w11_38 ∧ w11_38 ≤ 999999 := hP.2.1 11
            have hN : mAt B (v 3) w9_38 w10_38 w8_38 w11_38 (b0_38 0) (tX B (v 3) pp) := by have h := p0_38; rw [hc.bh] at h; exact h
            clear p0_38
            refine lv_goto (tgt := 147) hx hb dX11_readFactor_140 (by decide) ?_
            refine lv_iconst (v := iI 0) hx hb dX11_readFactor_147 rfl ?_
            exact g_zret hQ C hr hlocks (by decide) hP hS dX11_readFactor_148 ⟨0, w6_34, w7_34, w8_38, w9_38, w10_38, w11_38, (v 16), ((v 20) + 1), ((v 21) + 1), (v 27), (f 11), (f 12), (u1 (f 17) (v 20) (11 : Int)), b0_38, rfl, rfl, rfl, rfl, (by first | omega | (split <;> omega)), (by first | exact Or.inl ⟨by omega, by omega, hN, Or.inr ⟨rfl, 10 :: SS, xM_nest hX (by decide) (by omega) (by omega) (by omega) (by omega), fun k => exF_neg k (by omega) (by omega) (by omega)⟩⟩ | exact Or.inl ⟨by omega, by omega, hN, Or.inr ⟨rfl, 11 :: SS, xM_nest hX (by decide) (by omega) (by omega) (by omega) (by omega), fun k => exF_par k (by omega) (by omega)⟩⟩ | exact Or.inr ⟨by omega, by omega, hc, fun k => (exF_bad0 k (by omega)).trans (Prod.ext (show ((fk B (v 3) pp) : Int) = w6_34 by omega) rfl)⟩)⟩
          · refine lv_iconst (v := iI 0) hx hb dX11_readFactor_128 rfl ?_
            exact g_zret hQ C hr hlocks (by decide) hP hS dX11_readFactor_129 ⟨0, w6_34, w7_34, (v 8), (v 9), (v 10), (v 11), (v 16), (v 20), ((v 21) + 1), (v 27), (f 11), (f 12), (f 17), (g 0), rfl, rfl, rfl, rfl, (by first | omega | (split <;> omega)), (by exact Or.inr ⟨by omega, by omega, hc, fun k => (exF_par3 k (by omega) (by omega)).trans (Prod.ext (show (3 : Int) = w6_34 by omega) rfl)⟩)⟩
      · have v_29 := w_29.elim (fun q => q.2) (fun q => absurd q.1 c_30)
        clear w_29 p0_29
        refine lv_aload_n hx hb dX11_readFactor_78 rfl (lv_at hl 1 rfl) ?_
        refine g_cv (As := []) (rest := []) (n := 0) C hml (n_counts l D k A ad hD (va_up (va_up (va_up (va_up (va_up (va_up (va_up (va_up (va_up (va_up v 6 (v 6)) 7 (v 7)) 8 (v 8)) 9 (v 9)) 10 (v 10)) 11 (v 11)) 16 (v 16)) 20 (v 20)) 21 (v 21)) 27 (v 27)) (va_up (va_up (va_up f 11 (f 11)) 12 (f 12)) 17 (f 17)) (va_up g 0 (g 0)) (show (v 27) ≤ 40 from by omega)) mM_X11_271 mI_X11_counts mE_X11_counts mN_X11 mC_X11_counts (by decide +kernel) 0 (ci := 11) rfl rfl hP hS (fun _ h => h) ⟨Nat.le_of_ble_eq_true rfl, Nat.le_of_ble_eq_true rfl⟩ ⟨Nat.zero_le _, Nat.zero_le _⟩ hl.1 rfl rfl (Nat.le_of_ble_eq_true rfl) dX11_readFactor_79 (fun r_39 v_39 f_39 g_39 H locs hq_39 hP _ hS => ?_)
        obtain ⟨w6_39, w7_39, rfl, rfl, rfl, rfl, p0_39, p1_39, p2_39⟩ := hq_39
        show W p l e (gRm 2 48) s m args below meth c _ _ 0 0 Q (F0 m 82 ls [])
        have hP : gWd D (mdT k ad) (va_up (va_up (va_up (va_up (va_up (va_up (va_up (va_up (va_up (va_up v 6 w6_39) 7 w7_39) 8 (v 8)) 9 (v 9)) 10 (v 10)) 11 (v 11)) 16 (v 16)) 20 (v 20)) 21 (v 21)) 27 ((v 27) + 1)) (va_up (va_up (va_up f 11 (f 11)) 12 (f 12)) 17 (f 17)) (va_up g 0 (g 0)) H := ⟨hP.1, (gF_up (V := mdV) (F := mdF) (gF_up (V := mdV) (F := mdF) (gF_up (V := mdV) (F := mdF) (gR_up (V := mdV) (F := mdF) (gR_up (V := mdV) (F := mdF) (gR_up (V := mdV) (F := mdF) (gR_up (V := mdV) (F := mdF) (gR_up (V := mdV) (F := mdF) (gR_up (V := mdV) (F := mdF) (gR_up (V := mdV) (F := mdF) (gR_up (V := mdV) (F := mdF) (gR_up (V := mdV) (F := mdF) (gR_up (V := mdV) (F := mdF) ⟨hok.1, hok.2⟩ 6 (hP.2.1 6)) 7 (hP.2.1 7)) 8 (hP.2.1 8)) 9 (hP.2.1 9)) 10 (hP.2.1 10)) 11 (hP.2.1 11)) 16 (hP.2.1 16)) 20 (hP.2.1 20)) 21 (hP.2.1 21)) 27 (hP.2.1 27)) 11 (hP.2.2 11)) 12 (hP.2.2 12)) 17 (hP.2.2 17))⟩
        replace p0_39 : (v 27) = 40 → (v 6) = 0 → w6_39 = 3 ∧ w7_39 = (v 9) := p0_39
        replace p1_39 : (v 27) < 40 → w6_39 = (v 6) ∧ w7_39 = (v 7) := p1_39
        replace p2_39 : 0 < (v 6) → w6_39 = (v 6) ∧ w7_39 = (v 7) := p2_39
        have rw6_39 : 0 ≤ w6_39 ∧ w6_39 ≤ 5 := hP.2.1 6
        have rw7_39 : 0 ≤ w7_39 ∧ w7_39 ≤ 700 := hP.2.1 7
        refine lv_aload_n hx hb dX11_readFactor_82 rfl (lv_at hl 1 rfl) ?_
        refine g_cv (As := []) (rest := []) (n := 0) C hml (n_deeper l D k A ad hD (va_up (va_up (va_up (va_up (va_up (va_up (va_up (va_up (va_up (va_up v 6 w6_39) 7 w7_39) 8 (v 8)) 9 (v 9)) 10 (v 10)) 11 (v 11)) 16 (v 16)) 20 (v 20)) 21 (v 21)) 27 ((v 27) + 1)) (va_up (va_up (va_up f 11 (f 11)) 12 (f 12)) 17 (f 17)) (va_up g 0 (g 0)) (show (v 21) ≤ 8 from by omega)) mM_X11_286 mI_X11_deeper mE_X11_deeper mN_X11 mC_X11_deeper (by decide +kernel) 0 (ci := 11) rfl rfl hP hS (fun _ h => h) ⟨Nat.le_of_ble_eq_true rfl, Nat.le_of_ble_eq_true rfl⟩ ⟨Nat.zero_le _, Nat.zero_le _⟩ hl.1 rfl rfl (Nat.le_of_ble_eq_true rfl) dX11_readFactor_83 (fun r_40 v_40 f_40 g_40 H locs hq_40 hP _ hS => ?_)
        obtain ⟨w6_40, w7_40, rfl, rfl, rfl, rfl, p0_40, p1_40, p2_40⟩ := hq_40
        show W p l e (gRm 2 48) s m args below meth c _ _ 0 0 Q (F0 m 86 ls [])
        have hP : gWd D (mdT k ad) (va_up (va_up (va_up (va_up (va_up (va_up (va_up (va_up (va_up (va_up v 6 w6_40) 7 w7_40) 8 (v 8)) 9 (v 9)) 10 (v 10)) 11 (v 11)) 16 (v 16)) 20 (v 20)) 21 ((v 21) + 1)) 27 ((v 27) + 1)) (va_up (va_up (va_up f 11 (f 11)) 12 (f 12)) 17 (f 17)) (va_up g 0 (g 0)) H := ⟨hP.1, (gF_up (V := mdV) (F := mdF) (gF_up (V := mdV) (F := mdF) (gF_up (V := mdV) (F := mdF) (gR_up (V := mdV) (F := mdF) (gR_up (V := mdV) (F := mdF) (gR_up (V := mdV) (F := mdF) (gR_up (V := mdV) (F := mdF) (gR_up (V := mdV) (F := mdF) (gR_up (V := mdV) (F := mdF) (gR_up (V := mdV) (F := mdF) (gR_up (V := mdV) (F := mdF) (gR_up (V := mdV) (F := mdF) (gR_up (V := mdV) (F := mdF) ⟨hok.1, hok.2⟩ 6 (hP.2.1 6)) 7 (hP.2.1 7)) 8 (hP.2.1 8)) 9 (hP.2.1 9)) 10 (hP.2.1 10)) 11 (hP.2.1 11)) 16 (hP.2.1 16)) 20 (hP.2.1 20)) 21 (hP.2.1 21)) 27 (hP.2.1 27)) 11 (hP.2.2 11)) 12 (hP.2.2 12)) 17 (hP.2.2 17))⟩
        replace p0_40 : (v 21) = 8 → w6_39 = 0 → w6_40 = 3 ∧ w7_40 = (v 9) := p0_40
        replace p1_40 : (v 21) < 8 → w6_40 = w6_39 ∧ w7_40 = w7_39 := p1_40
        replace p2_40 : 0 < w6_39 → w6_40 = w6_39 ∧ w7_40 = w7_39 := p2_40
        have rw6_40 : 0 ≤ w6_40 ∧ w6_40 ≤ 5 := hP.2.1 6
        have rw7_40 : 0 ≤ w7_40 ∧ w7_40 ≤ 700 := hP.2.1 7
        refine lv_aload_n hx hb dX11_readFactor_86 rfl (lv_at hl 1 rfl) ?_
        refine mdG_bad C hP mF_X11_188 dX11_readFactor_87 ?_
        show W p l e (gRm 2 48) s m args below meth c _ _ 0 0 Q (F0 m 90 ls [.int (iI w6_40)])
        have r_41 : 0 ≤ w6_40 ∧ w6_40 ≤ 5 := hP.2.1 6
        refine gi_zle (tgt := 95) hx hb dX11_readFactor_90 (by decide) (by omega) (fun c_42 => ?_) (fun c_42 => ?_)
        · refine lv_aload_n hx hb dX11_readFactor_95 rfl (lv_at hl 1 rfl) ?_
          refine lv_bipush (v := iI 10) hx hb dX11_readFactor_96 (by decide) ?_
          refine g_cv (As := [.int (iI 10)]) (rest := []) (n := 1) C hml (n_waitFor l D k A ad hD (va_up (va_up (va_up (va_up (va_up (va_up (va_up (va_up (va_up (va_up v 6 w6_40) 7 w7_40) 8 (v 8)) 9 (v 9)) 10 (v 10)) 11 (v 11)) 16 (v 16)) 20 (v 20)) 21 ((v 21) + 1)) 27 ((v 27) + 1)) (va_up (va_up (va_up f 11 (f 11)) 12 (f 12)) 17 (f 17)) (va_up g 0 (g 0)) 10 (by decide) (show (v 20) ≤ 63 from by omega) (show 0 ≤ (10 : Int) ∧ (10 : Int) ≤ 11 from by omega)) mM_X11_277 mI_X11_waitFor mE_X11_waitFor mN_X11 mC_X11_waitFor (by decide +kernel) 0 (ci := 11) rfl rfl hP hS (fun _ h => h) ⟨Nat.le_of_ble_eq_true rfl, Nat.le_of_ble_eq_true rfl⟩ ⟨Nat.zero_le _, Nat.zero_le _⟩ hl.1 rfl rfl (Nat.le_of_ble_eq_true rfl) dX11_readFactor_98 (fun r_43 v_43 f_43 g_43 H locs hq_43 hP _ hS => ?_)
          obtain ⟨rfl, rfl, rfl, rfl⟩ := hq_43
          show W p l e (gRm 2 48) s m args below meth c _ _ 0 0 Q (F0 m 101 ls [])
          have hP : gWd D (mdT k ad) (va_up (va_up (va_up (va_up (va_up (va_up (va_up (va_up (va_up (va_up v 6 w6_40) 7 w7_40) 8 (v 8)) 9 (v 9)) 10 (v 10)) 11 (v 11)) 16 (v 16)) 20 ((v 20) + 1)) 21 ((v 21) + 1)) 27 ((v 27) + 1)) (va_up (va_up (va_up f 11 (f 11)) 12 (f 12)) 17 (u1 (f 17) (v 20) (10 : Int))) (va_up g 0 (g 0)) H := ⟨hP.1, (gF_up (V := mdV) (F := mdF) (gF_up (V := mdV) (F := mdF) (gF_up (V := mdV) (F := mdF) (gR_up (V := mdV) (F := mdF) (gR_up (V := mdV) (F := mdF) (gR_up (V := mdV) (F := mdF) (gR_up (V := mdV) (F := mdF) (gR_up (V := mdV) (F := mdF) (gR_up (V := mdV) (F := mdF) (gR_up (V := mdV) (F := mdF) (gR_up (V := mdV) (F := mdF) (gR_up (V := mdV) (F := mdF) (gR_up (V := mdV) (F := mdF) ⟨hok.1, hok.2⟩ 6 (hP.2.1 6)) 7 (hP.2.1 7)) 8 (hP.2.1 8)) 9 (hP.2.1 9)) 10 (hP.2.1 10)) 11 (hP.2.1 11)) 16 (hP.2.1 16)) 20 (hP.2.1 20)) 21 (hP.2.1 21)) 27 (hP.2.1 27)) 11 (hP.2.2 11)) 12 (hP.2.2 12)) 17 (hP.2.2 17))⟩
          refine lv_aload_n hx hb dX11_readFactor_101 rfl (lv_at hl 1 rfl) ?_
          refine g_cv (As := []) (rest := []) (n := 0) C hml (n_next l D k A ad hD (va_up (va_up (va_up (va_up (va_up (va_up (va_up (va_up (va_up (va_up v 6 w6_40) 7 w7_40) 8 (v 8)) 9 (v 9)) 10 (v 10)) 11 (v 11)) 16 (v 16)) 20 ((v 20) + 1)) 21 ((v 21) + 1)) 27 ((v 27) + 1)) (va_up (va_up (va_up f 11 (f 11)) 12 (f 12)) 17 (u1 (f 17) (v 20) (10 : Int))) (va_up g 0 (g 0)) B (show ∀ k, (f 0) k % 256 = B k from hB) (show 0 ≤ (v 10) ∧ (v 10) ≤ (v 3) from by omega)) mM_X11_201 mI_X11_next mE_X11_next mN_X11 mC_X11_next (by decide +kernel) 0 (ci := 11) rfl rfl hP hS (fun _ h => h) ⟨Nat.le_of_ble_eq_true rfl, Nat.le_of_ble_eq_true rfl⟩ ⟨Nat.zero_le _, Nat.zero_le _⟩ hl.1 rfl rfl (Nat.le_of_ble_eq_true rfl) dX11_readFactor_102 (fun r_44 v_44 f_44 g_44 H locs hq_44 hP _ hS => ?_)
          obtain ⟨w8_44, w9_44, w10_44, w11_44, b0_44, rfl, rfl, rfl, rfl, p0_44⟩ := hq_44
          show W p l e (gRm 2 48) s m args below meth c _ _ 0 0 Q (F0 m 105 ls [])
          have hP : gWd D (mdT k ad) (va_up (va_up (va_up (va_up (va_up (va_up (va_up (va_up (va_up (va_up v 6 w6_40) 7 w7_40) 8 w8_44) 9 w9_44) 10 w10_44) 11 w11_44) 16 (v 16)) 20 ((v 20) + 1)) 21 ((v 21) + 1)) 27 ((v 27) + 1)) (va_up (va_up (va_up f 11 (f 11)) 12 (f 12)) 17 (u1 (f 17) (v 20) (10 : Int))) (va_up g 0 b0_44) H := ⟨hP.1, (gF_up (V := mdV) (F := mdF) (gF_up (V := mdV) (F := mdF) (gF_up (V := mdV) (F := mdF) (gR_up (V := mdV) (F := mdF) (gR_up (V := mdV) (F := mdF) (gR_up (V := mdV) (F := mdF) (gR_up (V := mdV) (F := mdF) (gR_up (V := mdV) (F := mdF) (gR_up (V := mdV) (F := mdF) (gR_up (V := mdV) (F := mdF) (gR_up (V := mdV) (F := mdF) (gR_up (V := mdV) (F := mdF) (gR_up (V := mdV) (F := mdF) ⟨hok.1, hok.2⟩ 6 (hP.2.1 6)) 7 (hP.2.1 7)) 8 (hP.2.1 8)) 9 (hP.2.1 9)) 10 (hP.2.1 10)) 11 (hP.2.1 11)) 16 (hP.2.1 16)) 20 (hP.2.1 20)) 21 (hP.2.1 21)) 27 (hP.2.1 27)) 11 (hP.2.2 11)) 12 (hP.2.2 12)) 17 (hP.2.2 17))⟩
          replace p0_44 : mAt B (v 3) w9_44 w10_44 w8_44 w11_44 (b0_44 0) (run bW B (v 3) (v 10)) := p0_44
          have rw8_44 : 0 ≤ w8_44 ∧ w8_44 ≤ 4 := hP.2.1 8
          have rw9_44 : 0 ≤ w9_44 ∧ w9_44 ≤ 700 := hP.2.1 9
          have rw10_44 : 0 ≤ w10_44 ∧ w10_44 ≤ 700 := hP.2.1 10
          have rw11_44 : 0 ≤ w11_44 ∧ w11_44 ≤ 999999 := hP.2.1 11
          have hN : mAt B (v 3) w9_44 w10_44 w8_44 w11_44 (b0_44 0) (tX B (v 3) pp) := by have h := p0_44; rw [hc.bh] at h; exact h
          clear p0_44
          refine lv_goto (tgt := 147) hx hb dX11_readFactor_105 (by decide) ?_
          refine lv_iconst (v := iI 0) hx hb dX11_readFactor_147 rfl ?_
          exact g_zret hQ C hr hlocks (by decide) hP hS dX11_readFactor_148 ⟨0, w6_40, w7_40, w8_44, w9_44, w10_44, w11_44, (v 16), ((v 20) + 1), ((v 21) + 1), ((v 27) + 1), (f 11), (f 12), (u1 (f 17) (v 20) (10 : Int)), b0_44, rfl, rfl, rfl, rfl, (by first | omega | (split <;> omega)), (by first | exact Or.inl ⟨by omega, by omega, hN, Or.inr ⟨rfl, 10 :: SS, xM_nest hX (by decide) (by omega) (by omega) (by omega) (by omega), fun k => exF_neg k (by omega) (by omega) (by omega)⟩⟩ | exact Or.inl ⟨by omega, by omega, hN, Or.inr ⟨rfl, 11 :: SS, xM_nest hX (by decide) (by omega) (by omega) (by omega) (by omega), fun k => exF_par k (by omega) (by omega)⟩⟩ | exact Or.inr ⟨by omega, by omega, hc, fun k => (exF_bad0 k (by omega)).trans (Prod.ext (show ((fk B (v 3) pp) : Int) = w6_40 by omega) rfl)⟩)⟩
        · refine lv_iconst (v := iI 0) hx hb dX11_readFactor_93 rfl ?_
          exact g_zret hQ C hr hlocks (by decide) hP hS dX11_readFactor_94 ⟨0, w6_40, w7_40, (v 8), (v 9), (v 10), (v 11), (v 16), (v 20), ((v 21) + 1), ((v 27) + 1), (f 11), (f 12), (f 17), (g 0), rfl, rfl, rfl, rfl, (by first | omega | (split <;> omega)), (by exact Or.inr ⟨by omega, by omega, hc, fun k => (exF_neg3 k (by omega) (by omega)).trans (Prod.ext (show (3 : Int) = w6_40 by omega) rfl)⟩)⟩
    · refine lv_aload_n hx hb dX11_readFactor_17 rfl (lv_at hl 1 rfl) ?_
      refine g_cv (As := []) (rest := []) (n := 0) C hml (n_counts l D k A ad hD (va_up (va_up (va_up (va_up (va_up (va_up (va_up (va_up (va_up (va_up v 6 (v 6)) 7 (v 7)) 8 (v 8)) 9 (v 9)) 10 (v 10)) 11 (v 11)) 16 (v 16)) 20 (v 20)) 21 (v 21)) 27 (v 27)) (va_up (va_up (va_up f 11 (f 11)) 12 (f 12)) 17 (f 17)) (va_up g 0 (g 0)) (show (v 27) ≤ 40 from by omega)) mM_X11_271 mI_X11_counts mE_X11_counts mN_X11 mC_X11_counts (by decide +kernel) 0 (ci := 11) rfl rfl hP hS (fun _ h => h) ⟨Nat.le_of_ble_eq_true rfl, Nat.le_of_ble_eq_true rfl⟩ ⟨Nat.zero_le _, Nat.zero_le _⟩ hl.1 rfl rfl (Nat.le_of_ble_eq_true rfl) dX11_readFactor_18 (fun r_45 v_45 f_45 g_45 H locs hq_45 hP _ hS => ?_)
      obtain ⟨w6_45, w7_45, rfl, rfl, rfl, rfl, p0_45, p1_45, p2_45⟩ := hq_45
      show W p l e (gRm 2 48) s m args below meth c _ _ 0 0 Q (F0 m 21 ls [])
      have hP : gWd D (mdT k ad) (va_up (va_up (va_up (va_up (va_up (va_up (va_up (va_up (va_up (va_up v 6 w6_45) 7 w7_45) 8 (v 8)) 9 (v 9)) 10 (v 10)) 11 (v 11)) 16 (v 16)) 20 (v 20)) 21 (v 21)) 27 ((v 27) + 1)) (va_up (va_up (va_up f 11 (f 11)) 12 (f 12)) 17 (f 17)) (va_up g 0 (g 0)) H := ⟨hP.1, (gF_up (V := mdV) (F := mdF) (gF_up (V := mdV) (F := mdF) (gF_up (V := mdV) (F := mdF) (gR_up (V := mdV) (F := mdF) (gR_up (V := mdV) (F := mdF) (gR_up (V := mdV) (F := mdF) (gR_up (V := mdV) (F := mdF) (gR_up (V := mdV) (F := mdF) (gR_up (V := mdV) (F := mdF) (gR_up (V := mdV) (F := mdF) (gR_up (V := mdV) (F := mdF) (gR_up (V := mdV) (F := mdF) (gR_up (V := mdV) (F := mdF) ⟨hok.1, hok.2⟩ 6 (hP.2.1 6)) 7 (hP.2.1 7)) 8 (hP.2.1 8)) 9 (hP.2.1 9)) 10 (hP.2.1 10)) 11 (hP.2.1 11)) 16 (hP.2.1 16)) 20 (hP.2.1 20)) 21 (hP.2.1 21)) 27 (hP.2.1 27)) 11 (hP.2.2 11)) 12 (hP.2.2 12)) 17 (hP.2.2 17))⟩
      replace p0_45 : (v 27) = 40 → (v 6) = 0 → w6_45 = 3 ∧ w7_45 = (v 9) := p0_45
      replace p1_45 : (v 27) < 40 → w6_45 = (v 6) ∧ w7_45 = (v 7) := p1_45
      replace p2_45 : 0 < (v 6) → w6_45 = (v 6) ∧ w7_45 = (v 7) := p2_45
      have rw6_45 : 0 ≤ w6_45 ∧ w6_45 ≤ 5 := hP.2.1 6
      have rw7_45 : 0 ≤ w7_45 ∧ w7_45 ≤ 700 := hP.2.1 7
      refine lv_aload_n hx hb dX11_readFactor_21 rfl (lv_at hl 1 rfl) ?_
      refine mdG_bad C hP mF_X11_188 dX11_readFactor_22 ?_
      show W p l e (gRm 2 48) s m args below meth c _ _ 0 0 Q (F0 m 25 ls [.int (iI w6_45)])
      have r_46 : 0 ≤ w6_45 ∧ w6_45 ≤ 5 := hP.2.1 6
      refine gi_zle (tgt := 30) hx hb dX11_readFactor_25 (by decide) (by omega) (fun c_47 => ?_) (fun c_47 => ?_)
      · refine lv_aload_n hx hb dX11_readFactor_30 rfl (lv_at hl 1 rfl) ?_
        refine lv_aload_n hx hb dX11_readFactor_31 rfl (lv_at hl 1 rfl) ?_
        refine mdG_sort C hP mF_X11_165 dX11_readFactor_32 ?_
        show W p l e (gRm 2 48) s m args below meth c _ _ 0 0 Q (F0 m 35 ls [.int (iI (v 8)), .ref (ad 0)])
        refine lv_iconst (v := iI 2) hx hb dX11_readFactor_35 rfl ?_
        refine gi_cne (tgt := 43) hx hb dX11_readFactor_36 (by decide) (by omega) (by decide) (fun c_48 => ?_) (fun c_48 => ?_)
        · refine lv_iload_n hx hb dX11_readFactor_43 rfl (lv_at hl 0 rfl) ?_
          refine lv_aload_n hx hb dX11_readFactor_44 rfl (lv_at hl 1 rfl) ?_
          refine mdG_sort C hP mF_X11_165 dX11_readFactor_45 ?_
          show W p l e (gRm 2 48) s m args below meth c _ _ 0 0 Q (F0 m 48 ls [.int (iI (v 8)), .int (iI z_10), .ref (ad 0)])
          refine lv_iconst (v := iI 2) hx hb dX11_readFactor_48 rfl ?_
          refine gi_cne (tgt := 59) hx hb dX11_readFactor_49 (by decide) (by omega) (by decide) (fun c_49 => ?_) (fun c_49 => ?_)
          · refine lv_iconst (v := iI 0) hx hb dX11_readFactor_59 rfl ?_
            refine g_cv (As := [.int (iI z_10), .int (iI 0)]) (rest := []) (n := 2) C hml (n_puts l D k A ad hD (va_up (va_up (va_up (va_up (va_up (va_up (va_up (va_up (va_up (va_up v 6 w6_45) 7 w7_45) 8 (v 8)) 9 (v 9)) 10 (v 10)) 11 (v 11)) 16 (v 16)) 20 (v 20)) 21 (v 21)) 27 ((v 27) + 1)) (va_up (va_up (va_up f 11 (f 11)) 12 (f 12)) 17 (f 17)) (va_up g 0 (g 0)) z_10 0 (by omega) (by decide) (show (v 16) ≤ 40 from by omega) (show 0 ≤ z_10 ∧ z_10 ≤ 11 from by omega) (show 0 ≤ (0 : Int) ∧ (0 : Int) ≤ 999999 from by omega)) mM_X11_261 mI_X11_puts mE_X11_puts mN_X11 mC_X11_puts (by decide +kernel) 0 (ci := 11) rfl rfl hP hS (fun _ h => h) ⟨Nat.le_of_ble_eq_true rfl, Nat.le_of_ble_eq_true rfl⟩ ⟨Nat.zero_le _, Nat.zero_le _⟩ hl.1 rfl rfl (Nat.le_of_ble_eq_true rfl) dX11_readFactor_60 (fun r_50 v_50 f_50 g_50 H locs hq_50 hP _ hS => ?_)
            obtain ⟨rfl, rfl, rfl, rfl⟩ := hq_50
            show W p l e (gRm 2 48) s m args below meth c _ _ 0 0 Q (F0 m 63 ls [])
            have hP : gWd D (mdT k ad) (va_up (va_up (va_up (va_up (va_up (va_up (va_up (va_up (va_up (va_up v 6 w6_45) 7 w7_45) 8 (v 8)) 9 (v 9)) 10 (v 10)) 11 (v 11)) 16 ((v 16) + 1)) 20 (v 20)) 21 (v 21)) 27 ((v 27) + 1)) (va_up (va_up (va_up f 11 (u1 (f 11) (v 16) z_10)) 12 (u1 (f 12) (v 16) (0 : Int))) 17 (f 17)) (va_up g 0 (g 0)) H := ⟨hP.1, (gF_up (V := mdV) (F := mdF) (gF_up (V := mdV) (F := mdF) (gF_up (V := mdV) (F := mdF) (gR_up (V := mdV) (F := mdF) (gR_up (V := mdV) (F := mdF) (gR_up (V := mdV) (F := mdF) (gR_up (V := mdV) (F := mdF) (gR_up (V := mdV) (F := mdF) (gR_up (V := mdV) (F := mdF) (gR_up (V := mdV) (F := mdF) (gR_up (V := mdV) (F := mdF) (gR_up (V := mdV) (F := mdF) (gR_up (V := mdV) (F := mdF) ⟨hok.1, hok.2⟩ 6 (hP.2.1 6)) 7 (hP.2.1 7)) 8 (hP.2.1 8)) 9 (hP.2.1 9)) 10 (hP.2.1 10)) 11 (hP.2.1 11)) 16 (hP.2.1 16)) 20 (hP.2.1 20)) 21 (hP.2.1 21)) 27 (hP.2.1 27)) 11 (hP.2.2 11)) 12 (hP.2.2 12)) 17 (hP.2.2 17))⟩
            refine lv_aload_n hx hb dX11_readFactor_63 rfl (lv_at hl 1 rfl) ?_
            refine g_cv (As := []) (rest := []) (n := 0) C hml (n_next l D k A ad hD (va_up (va_up (va_up (va_up (va_up (va_up (va_up (va_up (va_up (va_up v 6 w6_45) 7 w7_45) 8 (v 8)) 9 (v 9)) 10 (v 10)) 11 (v 11)) 16 ((v 16) + 1)) 20 (v 20)) 21 (v 21)) 27 ((v 27) + 1)) (va_up (va_up (va_up f 11 (u1 (f 11) (v 16) z_10)) 12 (u1 (f 12) (v 16) (0 : Int))) 17 (f 17)) (va_up g 0 (g 0)) B (show ∀ k, (f 0) k % 256 = B k from hB) (show 0 ≤ (v 10) ∧ (v 10) ≤ (v 3) from by omega)) mM_X11_201 mI_X11_next mE_X11_next mN_X11 mC_X11_next (by decide +kernel) 0 (ci := 11) rfl rfl hP hS (fun _ h => h) ⟨Nat.le_of_ble_eq_true rfl, Nat.le_of_ble_eq_true rfl⟩ ⟨Nat.zero_le _, Nat.zero_le _⟩ hl.1 rfl rfl (Nat.le_of_ble_eq_true rfl) dX11_readFactor_64 (fun r_51 v_51 f_51 g_51 H locs hq_51 hP _ hS => ?_)
            obtain ⟨w8_51, w9_51, w10_51, w11_51, b0_51, rfl, rfl, rfl, rfl, p0_51⟩ := hq_51
            show W p l e (gRm 2 48) s m args below meth c _ _ 0 0 Q (F0 m 67 ls [])
            have hP : gWd D (mdT k ad) (va_up (va_up (va_up (va_up (va_up (va_up (va_up (va_up (va_up (va_up v 6 w6_45) 7 w7_45) 8 w8_51) 9 w9_51) 10 w10_51) 11 w11_51) 16 ((v 16) + 1)) 20 (v 20)) 21 (v 21)) 27 ((v 27) + 1)) (va_up (va_up (va_up f 11 (u1 (f 11) (v 16) z_10)) 12 (u1 (f 12) (v 16) (0 : Int))) 17 (f 17)) (va_up g 0 b0_51) H := ⟨hP.1, (gF_up (V := mdV) (F := mdF) (gF_up (V := mdV) (F := mdF) (gF_up (V := mdV) (F := mdF) (gR_up (V := mdV) (F := mdF) (gR_up (V := mdV) (F := mdF) (gR_up (V := mdV) (F := mdF) (gR_up (V := mdV) (F := mdF) (gR_up (V := mdV) (F := mdF) (gR_up (V := mdV) (F := mdF) (gR_up (V := mdV) (F := mdF) (gR_up (V := mdV) (F := mdF) (gR_up (V := mdV) (F := mdF) (gR_up (V := mdV) (F := mdF) ⟨hok.1, hok.2⟩ 6 (hP.2.1 6)) 7 (hP.2.1 7)) 8 (hP.2.1 8)) 9 (hP.2.1 9)) 10 (hP.2.1 10)) 11 (hP.2.1 11)) 16 (hP.2.1 16)) 20 (hP.2.1 20)) 21 (hP.2.1 21)) 27 (hP.2.1 27)) 11 (hP.2.2 11)) 12 (hP.2.2 12)) 17 (hP.2.2 17))⟩
            replace p0_51 : mAt B (v 3) w9_51 w10_51 w8_51 w11_51 (b0_51 0) (run bW B (v 3) (v 10)) := p0_51
            have rw8_51 : 0 ≤ w8_51 ∧ w8_51 ≤ 4 := hP.2.1 8
            have rw9_51 : 0 ≤ w9_51 ∧ w9_51 ≤ 700 := hP.2.1 9
            have rw10_51 : 0 ≤ w10_51 ∧ w10_51 ≤ 700 := hP.2.1 10
            have rw11_51 : 0 ≤ w11_51 ∧ w11_51 ≤ 999999 := hP.2.1 11
            have hN : mAt B (v 3) w9_51 w10_51 w8_51 w11_51 (b0_51 0) (tX B (v 3) pp) := by have h := p0_51; rw [hc.bh] at h; exact h
            clear p0_51
            refine lv_iconst (v := iI 1) hx hb dX11_readFactor_67 rfl ?_
            exact g_zret hQ C hr hlocks (by decide) hP hS dX11_readFactor_68 ⟨1, w6_45, w7_45, w8_51, w9_51, w10_51, w11_51, ((v 16) + 1), (v 20), (v 21), ((v 27) + 1), (u1 (f 11) (v 16) z_10), (u1 (f 12) (v 16) (0 : Int)), (f 17), b0_51, rfl, rfl, rfl, rfl, (by first | omega | (split <;> omega)), (by first | (exfalso; omega) | exact Or.inl ⟨by omega, by omega, hN, Or.inl ⟨rfl, 6, _, xM_item hX (by decide) mp_num (by omega) (by omega), fun k => exF_num k (Or.inl ⟨by omega, rfl⟩) (by omega) (by omega)⟩⟩ | exact Or.inl ⟨by omega, by omega, hN, Or.inl ⟨rfl, (tK B (v 3) pp) - 272, 0, xM_item hX (by omega) (by have h := mp_nam (x := (tK B (v 3) pp) - 272) (by omega); omega) (by omega) (by omega), fun k => exF_num k (Or.inr ⟨by omega, rfl⟩) (tV_nam (by omega)).symm (by omega)⟩⟩)⟩
          · refine lv_aload_n hx hb dX11_readFactor_52 rfl (lv_at hl 1 rfl) ?_
            refine mdG_number C hP mF_X11_185 dX11_readFactor_53 ?_
            show W p l e (gRm 2 48) s m args below meth c _ _ 0 0 Q (F0 m 56 ls [.int (iI (v 11)), .int (iI z_10), .ref (ad 0)])
            have r_52 : 0 ≤ (v 11) ∧ (v 11) ≤ 999999 := hok.1 11
            refine lv_goto (tgt := 60) hx hb dX11_readFactor_56 (by decide) ?_
            refine g_cv (As := [.int (iI z_10), .int (iI (v 11))]) (rest := []) (n := 2) C hml (n_puts l D k A ad hD (va_up (va_up (va_up (va_up (va_up (va_up (va_up (va_up (va_up (va_up v 6 w6_45) 7 w7_45) 8 (v 8)) 9 (v 9)) 10 (v 10)) 11 (v 11)) 16 (v 16)) 20 (v 20)) 21 (v 21)) 27 ((v 27) + 1)) (va_up (va_up (va_up f 11 (f 11)) 12 (f 12)) 17 (f 17)) (va_up g 0 (g 0)) z_10 (v 11) (by omega) (by omega) (show (v 16) ≤ 40 from by omega) (show 0 ≤ z_10 ∧ z_10 ≤ 11 from by omega) (show 0 ≤ (v 11) ∧ (v 11) ≤ 999999 from by omega)) mM_X11_261 mI_X11_puts mE_X11_puts mN_X11 mC_X11_puts (by decide +kernel) 0 (ci := 11) rfl rfl hP hS (fun _ h => h) ⟨Nat.le_of_ble_eq_true rfl, Nat.le_of_ble_eq_true rfl⟩ ⟨Nat.zero_le _, Nat.zero_le _⟩ hl.1 rfl rfl (Nat.le_of_ble_eq_true rfl) dX11_readFactor_60 (fun r_53 v_53 f_53 g_53 H locs hq_53 hP _ hS => ?_)
            obtain ⟨rfl, rfl, rfl, rfl⟩ := hq_53
            show W p l e (gRm 2 48) s m args below meth c _ _ 0 0 Q (F0 m 63 ls [])
            have hP : gWd D (mdT k ad) (va_up (va_up (va_up (va_up (va_up (va_up (va_up (va_up (va_up (va_up v 6 w6_45) 7 w7_45) 8 (v 8)) 9 (v 9)) 10 (v 10)) 11 (v 11)) 16 ((v 16) + 1)) 20 (v 20)) 21 (v 21)) 27 ((v 27) + 1)) (va_up (va_up (va_up f 11 (u1 (f 11) (v 16) z_10)) 12 (u1 (f 12) (v 16) (v 11))) 17 (f 17)) (va_up g 0 (g 0)) H := ⟨hP.1, (gF_up (V := mdV) (F := mdF) (gF_up (V := mdV) (F := mdF) (gF_up (V := mdV) (F := mdF) (gR_up (V := mdV) (F := mdF) (gR_up (V := mdV) (F := mdF) (gR_up (V := mdV) (F := mdF) (gR_up (V := mdV) (F := mdF) (gR_up (V := mdV) (F := mdF) (gR_up (V := mdV) (F := mdF) (gR_up (V := mdV) (F := mdF) (gR_up (V := mdV) (F := mdF) (gR_up (V := mdV) (F := mdF) (gR_up (V := mdV) (F := mdF) ⟨hok.1, hok.2⟩ 6 (hP.2.1 6)) 7 (hP.2.1 7)) 8 (hP.2.1 8)) 9 (hP.2.1 9)) 10 (hP.2.1 10)) 11 (hP.2.1 11)) 16 (hP.2.1 16)) 20 (hP.2.1 20)) 21 (hP.2.1 21)) 27 (hP.2.1 27)) 11 (hP.2.2 11)) 12 (hP.2.2 12)) 17 (hP.2.2 17))⟩
            refine lv_aload_n hx hb dX11_readFactor_63 rfl (lv_at hl 1 rfl) ?_
            refine g_cv (As := []) (rest := []) (n := 0) C hml (n_next l D k A ad hD (va_up (va_up (va_up (va_up (va_up (va_up (va_up (va_up (va_up (va_up v 6 w6_45) 7 w7_45) 8 (v 8)) 9 (v 9)) 10 (v 10)) 11 (v 11)) 16 ((v 16) + 1)) 20 (v 20)) 21 (v 21)) 27 ((v 27) + 1)) (va_up (va_up (va_up f 11 (u1 (f 11) (v 16) z_10)) 12 (u1 (f 12) (v 16) (v 11))) 17 (f 17)) (va_up g 0 (g 0)) B (show ∀ k, (f 0) k % 256 = B k from hB) (show 0 ≤ (v 10) ∧ (v 10) ≤ (v 3) from by omega)) mM_X11_201 mI_X11_next mE_X11_next mN_X11 mC_X11_next (by decide +kernel) 0 (ci := 11) rfl rfl hP hS (fun _ h => h) ⟨Nat.le_of_ble_eq_true rfl, Nat.le_of_ble_eq_true rfl⟩ ⟨Nat.zero_le _, Nat.zero_le _⟩ hl.1 rfl rfl (Nat.le_of_ble_eq_true rfl) dX11_readFactor_64 (fun r_54 v_54 f_54 g_54 H locs hq_54 hP _ hS => ?_)
            obtain ⟨w8_54, w9_54, w10_54, w11_54, b0_54, rfl, rfl, rfl, rfl, p0_54⟩ := hq_54
            show W p l e (gRm 2 48) s m args below meth c _ _ 0 0 Q (F0 m 67 ls [])
            have hP : gWd D (mdT k ad) (va_up (va_up (va_up (va_up (va_up (va_up (va_up (va_up (va_up (va_up v 6 w6_45) 7 w7_45) 8 w8_54) 9 w9_54) 10 w10_54) 11 w11_54) 16 ((v 16) + 1)) 20 (v 20)) 21 (v 21)) 27 ((v 27) + 1)) (va_up (va_up (va_up f 11 (u1 (f 11) (v 16) z_10)) 12 (u1 (f 12) (v 16) (v 11))) 17 (f 17)) (va_up g 0 b0_54) H := ⟨hP.1, (gF_up (V := mdV) (F := mdF) (gF_up (V := mdV) (F := mdF) (gF_up (V := mdV) (F := mdF) (gR_up (V := mdV) (F := mdF) (gR_up (V := mdV) (F := mdF) (gR_up (V := mdV) (F := mdF) (gR_up (V := mdV) (F := mdF) (gR_up (V := mdV) (F := mdF) (gR_up (V := mdV) (F := mdF) (gR_up (V := mdV) (F := mdF) (gR_up (V := mdV) (F := mdF) (gR_up (V := mdV) (F := mdF) (gR_up (V := mdV) (F := mdF) ⟨hok.1, hok.2⟩ 6 (hP.2.1 6)) 7 (hP.2.1 7)) 8 (hP.2.1 8)) 9 (hP.2.1 9)) 10 (hP.2.1 10)) 11 (hP.2.1 11)) 16 (hP.2.1 16)) 20 (hP.2.1 20)) 21 (hP.2.1 21)) 27 (hP.2.1 27)) 11 (hP.2.2 11)) 12 (hP.2.2 12)) 17 (hP.2.2 17))⟩
            replace p0_54 : mAt B (v 3) w9_54 w10_54 w8_54 w11_54 (b0_54 0) (run bW B (v 3) (v 10)) := p0_54
            have rw8_54 : 0 ≤ w8_54 ∧ w8_54 ≤ 4 := hP.2.1 8
            have rw9_54 : 0 ≤ w9_54 ∧ w9_54 ≤ 700 := hP.2.1 9
            have rw10_54 : 0 ≤ w10_54 ∧ w10_54 ≤ 700 := hP.2.1 10
            have rw11_54 : 0 ≤ w11_54 ∧ w11_54 ≤ 999999 := hP.2.1 11
            have hN : mAt B (v 3) w9_54 w10_54 w8_54 w11_54 (b0_54 0) (tX B (v 3) pp) := by have h := p0_54; rw [hc.bh] at h; exact h
            clear p0_54
            refine lv_iconst (v := iI 1) hx hb dX11_readFactor_67 rfl ?_
            exact g_zret hQ C hr hlocks (by decide) hP hS dX11_readFactor_68 ⟨1, w6_45, w7_45, w8_54, w9_54, w10_54, w11_54, ((v 16) + 1), (v 20), (v 21), ((v 27) + 1), (u1 (f 11) (v 16) z_10), (u1 (f 12) (v 16) (v 11)), (f 17), b0_54, rfl, rfl, rfl, rfl, (by first | omega | (split <;> omega)), (by first | (exfalso; omega) | exact Or.inl ⟨by omega, by omega, hN, Or.inl ⟨rfl, 6, _, xM_item hX (by decide) mp_num (by omega) (by omega), fun k => exF_num k (Or.inl ⟨by omega, rfl⟩) (by omega) (by omega)⟩⟩ | exact Or.inl ⟨by omega, by omega, hN, Or.inl ⟨rfl, (tK B (v 3) pp) - 272, 0, xM_item hX (by omega) (by have h := mp_nam (x := (tK B (v 3) pp) - 272) (by omega); omega) (by omega) (by omega), fun k => exF_num k (Or.inr ⟨by omega, rfl⟩) (tV_nam (by omega)).symm (by omega)⟩⟩)⟩
        · refine lv_iconst (v := iI 0) hx hb dX11_readFactor_39 rfl ?_
          refine lv_goto (tgt := 44) hx hb dX11_readFactor_40 (by decide) ?_
          refine lv_aload_n hx hb dX11_readFactor_44 rfl (lv_at hl 1 rfl) ?_
          refine mdG_sort C hP mF_X11_165 dX11_readFactor_45 ?_
          show W p l e (gRm 2 48) s m args below meth c _ _ 0 0 Q (F0 m 48 ls [.int (iI (v 8)), .int (iI 0), .ref (ad 0)])
          refine lv_iconst (v := iI 2) hx hb dX11_readFactor_48 rfl ?_
          refine gi_cne (tgt := 59) hx hb dX11_readFactor_49 (by decide) (by omega) (by decide) (fun c_55 => ?_) (fun c_55 => ?_)
          · refine lv_iconst (v := iI 0) hx hb dX11_readFactor_59 rfl ?_
            refine g_cv (As := [.int (iI 0), .int (iI 0)]) (rest := []) (n := 2) C hml (n_puts l D k A ad hD (va_up (va_up (va_up (va_up (va_up (va_up (va_up (va_up (va_up (va_up v 6 w6_45) 7 w7_45) 8 (v 8)) 9 (v 9)) 10 (v 10)) 11 (v 11)) 16 (v 16)) 20 (v 20)) 21 (v 21)) 27 ((v 27) + 1)) (va_up (va_up (va_up f 11 (f 11)) 12 (f 12)) 17 (f 17)) (va_up g 0 (g 0)) 0 0 (by decide) (by decide) (show (v 16) ≤ 40 from by omega) (show 0 ≤ (0 : Int) ∧ (0 : Int) ≤ 11 from by omega) (show 0 ≤ (0 : Int) ∧ (0 : Int) ≤ 999999 from by omega)) mM_X11_261 mI_X11_puts mE_X11_puts mN_X11 mC_X11_puts (by decide +kernel) 0 (ci := 11) rfl rfl hP hS (fun _ h => h) ⟨Nat.le_of_ble_eq_true rfl, Nat.le_of_ble_eq_true rfl⟩ ⟨Nat.zero_le _, Nat.zero_le _⟩ hl.1 rfl rfl (Nat.le_of_ble_eq_true rfl) dX11_readFactor_60 (fun r_56 v_56 f_56 g_56 H locs hq_56 hP _ hS => ?_)
            obtain ⟨rfl, rfl, rfl, rfl⟩ := hq_56
            show W p l e (gRm 2 48) s m args below meth c _ _ 0 0 Q (F0 m 63 ls [])
            have hP : gWd D (mdT k ad) (va_up (va_up (va_up (va_up (va_up (va_up (va_up (va_up (va_up (va_up v 6 w6_45) 7 w7_45) 8 (v 8)) 9 (v 9)) 10 (v 10)) 11 (v 11)) 16 ((v 16) + 1)) 20 (v 20)) 21 (v 21)) 27 ((v 27) + 1)) (va_up (va_up (va_up f 11 (u1 (f 11) (v 16) (0 : Int))) 12 (u1 (f 12) (v 16) (0 : Int))) 17 (f 17)) (va_up g 0 (g 0)) H := ⟨hP.1, (gF_up (V := mdV) (F := mdF) (gF_up (V := mdV) (F := mdF) (gF_up (V := mdV) (F := mdF) (gR_up (V := mdV) (F := mdF) (gR_up (V := mdV) (F := mdF) (gR_up (V := mdV) (F := mdF) (gR_up (V := mdV) (F := mdF) (gR_up (V := mdV) (F := mdF) (gR_up (V := mdV) (F := mdF) (gR_up (V := mdV) (F := mdF) (gR_up (V := mdV) (F := mdF) (gR_up (V := mdV) (F := mdF) (gR_up (V := mdV) (F := mdF) ⟨hok.1, hok.2⟩ 6 (hP.2.1 6)) 7 (hP.2.1 7)) 8 (hP.2.1 8)) 9 (hP.2.1 9)) 10 (hP.2.1 10)) 11 (hP.2.1 11)) 16 (hP.2.1 16)) 20 (hP.2.1 20)) 21 (hP.2.1 21)) 27 (hP.2.1 27)) 11 (hP.2.2 11)) 12 (hP.2.2 12)) 17 (hP.2.2 17))⟩
            refine lv_aload_n hx hb dX11_readFactor_63 rfl (lv_at hl 1 rfl) ?_
            refine g_cv (As := []) (rest := []) (n := 0) C hml (n_next l D k A ad hD (va_up (va_up (va_up (va_up (va_up (va_up (va_up (va_up (va_up (va_up v 6 w6_45) 7 w7_45) 8 (v 8)) 9 (v 9)) 10 (v 10)) 11 (v 11)) 16 ((v 16) + 1)) 20 (v 20)) 21 (v 21)) 27 ((v 27) + 1)) (va_up (va_up (va_up f 11 (u1 (f 11) (v 16) (0 : Int))) 12 (u1 (f 12) (v 16) (0 : Int))) 17 (f 17)) (va_up g 0 (g 0)) B (show ∀ k, (f 0) k % 256 = B k from hB) (show 0 ≤ (v 10) ∧ (v 10) ≤ (v 3) from by omega)) mM_X11_201 mI_X11_next mE_X11_next mN_X11 mC_X11_next (by decide +kernel) 0 (ci := 11) rfl rfl hP hS (fun _ h => h) ⟨Nat.le_of_ble_eq_true rfl, Nat.le_of_ble_eq_true rfl⟩ ⟨Nat.zero_le _, Nat.zero_le _⟩ hl.1 rfl rfl (Nat.le_of_ble_eq_true rfl) dX11_readFactor_64 (fun r_57 v_57 f_57 g_57 H locs hq_57 hP _ hS => ?_)
            obtain ⟨w8_57, w9_57, w10_57, w11_57, b0_57, rfl, rfl, rfl, rfl, p0_57⟩ := hq_57
            show W p l e (gRm 2 48) s m args below meth c _ _ 0 0 Q (F0 m 67 ls [])
            have hP : gWd D (mdT k ad) (va_up (va_up (va_up (va_up (va_up (va_up (va_up (va_up (va_up (va_up v 6 w6_45) 7 w7_45) 8 w8_57) 9 w9_57) 10 w10_57) 11 w11_57) 16 ((v 16) + 1)) 20 (v 20)) 21 (v 21)) 27 ((v 27) + 1)) (va_up (va_up (va_up f 11 (u1 (f 11) (v 16) (0 : Int))) 12 (u1 (f 12) (v 16) (0 : Int))) 17 (f 17)) (va_up g 0 b0_57) H := ⟨hP.1, (gF_up (V := mdV) (F := mdF) (gF_up (V := mdV) (F := mdF) (gF_up (V := mdV) (F := mdF) (gR_up (V := mdV) (F := mdF) (gR_up (V := mdV) (F := mdF) (gR_up (V := mdV) (F := mdF) (gR_up (V := mdV) (F := mdF) (gR_up (V := mdV) (F := mdF) (gR_up (V := mdV) (F := mdF) (gR_up (V := mdV) (F := mdF) (gR_up (V := mdV) (F := mdF) (gR_up (V := mdV) (F := mdF) (gR_up (V := mdV) (F := mdF) ⟨hok.1, hok.2⟩ 6 (hP.2.1 6)) 7 (hP.2.1 7)) 8 (hP.2.1 8)) 9 (hP.2.1 9)) 10 (hP.2.1 10)) 11 (hP.2.1 11)) 16 (hP.2.1 16)) 20 (hP.2.1 20)) 21 (hP.2.1 21)) 27 (hP.2.1 27)) 11 (hP.2.2 11)) 12 (hP.2.2 12)) 17 (hP.2.2 17))⟩
            replace p0_57 : mAt B (v 3) w9_57 w10_57 w8_57 w11_57 (b0_57 0) (run bW B (v 3) (v 10)) := p0_57
            have rw8_57 : 0 ≤ w8_57 ∧ w8_57 ≤ 4 := hP.2.1 8
            have rw9_57 : 0 ≤ w9_57 ∧ w9_57 ≤ 700 := hP.2.1 9
            have rw10_57 : 0 ≤ w10_57 ∧ w10_57 ≤ 700 := hP.2.1 10
            have rw11_57 : 0 ≤ w11_57 ∧ w11_57 ≤ 999999 := hP.2.1 11
            have hN : mAt B (v 3) w9_57 w10_57 w8_57 w11_57 (b0_57 0) (tX B (v 3) pp) := by have h := p0_57; rw [hc.bh] at h; exact h
            clear p0_57
            refine lv_iconst (v := iI 1) hx hb dX11_readFactor_67 rfl ?_
            exact g_zret hQ C hr hlocks (by decide) hP hS dX11_readFactor_68 ⟨1, w6_45, w7_45, w8_57, w9_57, w10_57, w11_57, ((v 16) + 1), (v 20), (v 21), ((v 27) + 1), (u1 (f 11) (v 16) (0 : Int)), (u1 (f 12) (v 16) (0 : Int)), (f 17), b0_57, rfl, rfl, rfl, rfl, (by first | omega | (split <;> omega)), (by first | (exfalso; omega) | exact Or.inl ⟨by omega, by omega, hN, Or.inl ⟨rfl, 6, _, xM_item hX (by decide) mp_num (by omega) (by omega), fun k => exF_num k (Or.inl ⟨by omega, rfl⟩) (by omega) (by omega)⟩⟩ | exact Or.inl ⟨by omega, by omega, hN, Or.inl ⟨rfl, (tK B (v 3) pp) - 272, 0, xM_item hX (by omega) (by have h := mp_nam (x := (tK B (v 3) pp) - 272) (by omega); omega) (by omega) (by omega), fun k => exF_num k (Or.inr ⟨by omega, rfl⟩) (tV_nam (by omega)).symm (by omega)⟩⟩)⟩
          · refine lv_aload_n hx hb dX11_readFactor_52 rfl (lv_at hl 1 rfl) ?_
            refine mdG_number C hP mF_X11_185 dX11_readFactor_53 ?_
            show W p l e (gRm 2 48) s m args below meth c _ _ 0 0 Q (F0 m 56 ls [.int (iI (v 11)), .int (iI 0), .ref (ad 0)])
            have r_58 : 0 ≤ (v 11) ∧ (v 11) ≤ 999999 := hok.1 11
            refine lv_goto (tgt := 60) hx hb dX11_readFactor_56 (by decide) ?_
            refine g_cv (As := [.int (iI 0), .int (iI (v 11))]) (rest := []) (n := 2) C hml (n_puts l D k A ad hD (va_up (va_up (va_up (va_up (va_up (va_up (va_up (va_up (va_up (va_up v 6 w6_45) 7 w7_45) 8 (v 8)) 9 (v 9)) 10 (v 10)) 11 (v 11)) 16 (v 16)) 20 (v 20)) 21 (v 21)) 27 ((v 27) + 1)) (va_up (va_up (va_up f 11 (f 11)) 12 (f 12)) 17 (f 17)) (va_up g 0 (g 0)) 0 (v 11) (by decide) (by omega) (show (v 16) ≤ 40 from by omega) (show 0 ≤ (0 : Int) ∧ (0 : Int) ≤ 11 from by omega) (show 0 ≤ (v 11) ∧ (v 11) ≤ 999999 from by omega)) mM_X11_261 mI_X11_puts mE_X11_puts mN_X11 mC_X11_puts (by decide +kernel) 0 (ci := 11) rfl rfl hP hS (fun _ h => h) ⟨Nat.le_of_ble_eq_true rfl, Nat.le_of_ble_eq_true rfl⟩ ⟨Nat.zero_le _, Nat.zero_le _⟩ hl.1 rfl rfl (Nat.le_of_ble_eq_true rfl) dX11_readFactor_60 (fun r_59 v_59 f_59 g_59 H locs hq_59 hP _ hS => ?_)
            obtain ⟨rfl, rfl, rfl, rfl⟩ := hq_59
            show W p l e (gRm 2 48) s m args below meth c _ _ 0 0 Q (F0 m 63 ls [])
            have hP : gWd D (mdT k ad) (va_up (va_up (va_up (va_up (va_up (va_up (va_up (va_up (va_up (va_up v 6 w6_45) 7 w7_45) 8 (v 8)) 9 (v 9)) 10 (v 10)) 11 (v 11)) 16 ((v 16) + 1)) 20 (v 20)) 21 (v 21)) 27 ((v 27) + 1)) (va_up (va_up (va_up f 11 (u1 (f 11) (v 16) (0 : Int))) 12 (u1 (f 12) (v 16) (v 11))) 17 (f 17)) (va_up g 0 (g 0)) H := ⟨hP.1, (gF_up (V := mdV) (F := mdF) (gF_up (V := mdV) (F := mdF) (gF_up (V := mdV) (F := mdF) (gR_up (V := mdV) (F := mdF) (gR_up (V := mdV) (F := mdF) (gR_up (V := mdV) (F := mdF) (gR_up (V := mdV) (F := mdF) (gR_up (V := mdV) (F := mdF) (gR_up (V := mdV) (F := mdF) (gR_up (V := mdV) (F := mdF) (gR_up (V := mdV) (F := mdF) (gR_up (V := mdV) (F := mdF) (gR_up (V := mdV) (F := mdF) ⟨hok.1, hok.2⟩ 6 (hP.2.1 6)) 7 (hP.2.1 7)) 8 (hP.2.1 8)) 9 (hP.2.1 9)) 10 (hP.2.1 10)) 11 (hP.2.1 11)) 16 (hP.2.1 16)) 20 (hP.2.1 20)) 21 (hP.2.1 21)) 27 (hP.2.1 27)) 11 (hP.2.2 11)) 12 (hP.2.2 12)) 17 (hP.2.2 17))⟩
            refine lv_aload_n hx hb dX11_readFactor_63 rfl (lv_at hl 1 rfl) ?_
            refine g_cv (As := []) (rest := []) (n := 0) C hml (n_next l D k A ad hD (va_up (va_up (va_up (va_up (va_up (va_up (va_up (va_up (va_up (va_up v 6 w6_45) 7 w7_45) 8 (v 8)) 9 (v 9)) 10 (v 10)) 11 (v 11)) 16 ((v 16) + 1)) 20 (v 20)) 21 (v 21)) 27 ((v 27) + 1)) (va_up (va_up (va_up f 11 (u1 (f 11) (v 16) (0 : Int))) 12 (u1 (f 12) (v 16) (v 11))) 17 (f 17)) (va_up g 0 (g 0)) B (show ∀ k, (f 0) k % 256 = B k from hB) (show 0 ≤ (v 10) ∧ (v 10) ≤ (v 3) from by omega)) mM_X11_201 mI_X11_next mE_X11_next mN_X11 mC_X11_next (by decide +kernel) 0 (ci := 11) rfl rfl hP hS (fun _ h => h) ⟨Nat.le_of_ble_eq_true rfl, Nat.le_of_ble_eq_true rfl⟩ ⟨Nat.zero_le _, Nat.zero_le _⟩ hl.1 rfl rfl (Nat.le_of_ble_eq_true rfl) dX11_readFactor_64 (fun r_60 v_60 f_60 g_60 H locs hq_60 hP _ hS => ?_)
            obtain ⟨w8_60, w9_60, w10_60, w11_60, b0_60, rfl, rfl, rfl, rfl, p0_60⟩ := hq_60
            show W p l e (gRm 2 48) s m args below meth c _ _ 0 0 Q (F0 m 67 ls [])
            have hP : gWd D (mdT k ad) (va_up (va_up (va_up (va_up (va_up (va_up (va_up (va_up (va_up (va_up v 6 w6_45) 7 w7_45) 8 w8_60) 9 w9_60) 10 w10_60) 11 w11_60) 16 ((v 16) + 1)) 20 (v 20)) 21 (v 21)) 27 ((v 27) + 1)) (va_up (va_up (va_up f 11 (u1 (f 11) (v 16) (0 : Int))) 12 (u1 (f 12) (v 16) (v 11))) 17 (f 17)) (va_up g 0 b0_60) H := ⟨hP.1, (gF_up (V := mdV) (F := mdF) (gF_up (V := mdV) (F := mdF) (gF_up (V := mdV) (F := mdF) (gR_up (V := mdV) (F := mdF) (gR_up (V := mdV) (F := mdF) (gR_up (V := mdV) (F := mdF) (gR_up (V := mdV) (F := mdF) (gR_up (V := mdV) (F := mdF) (gR_up (V := mdV) (F := mdF) (gR_up (V := mdV) (F := mdF) (gR_up (V := mdV) (F := mdF) (gR_up (V := mdV) (F := mdF) (gR_up (V := mdV) (F := mdF) ⟨hok.1, hok.2⟩ 6 (hP.2.1 6)) 7 (hP.2.1 7)) 8 (hP.2.1 8)) 9 (hP.2.1 9)) 10 (hP.2.1 10)) 11 (hP.2.1 11)) 16 (hP.2.1 16)) 20 (hP.2.1 20)) 21 (hP.2.1 21)) 27 (hP.2.1 27)) 11 (hP.2.2 11)) 12 (hP.2.2 12)) 17 (hP.2.2 17))⟩
            replace p0_60 : mAt B (v 3) w9_60 w10_60 w8_60 w11_60 (b0_60 0) (run bW B (v 3) (v 10)) := p0_60
            have rw8_60 : 0 ≤ w8_60 ∧ w8_60 ≤ 4 := hP.2.1 8
            have rw9_60 : 0 ≤ w9_60 ∧ w9_60 ≤ 700 := hP.2.1 9
            have rw10_60 : 0 ≤ w10_60 ∧ w10_60 ≤ 700 := hP.2.1 10
            have rw11_60 : 0 ≤ w11_60 ∧ w11_60 ≤ 999999 := hP.2.1 11
            have hN : mAt B (v 3) w9_60 w10_60 w8_60 w11_60 (b0_60 0) (tX B (v 3) pp) := by have h := p0_60; rw [hc.bh] at h; exact h
            clear p0_60
            refine lv_iconst (v := iI 1) hx hb dX11_readFactor_67 rfl ?_
            exact g_zret hQ C hr hlocks (by decide) hP hS dX11_readFactor_68 ⟨1, w6_45, w7_45, w8_60, w9_60, w10_60, w11_60, ((v 16) + 1), (v 20), (v 21), ((v 27) + 1), (u1 (f 11) (v 16) (0 : Int)), (u1 (f 12) (v 16) (v 11)), (f 17), b0_60, rfl, rfl, rfl, rfl, (by first | omega | (split <;> omega)), (by first | (exfalso; omega) | exact Or.inl ⟨by omega, by omega, hN, Or.inl ⟨rfl, 6, _, xM_item hX (by decide) mp_num (by omega) (by omega), fun k => exF_num k (Or.inl ⟨by omega, rfl⟩) (by omega) (by omega)⟩⟩ | exact Or.inl ⟨by omega, by omega, hN, Or.inl ⟨rfl, (tK B (v 3) pp) - 272, 0, xM_item hX (by omega) (by have h := mp_nam (x := (tK B (v 3) pp) - 272) (by omega); omega) (by omega) (by omega), fun k => exF_num k (Or.inr ⟨by omega, rfl⟩) (tV_nam (by omega)).symm (by omega)⟩⟩)⟩
      · refine lv_iconst (v := iI 0) hx hb dX11_readFactor_28 rfl ?_
        exact g_zret hQ C hr hlocks (by decide) hP hS dX11_readFactor_29 ⟨0, w6_45, w7_45, (v 8), (v 9), (v 10), (v 11), (v 16), (v 20), (v 21), ((v 27) + 1), (f 11), (f 12), (f 17), (g 0), rfl, rfl, rfl, rfl, (by first | omega | (split <;> omega)), (by first | (exfalso; omega) | exact Or.inr ⟨by omega, by omega, hc, fun k => (exF_num3 k (by omega) (by omega)).trans (Prod.ext (show (3 : Int) = w6_45 by omega) rfl)⟩)⟩
end
