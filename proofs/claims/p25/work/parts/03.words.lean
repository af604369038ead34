theorem goodIn_r {big : List Cond} (ws : List Cond) (ps : List Nat) (hp : ws = ps.filterMap (fun i => big[i]?)) (h : ws.all goodWord = true) : GoodIn big ws := by
  intro w hw
  have h1 := List.all_eq_true.mp h w hw
  rw [hp] at hw
  obtain ⟨i, -, hi⟩ := List.mem_filterMap.mp hw
  have hm : w ∈ big := by first | exact List.mem_of_getElem? hi | exact List.getElem?_mem hi
  exact ⟨hm, good_of_word h1⟩
/-! ===== END ===== -/
/-! the words of the tables that a call may carry, and each of them by its place -/
def gWs : List Cond := lw_tbl.filter goodWord
theorem gWs_in {w : Cond} (h : w ∈ lw_tbl) (hg : goodWord w = true) : w ∈ gWs := List.mem_filter.mpr ⟨h, hg⟩
theorem gWs_tbl {w : Cond} (h : w ∈ gWs) : w ∈ lw_tbl := (List.mem_filter.mp h).1
theorem gWs_good {w : Cond} (h : w ∈ gWs) : (w.onTables && w.keeps) = true ∨ ∃ ty, w = .arrayClass ty := good_of_word (List.mem_filter.mp h).2
theorem gT_1 {w : Cond} (h : w ∈ tables_1_1) : w ∈ lw_tbl := List.mem_append_right _ (List.mem_append_left _ h)
theorem gT_2 {w : Cond} (h : w ∈ tables_1_2) : w ∈ lw_tbl := List.mem_append_right _ (List.mem_append_right _ (List.mem_append_left _ h))
theorem gT_3 {w : Cond} (h : w ∈ tables_1_3) : w ∈ lw_tbl := List.mem_append_right _ (List.mem_append_right _ (List.mem_append_right _ (List.mem_append_left _ h)))
theorem gT_4 {w : Cond} (h : w ∈ tables_1_4) : w ∈ lw_tbl := List.mem_append_right _ (List.mem_append_right _ (List.mem_append_right _ (List.mem_append_right _ (List.mem_append_left _ h))))
theorem gT_5 {w : Cond} (h : w ∈ tables_1_5) : w ∈ lw_tbl := List.mem_append_right _ (List.mem_append_right _ (List.mem_append_right _ (List.mem_append_right _ (List.mem_append_right _ (List.mem_append_left _ h)))))
theorem gT_6 {w : Cond} (h : w ∈ tables_1_6) : w ∈ lw_tbl := List.mem_append_right _ (List.mem_append_right _ (List.mem_append_right _ (List.mem_append_right _ (List.mem_append_right _ (List.mem_append_right _ (List.mem_append_left _ h))))))
theorem gT_7 {w : Cond} (h : w ∈ tables_1_7) : w ∈ lw_tbl := List.mem_append_right _ (List.mem_append_right _ (List.mem_append_right _ (List.mem_append_right _ (List.mem_append_right _ (List.mem_append_right _ (List.mem_append_right _ (h)))))))
theorem gT_0 {w : Cond} (h : w ∈ k2_sels lw_privs) : w ∈ lw_tbl := List.mem_append_left _ h
theorem mN_X10 : Cond.initialized RX10 ∈ gWs := gWs_in (gT_1 (List.mem_of_getElem? (i := 1) rfl)) rfl
theorem mN_X4 : Cond.initialized RX4 ∈ gWs := gWs_in (gT_1 (List.mem_of_getElem? (i := 2) rfl)) rfl
theorem mN_X3 : Cond.initialized RX3 ∈ gWs := gWs_in (gT_1 (List.mem_of_getElem? (i := 3) rfl)) rfl
theorem mN_X6 : Cond.initialized RX6 ∈ gWs := gWs_in (gT_1 (List.mem_of_getElem? (i := 4) rfl)) rfl
theorem mN_X1 : Cond.initialized RX1 ∈ gWs := gWs_in (gT_1 (List.mem_of_getElem? (i := 5) rfl)) rfl
theorem mN_X8 : Cond.initialized RX8 ∈ gWs := gWs_in (gT_1 (List.mem_of_getElem? (i := 6) rfl)) rfl
theorem mN_X2 : Cond.initialized RX2 ∈ gWs := gWs_in (gT_1 (List.mem_of_getElem? (i := 7) rfl)) rfl
theorem mN_X7 : Cond.initialized RX7 ∈ gWs := gWs_in (gT_1 (List.mem_of_getElem? (i := 8) rfl)) rfl
theorem mN_X0 : Cond.initialized RX0 ∈ gWs := gWs_in (gT_1 (List.mem_of_getElem? (i := 9) rfl)) rfl
theorem mN_X9 : Cond.initialized RX9 ∈ gWs := gWs_in (gT_1 (List.mem_of_getElem? (i := 10) rfl)) rfl
theorem mN_X5 : Cond.initialized RX5 ∈ gWs := gWs_in (gT_1 (List.mem_of_getElem? (i := 11) rfl)) rfl
theorem mN_X11 : Cond.initialized RX11 ∈ gWs := gWs_in (gT_1 (List.mem_of_getElem? (i := 12) rfl)) rfl
theorem mN_J0 : Cond.initialized RJ0 ∈ gWs := gWs_in (gT_1 (List.mem_of_getElem? (i := 13) rfl)) rfl
theorem mN_J1 : Cond.initialized RJ1 ∈ gWs := gWs_in (gT_1 (List.mem_of_getElem? (i := 14) rfl)) rfl
theorem mN_J3 : Cond.initialized RJ3 ∈ gWs := gWs_in (gT_1 (List.mem_of_getElem? (i := 15) rfl)) rfl
theorem mN_J9 : Cond.initialized RJ9 ∈ gWs := gWs_in (gT_1 (List.mem_of_getElem? (i := 17) rfl)) rfl
theorem mN_J10 : Cond.initialized RJ10 ∈ gWs := gWs_in (gT_1 (List.mem_of_getElem? (i := 18) rfl)) rfl
theorem mN_J7 : Cond.initialized RJ7 ∈ gWs := gWs_in (gT_1 (List.mem_of_getElem? (i := 19) rfl)) rfl
theorem mN_J6 : Cond.initialized RJ6 ∈ gWs := gWs_in (gT_1 (List.mem_of_getElem? (i := 20) rfl)) rfl
theorem mK_L_7 : Cond.classLink RL 7 RX10 ∈ gWs := gWs_in (gT_1 (List.mem_of_getElem? (i := 21) rfl)) rfl
theorem mT_X10 : Cond.instantiable RX10 14 ∈ gWs := gWs_in (gT_1 (List.mem_of_getElem? (i := 22) rfl)) rfl
theorem mM_L_9 : Cond.methodLink RL 9 yX10_init ∈ gWs := gWs_in (gT_1 (List.mem_of_getElem? (i := 23) rfl)) rfl
theorem mI_X10_init : Cond.instanceMethod yX10_init ∈ gWs := gWs_in (gT_1 (List.mem_of_getElem? (i := 24) rfl)) rfl
theorem mC_X10_init : Cond.code yX10_init cX10_init 1 none ∈ gWs := gWs_in (gT_1 (List.mem_of_getElem? (i := 25) rfl)) rfl
theorem mM_X10_1 : Cond.methodLink RX10 1 objectInit ∈ gWs := gWs_in (gT_1 (List.mem_of_getElem? (i := 26) rfl)) rfl
theorem mI_objectInit : Cond.instanceMethod objectInit ∈ gWs := gWs_in (gT_1 (List.mem_of_getElem? (i := 27) rfl)) rfl
theorem mC_objectInit : Cond.code objectInit object_method_1_code 1 none ∈ gWs := gWs_in (gT_1 (List.mem_of_getElem? (i := 28) rfl)) rfl
theorem mK_X10_13 : Cond.classLink RX10 13 RX4 ∈ gWs := gWs_in (gT_1 (List.mem_of_getElem? (i := 29) rfl)) rfl
theorem mT_X4 : Cond.instantiable RX4 10 ∈ gWs := gWs_in (gT_1 (List.mem_of_getElem? (i := 30) rfl)) rfl
theorem mI_X4_init : Cond.instanceMethod yX4_init ∈ gWs := gWs_in (gT_1 (List.mem_of_getElem? (i := 32) rfl)) rfl
theorem mC_X4_init : Cond.code yX4_init cX4_init 1 none ∈ gWs := gWs_in (gT_1 (List.mem_of_getElem? (i := 33) rfl)) rfl
theorem mM_X4_3 : Cond.methodLink RX4 3 objectInit ∈ gWs := gWs_in (gT_1 (List.mem_of_getElem? (i := 34) rfl)) rfl
theorem mF_X4_31 : Cond.fieldLink RX4 31 "RouteWall$Laws" "rounds" "I" ∈ gWs := gWs_in (gT_1 (List.mem_of_getElem? (i := 35) rfl)) rfl
theorem mF_X10_117 : Cond.fieldLink RX10 117 "RouteWall$Laws" "rounds" "I" ∈ gWs := gWs_in (gT_1 (List.mem_of_getElem? (i := 36) rfl)) rfl
theorem mF_X3_100 : Cond.fieldLink RX3 100 "RouteWall$Laws" "rounds" "I" ∈ gWs := gWs_in (gT_1 (List.mem_of_getElem? (i := 37) rfl)) rfl
theorem mF_X4_9 : Cond.fieldLink RX4 9 "RouteWall$Laws" "shape" "[I" ∈ gWs := gWs_in (gT_1 (List.mem_of_getElem? (i := 38) rfl)) rfl
theorem mF_X3_113 : Cond.fieldLink RX3 113 "RouteWall$Laws" "shape" "[I" ∈ gWs := gWs_in (gT_1 (List.mem_of_getElem? (i := 39) rfl)) rfl
theorem mF_X4_15 : Cond.fieldLink RX4 15 "RouteWall$Laws" "item" "[I" ∈ gWs := gWs_in (gT_1 (List.mem_of_getElem? (i := 40) rfl)) rfl
theorem mF_X4_18 : Cond.fieldLink RX4 18 "RouteWall$Laws" "number" "[I" ∈ gWs := gWs_in (gT_1 (List.mem_of_getElem? (i := 41) rfl)) rfl
theorem mF_X1_15 : Cond.fieldLink RX1 15 "RouteWall$Laws" "items" "I" ∈ gWs := gWs_in (gT_1 (List.mem_of_getElem? (i := 42) rfl)) rfl
theorem mF_X4_35 : Cond.fieldLink RX4 35 "RouteWall$Laws" "items" "I" ∈ gWs := gWs_in (gT_1 (List.mem_of_getElem? (i := 43) rfl)) rfl
theorem mF_X4_21 : Cond.fieldLink RX4 21 "RouteWall$Laws" "keyKind" "[I" ∈ gWs := gWs_in (gT_1 (List.mem_of_getElem? (i := 44) rfl)) rfl
theorem mF_X5_151 : Cond.fieldLink RX5 151 "RouteWall$Laws" "keyKind" "[I" ∈ gWs := gWs_in (gT_1 (List.mem_of_getElem? (i := 45) rfl)) rfl
theorem mF_X4_24 : Cond.fieldLink RX4 24 "RouteWall$Laws" "keyDown" "[I" ∈ gWs := gWs_in (gT_1 (List.mem_of_getElem? (i := 46) rfl)) rfl
theorem mF_X5_189 : Cond.fieldLink RX5 189 "RouteWall$Laws" "keyDown" "[I" ∈ gWs := gWs_in (gT_1 (List.mem_of_getElem? (i := 47) rfl)) rfl
theorem mF_X4_42 : Cond.fieldLink RX4 42 "RouteWall$Laws" "keys" "I" ∈ gWs := gWs_in (gT_1 (List.mem_of_getElem? (i := 48) rfl)) rfl
theorem mF_X5_145 : Cond.fieldLink RX5 145 "RouteWall$Laws" "keys" "I" ∈ gWs := gWs_in (gT_1 (List.mem_of_getElem? (i := 49) rfl)) rfl
theorem mF_X3_116 : Cond.fieldLink RX3 116 "RouteWall$Laws" "keys" "I" ∈ gWs := gWs_in (gT_1 (List.mem_of_getElem? (i := 50) rfl)) rfl
theorem mF_X10_271 : Cond.fieldLink RX10 271 "RouteWall$Laws" "keys" "I" ∈ gWs := gWs_in (gT_1 (List.mem_of_getElem? (i := 51) rfl)) rfl
theorem mF_X4_49 : Cond.fieldLink RX4 49 "RouteWall$Laws" "back" "Z" ∈ gWs := gWs_in (gT_1 (List.mem_of_getElem? (i := 52) rfl)) rfl
theorem mF_X5_181 : Cond.fieldLink RX5 181 "RouteWall$Laws" "back" "Z" ∈ gWs := gWs_in (gT_1 (List.mem_of_getElem? (i := 53) rfl)) rfl
theorem mF_X3_126 : Cond.fieldLink RX3 126 "RouteWall$Laws" "back" "Z" ∈ gWs := gWs_in (gT_1 (List.mem_of_getElem? (i := 54) rfl)) rfl
theorem mF_X4_27 : Cond.fieldLink RX4 27 "RouteWall$Laws" "stack" "[J" ∈ gWs := gWs_in (gT_1 (List.mem_of_getElem? (i := 55) rfl)) rfl
theorem mA_int : Cond.arrayClass .int ∈ gWs := gWs_in (gT_1 (List.mem_of_getElem? (i := 77) rfl)) rfl
theorem mA_long : Cond.arrayClass .long ∈ gWs := gWs_in (gT_1 (List.mem_of_getElem? (i := 78) rfl)) rfl
theorem mK_X10_20 : Cond.classLink RX10 20 RX3 ∈ gWs := gWs_in (gT_1 (List.mem_of_getElem? (i := 79) rfl)) rfl
theorem mT_X3 : Cond.instantiable RX3 8 ∈ gWs := gWs_in (gT_1 (List.mem_of_getElem? (i := 80) rfl)) rfl
theorem mI_X3_init : Cond.instanceMethod yX3_init ∈ gWs := gWs_in (gT_1 (List.mem_of_getElem? (i := 82) rfl)) rfl
theorem mC_X3_init : Cond.code yX3_init cX3_init 1 none ∈ gWs := gWs_in (gT_1 (List.mem_of_getElem? (i := 83) rfl)) rfl
theorem mM_X3_3 : Cond.methodLink RX3 3 objectInit ∈ gWs := gWs_in (gT_1 (List.mem_of_getElem? (i := 84) rfl)) rfl
theorem mK_X3_9 : Cond.classLink RX3 9 RX6 ∈ gWs := gWs_in (gT_1 (List.mem_of_getElem? (i := 85) rfl)) rfl
theorem mT_X6 : Cond.instantiable RX6 5 ∈ gWs := gWs_in (gT_1 (List.mem_of_getElem? (i := 86) rfl)) rfl
theorem mI_X6_init : Cond.instanceMethod yX6_init ∈ gWs := gWs_in (gT_1 (List.mem_of_getElem? (i := 88) rfl)) rfl
theorem mC_X6_init : Cond.code yX6_init cX6_init 1 none ∈ gWs := gWs_in (gT_1 (List.mem_of_getElem? (i := 89) rfl)) rfl
theorem mM_X6_3 : Cond.methodLink RX6 3 objectInit ∈ gWs := gWs_in (gT_1 (List.mem_of_getElem? (i := 90) rfl)) rfl
theorem mF_X6_9 : Cond.fieldLink RX6 9 "RouteWall$Tokens" "kinds" "[I" ∈ gWs := gWs_in (gT_1 (List.mem_of_getElem? (i := 91) rfl)) rfl
theorem mF_X6_15 : Cond.fieldLink RX6 15 "RouteWall$Tokens" "places" "[I" ∈ gWs := gWs_in (gT_1 (List.mem_of_getElem? (i := 92) rfl)) rfl
theorem mF_X6_18 : Cond.fieldLink RX6 18 "RouteWall$Tokens" "values" "[I" ∈ gWs := gWs_in (gT_1 (List.mem_of_getElem? (i := 93) rfl)) rfl
theorem mF_X6_25 : Cond.fieldLink RX6 25 "RouteWall$Tokens" "many" "I" ∈ gWs := gWs_in (gT_1 (List.mem_of_getElem? (i := 94) rfl)) rfl
theorem mF_X6_21 : Cond.fieldLink RX6 21 "RouteWall$Tokens" "at" "I" ∈ gWs := gWs_in (gT_1 (List.mem_of_getElem? (i := 95) rfl)) rfl
theorem mK_X3_18 : Cond.classLink RX3 18 RX4 ∈ gWs := gWs_in (gT_1 (List.mem_of_getElem? (i := 107) rfl)) rfl
theorem mK_X3_25 : Cond.classLink RX3 25 RX1 ∈ gWs := gWs_in (gT_1 (List.mem_of_getElem? (i := 109) rfl)) rfl
theorem mT_X1 : Cond.instantiable RX1 6 ∈ gWs := gWs_in (gT_1 (List.mem_of_getElem? (i := 110) rfl)) rfl
theorem mI_X1_init : Cond.instanceMethod yX1_init ∈ gWs := gWs_in (gT_1 (List.mem_of_getElem? (i := 112) rfl)) rfl
theorem mC_X1_init : Cond.code yX1_init cX1_init 1 none ∈ gWs := gWs_in (gT_1 (List.mem_of_getElem? (i := 113) rfl)) rfl
theorem mM_X1_3 : Cond.methodLink RX1 3 objectInit ∈ gWs := gWs_in (gT_1 (List.mem_of_getElem? (i := 114) rfl)) rfl
theorem mF_X1_9 : Cond.fieldLink RX1 9 "RouteWall$Expression" "waiting" "[I" ∈ gWs := gWs_in (gT_1 (List.mem_of_getElem? (i := 115) rfl)) rfl
theorem mF_X1_21 : Cond.fieldLink RX1 21 "RouteWall$Expression" "waits" "I" ∈ gWs := gWs_in (gT_1 (List.mem_of_getElem? (i := 116) rfl)) rfl
theorem mF_X1_24 : Cond.fieldLink RX1 24 "RouteWall$Expression" "nested" "I" ∈ gWs := gWs_in (gT_1 (List.mem_of_getElem? (i := 117) rfl)) rfl
theorem mF_X1_27 : Cond.fieldLink RX1 27 "RouteWall$Expression" "parens" "I" ∈ gWs := gWs_in (gT_1 (List.mem_of_getElem? (i := 118) rfl)) rfl
theorem mF_X1_30 : Cond.fieldLink RX1 30 "RouteWall$Expression" "items" "I" ∈ gWs := gWs_in (gT_1 (List.mem_of_getElem? (i := 119) rfl)) rfl
theorem mF_X1_31 : Cond.fieldLink RX1 31 "RouteWall$Expression" "fault" "I" ∈ gWs := gWs_in (gT_1 (List.mem_of_getElem? (i := 120) rfl)) rfl
theorem mF_X3_12 : Cond.fieldLink RX3 12 "RouteWall$LawReader" "tokens" "LRouteWall$Tokens;" ∈ gWs := gWs_in (gT_1 (List.mem_of_getElem? (i := 134) rfl)) rfl
theorem mF_X3_21 : Cond.fieldLink RX3 21 "RouteWall$LawReader" "draft" "LRouteWall$Laws;" ∈ gWs := gWs_in (gT_1 (List.mem_of_getElem? (i := 135) rfl)) rfl
theorem mF_X10_100 : Cond.fieldLink RX10 100 "RouteWall$LawReader" "draft" "LRouteWall$Laws;" ∈ gWs := gWs_in (gT_1 (List.mem_of_getElem? (i := 136) rfl)) rfl
theorem mF_X3_28 : Cond.fieldLink RX3 28 "RouteWall$LawReader" "expression" "LRouteWall$Expression;" ∈ gWs := gWs_in (gT_1 (List.mem_of_getElem? (i := 137) rfl)) rfl
theorem mF_X3_32 : Cond.fieldLink RX3 32 "RouteWall$LawReader" "fault" "I" ∈ gWs := gWs_in (gT_1 (List.mem_of_getElem? (i := 138) rfl)) rfl
theorem mF_X10_96 : Cond.fieldLink RX10 96 "RouteWall$LawReader" "fault" "I" ∈ gWs := gWs_in (gT_1 (List.mem_of_getElem? (i := 139) rfl)) rfl
theorem mF_X3_36 : Cond.fieldLink RX3 36 "RouteWall$LawReader" "faultPlace" "I" ∈ gWs := gWs_in (gT_1 (List.mem_of_getElem? (i := 140) rfl)) rfl
theorem mF_X10_99 : Cond.fieldLink RX10 99 "RouteWall$LawReader" "faultPlace" "I" ∈ gWs := gWs_in (gT_1 (List.mem_of_getElem? (i := 141) rfl)) rfl
theorem mF_X3_39 : Cond.fieldLink RX3 39 "RouteWall$LawReader" "pointsTold" "Z" ∈ gWs := gWs_in (gT_1 (List.mem_of_getElem? (i := 142) rfl)) rfl
theorem mF_X3_43 : Cond.fieldLink RX3 43 "RouteWall$LawReader" "keysTold" "Z" ∈ gWs := gWs_in (gT_1 (List.mem_of_getElem? (i := 143) rfl)) rfl
theorem mF_X3_46 : Cond.fieldLink RX3 46 "RouteWall$LawReader" "tiesTold" "Z" ∈ gWs := gWs_in (gT_1 (List.mem_of_getElem? (i := 144) rfl)) rfl
theorem mK_X10_27 : Cond.classLink RX10 27 RX8 ∈ gWs := gWs_in (gT_1 (List.mem_of_getElem? (i := 162) rfl)) rfl
theorem mT_X8 : Cond.instantiable RX8 3 ∈ gWs := gWs_in (gT_1 (List.mem_of_getElem? (i := 163) rfl)) rfl
theorem mI_X8_init : Cond.instanceMethod yX8_init ∈ gWs := gWs_in (gT_1 (List.mem_of_getElem? (i := 165) rfl)) rfl
theorem mC_X8_init : Cond.code yX8_init cX8_init 1 none ∈ gWs := gWs_in (gT_1 (List.mem_of_getElem? (i := 166) rfl)) rfl
theorem mM_X8_3 : Cond.methodLink RX8 3 objectInit ∈ gWs := gWs_in (gT_1 (List.mem_of_getElem? (i := 167) rfl)) rfl
theorem mF_X8_9 : Cond.fieldLink RX8 9 "RouteWall$Wall" "holds" "[I" ∈ gWs := gWs_in (gT_1 (List.mem_of_getElem? (i := 168) rfl)) rfl
theorem mF_X8_15 : Cond.fieldLink RX8 15 "RouteWall$Wall" "begun" "[I" ∈ gWs := gWs_in (gT_1 (List.mem_of_getElem? (i := 169) rfl)) rfl
theorem mF_X8_18 : Cond.fieldLink RX8 18 "RouteWall$Wall" "zones" "[I" ∈ gWs := gWs_in (gT_1 (List.mem_of_getElem? (i := 170) rfl)) rfl
theorem mK_X10_34 : Cond.classLink RX10 34 RX2 ∈ gWs := gWs_in (gT_1 (List.mem_of_getElem? (i := 178) rfl)) rfl
theorem mT_X2 : Cond.instantiable RX2 4 ∈ gWs := gWs_in (gT_1 (List.mem_of_getElem? (i := 179) rfl)) rfl
theorem mI_X2_init : Cond.instanceMethod yX2_init ∈ gWs := gWs_in (gT_1 (List.mem_of_getElem? (i := 181) rfl)) rfl
theorem mC_X2_init : Cond.code yX2_init cX2_init 1 none ∈ gWs := gWs_in (gT_1 (List.mem_of_getElem? (i := 182) rfl)) rfl
theorem mM_X2_3 : Cond.methodLink RX2 3 objectInit ∈ gWs := gWs_in (gT_1 (List.mem_of_getElem? (i := 183) rfl)) rfl
theorem mF_X2_18 : Cond.fieldLink RX2 18 "RouteWall$Field" "climbers" "I" ∈ gWs := gWs_in (gT_1 (List.mem_of_getElem? (i := 184) rfl)) rfl
theorem mF_X10_123 : Cond.fieldLink RX10 123 "RouteWall$Field" "climbers" "I" ∈ gWs := gWs_in (gT_1 (List.mem_of_getElem? (i := 185) rfl)) rfl
theorem mF_X5_157 : Cond.fieldLink RX5 157 "RouteWall$Field" "climbers" "I" ∈ gWs := gWs_in (gT_1 (List.mem_of_getElem? (i := 186) rfl)) rfl
theorem mF_X2_22 : Cond.fieldLink RX2 22 "RouteWall$Field" "open" "I" ∈ gWs := gWs_in (gT_1 (List.mem_of_getElem? (i := 187) rfl)) rfl
theorem mF_X10_129 : Cond.fieldLink RX10 129 "RouteWall$Field" "open" "I" ∈ gWs := gWs_in (gT_1 (List.mem_of_getElem? (i := 188) rfl)) rfl
theorem mF_X2_9 : Cond.fieldLink RX2 9 "RouteWall$Field" "latest" "[I" ∈ gWs := gWs_in (gT_1 (List.mem_of_getElem? (i := 189) rfl)) rfl
theorem mF_X2_15 : Cond.fieldLink RX2 15 "RouteWall$Field" "cutDay" "[I" ∈ gWs := gWs_in (gT_1 (List.mem_of_getElem? (i := 190) rfl)) rfl
theorem mK_X10_41 : Cond.classLink RX10 41 RX7 ∈ gWs := gWs_in (gT_1 (List.mem_of_getElem? (i := 200) rfl)) rfl
theorem mT_X7 : Cond.instantiable RX7 9 ∈ gWs := gWs_in (gT_1 (List.mem_of_getElem? (i := 201) rfl)) rfl
theorem mI_X7_init : Cond.instanceMethod yX7_init ∈ gWs := gWs_in (gT_1 (List.mem_of_getElem? (i := 203) rfl)) rfl
theorem mC_X7_init : Cond.code yX7_init cX7_init 1 none ∈ gWs := gWs_in (gT_1 (List.mem_of_getElem? (i := 204) rfl)) rfl
theorem mM_X7_3 : Cond.methodLink RX7 3 objectInit ∈ gWs := gWs_in (gT_1 (List.mem_of_getElem? (i := 205) rfl)) rfl
theorem mF_X7_36 : Cond.fieldLink RX7 36 "RouteWall$Tries" "many" "I" ∈ gWs := gWs_in (gT_1 (List.mem_of_getElem? (i := 206) rfl)) rfl
theorem mF_X5_73 : Cond.fieldLink RX5 73 "RouteWall$Tries" "many" "I" ∈ gWs := gWs_in (gT_1 (List.mem_of_getElem? (i := 207) rfl)) rfl
theorem mF_X10_126 : Cond.fieldLink RX10 126 "RouteWall$Tries" "many" "I" ∈ gWs := gWs_in (gT_1 (List.mem_of_getElem? (i := 208) rfl)) rfl
theorem mF_X9_31 : Cond.fieldLink RX9 31 "RouteWall$Tries" "many" "I" ∈ gWs := gWs_in (gT_1 (List.mem_of_getElem? (i := 209) rfl)) rfl
theorem mF_X7_9 : Cond.fieldLink RX7 9 "RouteWall$Tries" "climber" "[I" ∈ gWs := gWs_in (gT_1 (List.mem_of_getElem? (i := 210) rfl)) rfl
theorem mF_X5_85 : Cond.fieldLink RX5 85 "RouteWall$Tries" "climber" "[I" ∈ gWs := gWs_in (gT_1 (List.mem_of_getElem? (i := 211) rfl)) rfl
theorem mF_X9_43 : Cond.fieldLink RX9 43 "RouteWall$Tries" "climber" "[I" ∈ gWs := gWs_in (gT_1 (List.mem_of_getElem? (i := 212) rfl)) rfl
theorem mF_X10_225 : Cond.fieldLink RX10 225 "RouteWall$Tries" "climber" "[I" ∈ gWs := gWs_in (gT_1 (List.mem_of_getElem? (i := 213) rfl)) rfl
theorem mF_X7_15 : Cond.fieldLink RX7 15 "RouteWall$Tries" "round" "[I" ∈ gWs := gWs_in (gT_1 (List.mem_of_getElem? (i := 214) rfl)) rfl
theorem mF_X5_82 : Cond.fieldLink RX5 82 "RouteWall$Tries" "round" "[I" ∈ gWs := gWs_in (gT_1 (List.mem_of_getElem? (i := 215) rfl)) rfl
theorem mF_X9_37 : Cond.fieldLink RX9 37 "RouteWall$Tries" "round" "[I" ∈ gWs := gWs_in (gT_1 (List.mem_of_getElem? (i := 216) rfl)) rfl
theorem mF_X10_200 : Cond.fieldLink RX10 200 "RouteWall$Tries" "round" "[I" ∈ gWs := gWs_in (gT_1 (List.mem_of_getElem? (i := 217) rfl)) rfl
theorem mF_X7_18 : Cond.fieldLink RX7 18 "RouteWall$Tries" "route" "[I" ∈ gWs := gWs_in (gT_1 (List.mem_of_getElem? (i := 218) rfl)) rfl
theorem mF_X5_88 : Cond.fieldLink RX5 88 "RouteWall$Tries" "route" "[I" ∈ gWs := gWs_in (gT_1 (List.mem_of_getElem? (i := 219) rfl)) rfl
theorem mF_X9_40 : Cond.fieldLink RX9 40 "RouteWall$Tries" "route" "[I" ∈ gWs := gWs_in (gT_1 (List.mem_of_getElem? (i := 220) rfl)) rfl
theorem mF_X10_203 : Cond.fieldLink RX10 203 "RouteWall$Tries" "route" "[I" ∈ gWs := gWs_in (gT_1 (List.mem_of_getElem? (i := 221) rfl)) rfl
theorem mF_X7_21 : Cond.fieldLink RX7 21 "RouteWall$Tries" "begun" "[I" ∈ gWs := gWs_in (gT_1 (List.mem_of_getElem? (i := 222) rfl)) rfl
theorem mF_X5_120 : Cond.fieldLink RX5 120 "RouteWall$Tries" "begun" "[I" ∈ gWs := gWs_in (gT_1 (List.mem_of_getElem? (i := 223) rfl)) rfl
theorem mF_X9_46 : Cond.fieldLink RX9 46 "RouteWall$Tries" "begun" "[I" ∈ gWs := gWs_in (gT_1 (List.mem_of_getElem? (i := 224) rfl)) rfl
theorem mF_X10_228 : Cond.fieldLink RX10 228 "RouteWall$Tries" "begun" "[I" ∈ gWs := gWs_in (gT_1 (List.mem_of_getElem? (i := 225) rfl)) rfl
theorem mF_X7_24 : Cond.fieldLink RX7 24 "RouteWall$Tries" "ended" "[I" ∈ gWs := gWs_in (gT_1 (List.mem_of_getElem? (i := 226) rfl)) rfl
theorem mF_X5_117 : Cond.fieldLink RX5 117 "RouteWall$Tries" "ended" "[I" ∈ gWs := gWs_in (gT_1 (List.mem_of_getElem? (i := 227) rfl)) rfl
theorem mF_X9_49 : Cond.fieldLink RX9 49 "RouteWall$Tries" "ended" "[I" ∈ gWs := gWs_in (gT_1 (List.mem_of_getElem? (i := 228) rfl)) rfl
theorem mF_X10_231 : Cond.fieldLink RX10 231 "RouteWall$Tries" "ended" "[I" ∈ gWs := gWs_in (gT_1 (List.mem_of_getElem? (i := 229) rfl)) rfl
theorem mF_X7_27 : Cond.fieldLink RX7 27 "RouteWall$Tries" "hold" "[I" ∈ gWs := gWs_in (gT_1 (List.mem_of_getElem? (i := 230) rfl)) rfl
theorem mF_X5_95 : Cond.fieldLink RX5 95 "RouteWall$Tries" "hold" "[I" ∈ gWs := gWs_in (gT_1 (List.mem_of_getElem? (i := 231) rfl)) rfl
theorem mF_X10_206 : Cond.fieldLink RX10 206 "RouteWall$Tries" "hold" "[I" ∈ gWs := gWs_in (gT_1 (List.mem_of_getElem? (i := 232) rfl)) rfl
theorem mF_X7_30 : Cond.fieldLink RX7 30 "RouteWall$Tries" "how" "[I" ∈ gWs := gWs_in (gT_1 (List.mem_of_getElem? (i := 233) rfl)) rfl
theorem mF_X5_79 : Cond.fieldLink RX5 79 "RouteWall$Tries" "how" "[I" ∈ gWs := gWs_in (gT_1 (List.mem_of_getElem? (i := 234) rfl)) rfl
theorem mF_X10_234 : Cond.fieldLink RX10 234 "RouteWall$Tries" "how" "[I" ∈ gWs := gWs_in (gT_1 (List.mem_of_getElem? (i := 235) rfl)) rfl
theorem mF_X7_33 : Cond.fieldLink RX7 33 "RouteWall$Tries" "openNext" "[I" ∈ gWs := gWs_in (gT_1 (List.mem_of_getElem? (i := 236) rfl)) rfl
theorem mK_X10_48 : Cond.classLink RX10 48 RX0 ∈ gWs := gWs_in (gT_2 (List.mem_of_getElem? (i := 16) rfl)) rfl
theorem mT_X0 : Cond.instantiable RX0 4 ∈ gWs := gWs_in (gT_2 (List.mem_of_getElem? (i := 17) rfl)) rfl
theorem mI_X0_init : Cond.instanceMethod yX0_init ∈ gWs := gWs_in (gT_2 (List.mem_of_getElem? (i := 19) rfl)) rfl
theorem mC_X0_init : Cond.code yX0_init cX0_init 1 none ∈ gWs := gWs_in (gT_2 (List.mem_of_getElem? (i := 20) rfl)) rfl
theorem mM_X0_3 : Cond.methodLink RX0 3 objectInit ∈ gWs := gWs_in (gT_2 (List.mem_of_getElem? (i := 21) rfl)) rfl
theorem mF_X0_21 : Cond.fieldLink RX0 21 "RouteWall$Appeals" "many" "I" ∈ gWs := gWs_in (gT_2 (List.mem_of_getElem? (i := 22) rfl)) rfl
theorem mF_X5_98 : Cond.fieldLink RX5 98 "RouteWall$Appeals" "many" "I" ∈ gWs := gWs_in (gT_2 (List.mem_of_getElem? (i := 23) rfl)) rfl
theorem mF_X10_251 : Cond.fieldLink RX10 251 "RouteWall$Appeals" "many" "I" ∈ gWs := gWs_in (gT_2 (List.mem_of_getElem? (i := 24) rfl)) rfl
theorem mF_X0_9 : Cond.fieldLink RX0 9 "RouteWall$Appeals" "number" "[I" ∈ gWs := gWs_in (gT_2 (List.mem_of_getElem? (i := 25) rfl)) rfl
theorem mF_X5_101 : Cond.fieldLink RX5 101 "RouteWall$Appeals" "number" "[I" ∈ gWs := gWs_in (gT_2 (List.mem_of_getElem? (i := 26) rfl)) rfl
theorem mF_X0_15 : Cond.fieldLink RX0 15 "RouteWall$Appeals" "hold" "[I" ∈ gWs := gWs_in (gT_2 (List.mem_of_getElem? (i := 27) rfl)) rfl
theorem mF_X5_107 : Cond.fieldLink RX5 107 "RouteWall$Appeals" "hold" "[I" ∈ gWs := gWs_in (gT_2 (List.mem_of_getElem? (i := 28) rfl)) rfl
theorem mF_X0_18 : Cond.fieldLink RX0 18 "RouteWall$Appeals" "day" "[I" ∈ gWs := gWs_in (gT_2 (List.mem_of_getElem? (i := 29) rfl)) rfl
theorem mF_X5_104 : Cond.fieldLink RX5 104 "RouteWall$Appeals" "day" "[I" ∈ gWs := gWs_in (gT_2 (List.mem_of_getElem? (i := 30) rfl)) rfl
theorem mK_X10_55 : Cond.classLink RX10 55 RX9 ∈ gWs := gWs_in (gT_2 (List.mem_of_getElem? (i := 40) rfl)) rfl
theorem mT_X9 : Cond.instantiable RX9 3 ∈ gWs := gWs_in (gT_2 (List.mem_of_getElem? (i := 41) rfl)) rfl
theorem mI_X9_init : Cond.instanceMethod yX9_init ∈ gWs := gWs_in (gT_2 (List.mem_of_getElem? (i := 43) rfl)) rfl
theorem mC_X9_init : Cond.code yX9_init cX9_init 1 none ∈ gWs := gWs_in (gT_2 (List.mem_of_getElem? (i := 44) rfl)) rfl
theorem mM_X9_3 : Cond.methodLink RX9 3 objectInit ∈ gWs := gWs_in (gT_2 (List.mem_of_getElem? (i := 45) rfl)) rfl
theorem mF_X9_9 : Cond.fieldLink RX9 9 "RouteWall$Watch" "times" "[I" ∈ gWs := gWs_in (gT_2 (List.mem_of_getElem? (i := 46) rfl)) rfl
theorem mF_X10_218 : Cond.fieldLink RX10 218 "RouteWall$Watch" "times" "[I" ∈ gWs := gWs_in (gT_2 (List.mem_of_getElem? (i := 47) rfl)) rfl
theorem mF_X9_15 : Cond.fieldLink RX9 15 "RouteWall$Watch" "wentOut" "[I" ∈ gWs := gWs_in (gT_2 (List.mem_of_getElem? (i := 48) rfl)) rfl
theorem mF_X9_18 : Cond.fieldLink RX9 18 "RouteWall$Watch" "cameIn" "[I" ∈ gWs := gWs_in (gT_2 (List.mem_of_getElem? (i := 49) rfl)) rfl
theorem mK_X10_62 : Cond.classLink RX10 62 RX5 ∈ gWs := gWs_in (gT_2 (List.mem_of_getElem? (i := 57) rfl)) rfl
theorem mT_X5 : Cond.instantiable RX5 15 ∈ gWs := gWs_in (gT_2 (List.mem_of_getElem? (i := 58) rfl)) rfl
theorem mM_X10_64 : Cond.methodLink RX10 64 yX5_init ∈ gWs := gWs_in (gT_2 (List.mem_of_getElem? (i := 59) rfl)) rfl
theorem mI_X5_init : Cond.instanceMethod yX5_init ∈ gWs := gWs_in (gT_2 (List.mem_of_getElem? (i := 60) rfl)) rfl
theorem mC_X5_init : Cond.code yX5_init cX5_init 6 none ∈ gWs := gWs_in (gT_2 (List.mem_of_getElem? (i := 61) rfl)) rfl
theorem mM_X5_3 : Cond.methodLink RX5 3 objectInit ∈ gWs := gWs_in (gT_2 (List.mem_of_getElem? (i := 62) rfl)) rfl
theorem mF_X5_43 : Cond.fieldLink RX5 43 "RouteWall$Results" "laws" "LRouteWall$Laws;" ∈ gWs := gWs_in (gT_2 (List.mem_of_getElem? (i := 63) rfl)) rfl
theorem mF_X5_47 : Cond.fieldLink RX5 47 "RouteWall$Results" "wall" "LRouteWall$Wall;" ∈ gWs := gWs_in (gT_2 (List.mem_of_getElem? (i := 64) rfl)) rfl
theorem mF_X5_51 : Cond.fieldLink RX5 51 "RouteWall$Results" "field" "LRouteWall$Field;" ∈ gWs := gWs_in (gT_2 (List.mem_of_getElem? (i := 65) rfl)) rfl
theorem mF_X5_55 : Cond.fieldLink RX5 55 "RouteWall$Results" "tries" "LRouteWall$Tries;" ∈ gWs := gWs_in (gT_2 (List.mem_of_getElem? (i := 66) rfl)) rfl
theorem mF_X5_59 : Cond.fieldLink RX5 59 "RouteWall$Results" "appeals" "LRouteWall$Appeals;" ∈ gWs := gWs_in (gT_2 (List.mem_of_getElem? (i := 67) rfl)) rfl
theorem mF_X5_9 : Cond.fieldLink RX5 9 "RouteWall$Results" "known" "[I" ∈ gWs := gWs_in (gT_2 (List.mem_of_getElem? (i := 68) rfl)) rfl
theorem mF_X5_15 : Cond.fieldLink RX5 15 "RouteWall$Results" "knownDay" "[I" ∈ gWs := gWs_in (gT_2 (List.mem_of_getElem? (i := 69) rfl)) rfl
theorem mF_X5_18 : Cond.fieldLink RX5 18 "RouteWall$Results" "counted" "[I" ∈ gWs := gWs_in (gT_2 (List.mem_of_getElem? (i := 70) rfl)) rfl
theorem mF_X5_21 : Cond.fieldLink RX5 21 "RouteWall$Results" "best" "[I" ∈ gWs := gWs_in (gT_2 (List.mem_of_getElem? (i := 71) rfl)) rfl
theorem mF_X5_24 : Cond.fieldLink RX5 24 "RouteWall$Results" "bestNumber" "[I" ∈ gWs := gWs_in (gT_2 (List.mem_of_getElem? (i := 72) rfl)) rfl
theorem mF_X5_27 : Cond.fieldLink RX5 27 "RouteWall$Results" "facts" "[I" ∈ gWs := gWs_in (gT_2 (List.mem_of_getElem? (i := 73) rfl)) rfl
theorem mF_X10_261 : Cond.fieldLink RX10 261 "RouteWall$Results" "facts" "[I" ∈ gWs := gWs_in (gT_2 (List.mem_of_getElem? (i := 74) rfl)) rfl
theorem mF_X5_30 : Cond.fieldLink RX5 30 "RouteWall$Results" "points" "[I" ∈ gWs := gWs_in (gT_2 (List.mem_of_getElem? (i := 75) rfl)) rfl
theorem mF_X5_33 : Cond.fieldLink RX5 33 "RouteWall$Results" "totals" "[J" ∈ gWs := gWs_in (gT_2 (List.mem_of_getElem? (i := 76) rfl)) rfl
theorem mF_X5_37 : Cond.fieldLink RX5 37 "RouteWall$Results" "keyRows" "[J" ∈ gWs := gWs_in (gT_2 (List.mem_of_getElem? (i := 77) rfl)) rfl
theorem mF_X5_40 : Cond.fieldLink RX5 40 "RouteWall$Results" "ranks" "[I" ∈ gWs := gWs_in (gT_2 (List.mem_of_getElem? (i := 78) rfl)) rfl
theorem mF_X10_284 : Cond.fieldLink RX10 284 "RouteWall$Results" "ranks" "[I" ∈ gWs := gWs_in (gT_2 (List.mem_of_getElem? (i := 79) rfl)) rfl
theorem mF_X10_9 : Cond.fieldLink RX10 9 "RouteWall" "tape" "[I" ∈ gWs := gWs_in (gT_2 (List.mem_of_getElem? (i := 111) rfl)) rfl
theorem mF_X10_81 : Cond.fieldLink RX10 81 "RouteWall" "taped" "I" ∈ gWs := gWs_in (gT_2 (List.mem_of_getElem? (i := 112) rfl)) rfl
theorem mF_X10_16 : Cond.fieldLink RX10 16 "RouteWall" "laws" "LRouteWall$Laws;" ∈ gWs := gWs_in (gT_2 (List.mem_of_getElem? (i := 113) rfl)) rfl
theorem mF_X10_23 : Cond.fieldLink RX10 23 "RouteWall" "reader" "LRouteWall$LawReader;" ∈ gWs := gWs_in (gT_2 (List.mem_of_getElem? (i := 114) rfl)) rfl
theorem mF_X10_30 : Cond.fieldLink RX10 30 "RouteWall" "wall" "LRouteWall$Wall;" ∈ gWs := gWs_in (gT_2 (List.mem_of_getElem? (i := 115) rfl)) rfl
theorem mF_X10_37 : Cond.fieldLink RX10 37 "RouteWall" "field" "LRouteWall$Field;" ∈ gWs := gWs_in (gT_2 (List.mem_of_getElem? (i := 116) rfl)) rfl
theorem mF_X10_44 : Cond.fieldLink RX10 44 "RouteWall" "tries" "LRouteWall$Tries;" ∈ gWs := gWs_in (gT_2 (List.mem_of_getElem? (i := 117) rfl)) rfl
theorem mF_X10_51 : Cond.fieldLink RX10 51 "RouteWall" "appeals" "LRouteWall$Appeals;" ∈ gWs := gWs_in (gT_2 (List.mem_of_getElem? (i := 118) rfl)) rfl
theorem mF_X10_58 : Cond.fieldLink RX10 58 "RouteWall" "watch" "LRouteWall$Watch;" ∈ gWs := gWs_in (gT_2 (List.mem_of_getElem? (i := 119) rfl)) rfl
theorem mF_X10_67 : Cond.fieldLink RX10 67 "RouteWall" "results" "LRouteWall$Results;" ∈ gWs := gWs_in (gT_2 (List.mem_of_getElem? (i := 120) rfl)) rfl
theorem mF_X10_71 : Cond.fieldLink RX10 71 "RouteWall" "state" "I" ∈ gWs := gWs_in (gT_2 (List.mem_of_getElem? (i := 121) rfl)) rfl
theorem mF_X10_114 : Cond.fieldLink RX10 114 "RouteWall" "time" "I" ∈ gWs := gWs_in (gT_2 (List.mem_of_getElem? (i := 122) rfl)) rfl
theorem mF_X10_75 : Cond.fieldLink RX10 75 "RouteWall" "faultKind" "I" ∈ gWs := gWs_in (gT_2 (List.mem_of_getElem? (i := 123) rfl)) rfl
theorem mF_X10_78 : Cond.fieldLink RX10 78 "RouteWall" "faultPlace" "I" ∈ gWs := gWs_in (gT_2 (List.mem_of_getElem? (i := 124) rfl)) rfl
theorem mM_L_13 : Cond.methodLink RL 13 yX10_status ∈ gWs := gWs_in (gT_2 (List.mem_of_getElem? (i := 154) rfl)) rfl
theorem mI_X10_status : Cond.instanceMethod yX10_status ∈ gWs := gWs_in (gT_2 (List.mem_of_getElem? (i := 155) rfl)) rfl
theorem mE_X10_status : Cond.selects RX10 yX10_status yX10_status ∈ gWs := gWs_in (gT_2 (List.mem_of_getElem? (i := 156) rfl)) rfl
theorem mC_X10_status : Cond.code yX10_status cX10_status 1 (some .int) ∈ gWs := gWs_in (gT_2 (List.mem_of_getElem? (i := 157) rfl)) rfl
theorem mM_L_18 : Cond.methodLink RL 18 yX10_feed ∈ gWs := gWs_in (gT_2 (List.mem_of_getElem? (i := 158) rfl)) rfl
theorem mI_X10_feed : Cond.instanceMethod yX10_feed ∈ gWs := gWs_in (gT_2 (List.mem_of_getElem? (i := 159) rfl)) rfl
theorem mE_X10_feed : Cond.selects RX10 yX10_feed yX10_feed ∈ gWs := gWs_in (gT_2 (List.mem_of_getElem? (i := 160) rfl)) rfl
theorem mC_X10_feed : Cond.code yX10_feed cX10_feed 6 (some .int) ∈ gWs := gWs_in (gT_2 (List.mem_of_getElem? (i := 161) rfl)) rfl
theorem mM_X10_84 : Cond.methodLink RX10 84 yX10_putOnTape ∈ gWs := gWs_in (gT_2 (List.mem_of_getElem? (i := 162) rfl)) rfl
theorem mI_X10_putOnTape : Cond.instanceMethod yX10_putOnTape ∈ gWs := gWs_in (gT_2 (List.mem_of_getElem? (i := 164) rfl)) rfl
theorem mC_X10_putOnTape : Cond.code yX10_putOnTape cX10_putOnTape 3 none ∈ gWs := gWs_in (gT_2 (List.mem_of_getElem? (i := 165) rfl)) rfl
theorem mM_L_23 : Cond.methodLink RL 23 yX10_load ∈ gWs := gWs_in (gT_2 (List.mem_of_getElem? (i := 166) rfl)) rfl
theorem mI_X10_load : Cond.instanceMethod yX10_load ∈ gWs := gWs_in (gT_2 (List.mem_of_getElem? (i := 167) rfl)) rfl
theorem mE_X10_load : Cond.selects RX10 yX10_load yX10_load ∈ gWs := gWs_in (gT_2 (List.mem_of_getElem? (i := 168) rfl)) rfl
theorem mC_X10_load : Cond.code yX10_load cX10_load 2 (some .int) ∈ gWs := gWs_in (gT_2 (List.mem_of_getElem? (i := 169) rfl)) rfl
theorem mM_X10_88 : Cond.methodLink RX10 88 yX10_refuse ∈ gWs := gWs_in (gT_2 (List.mem_of_getElem? (i := 170) rfl)) rfl
theorem mI_X10_refuse : Cond.instanceMethod yX10_refuse ∈ gWs := gWs_in (gT_2 (List.mem_of_getElem? (i := 172) rfl)) rfl
theorem mC_X10_refuse : Cond.code yX10_refuse cX10_refuse 2 (some .int) ∈ gWs := gWs_in (gT_2 (List.mem_of_getElem? (i := 173) rfl)) rfl
theorem mM_X10_92 : Cond.methodLink RX10 92 yX3_read ∈ gWs := gWs_in (gT_2 (List.mem_of_getElem? (i := 174) rfl)) rfl
theorem mI_X3_read : Cond.instanceMethod yX3_read ∈ gWs := gWs_in (gT_2 (List.mem_of_getElem? (i := 175) rfl)) rfl
theorem mE_X3_read : Cond.selects RX3 yX3_read yX3_read ∈ gWs := gWs_in (gT_2 (List.mem_of_getElem? (i := 176) rfl)) rfl
theorem mC_X3_read : Cond.code yX3_read cX3_read 4 none ∈ gWs := gWs_in (gT_2 (List.mem_of_getElem? (i := 177) rfl)) rfl
theorem mM_X3_49 : Cond.methodLink RX3 49 yX4_setUntold ∈ gWs := gWs_in (gT_2 (List.mem_of_getElem? (i := 178) rfl)) rfl
theorem mI_X4_setUntold : Cond.instanceMethod yX4_setUntold ∈ gWs := gWs_in (gT_2 (List.mem_of_getElem? (i := 179) rfl)) rfl
theorem mE_X4_setUntold : Cond.selects RX4 yX4_setUntold yX4_setUntold ∈ gWs := gWs_in (gT_2 (List.mem_of_getElem? (i := 180) rfl)) rfl
theorem mC_X4_setUntold : Cond.code yX4_setUntold cX4_setUntold 1 none ∈ gWs := gWs_in (gT_2 (List.mem_of_getElem? (i := 181) rfl)) rfl
theorem mM_X4_38 : Cond.methodLink RX4 38 yX4_addItem ∈ gWs := gWs_in (gT_2 (List.mem_of_getElem? (i := 182) rfl)) rfl
theorem mI_X4_addItem : Cond.instanceMethod yX4_addItem ∈ gWs := gWs_in (gT_2 (List.mem_of_getElem? (i := 183) rfl)) rfl
theorem mE_X4_addItem : Cond.selects RX4 yX4_addItem yX4_addItem ∈ gWs := gWs_in (gT_2 (List.mem_of_getElem? (i := 184) rfl)) rfl
theorem mC_X4_addItem : Cond.code yX4_addItem cX4_addItem 3 none ∈ gWs := gWs_in (gT_2 (List.mem_of_getElem? (i := 185) rfl)) rfl
theorem mM_X4_45 : Cond.methodLink RX4 45 yX4_addKey ∈ gWs := gWs_in (gT_2 (List.mem_of_getElem? (i := 186) rfl)) rfl
theorem mI_X4_addKey : Cond.instanceMethod yX4_addKey ∈ gWs := gWs_in (gT_2 (List.mem_of_getElem? (i := 187) rfl)) rfl
theorem mE_X4_addKey : Cond.selects RX4 yX4_addKey yX4_addKey ∈ gWs := gWs_in (gT_2 (List.mem_of_getElem? (i := 188) rfl)) rfl
theorem mC_X4_addKey : Cond.code yX4_addKey cX4_addKey 3 none ∈ gWs := gWs_in (gT_2 (List.mem_of_getElem? (i := 189) rfl)) rfl
theorem mM_X3_52 : Cond.methodLink RX3 52 yX6_split ∈ gWs := gWs_in (gT_2 (List.mem_of_getElem? (i := 190) rfl)) rfl
theorem mI_X6_split : Cond.instanceMethod yX6_split ∈ gWs := gWs_in (gT_2 (List.mem_of_getElem? (i := 191) rfl)) rfl
theorem mE_X6_split : Cond.selects RX6 yX6_split yX6_split ∈ gWs := gWs_in (gT_2 (List.mem_of_getElem? (i := 192) rfl)) rfl
theorem mC_X6_split : Cond.code yX6_split cX6_split 6 none ∈ gWs := gWs_in (gT_2 (List.mem_of_getElem? (i := 193) rfl)) rfl
theorem mM_X6_28 : Cond.methodLink RX6 28 yX6_isLetter ∈ gWs := gWs_in (gT_2 (List.mem_of_getElem? (i := 194) rfl)) rfl
theorem mS_X6_isLetter : Cond.static yX6_isLetter ∈ gWs := gWs_in (gT_2 (List.mem_of_getElem? (i := 195) rfl)) rfl
theorem mC_X6_isLetter : Cond.code yX6_isLetter cX6_isLetter 1 (some .boolean) ∈ gWs := gWs_in (gT_2 (List.mem_of_getElem? (i := 196) rfl)) rfl
theorem mM_X6_32 : Cond.methodLink RX6 32 yX6_putWord ∈ gWs := gWs_in (gT_2 (List.mem_of_getElem? (i := 197) rfl)) rfl
theorem mI_X6_putWord : Cond.instanceMethod yX6_putWord ∈ gWs := gWs_in (gT_2 (List.mem_of_getElem? (i := 199) rfl)) rfl
theorem mC_X6_putWord : Cond.code yX6_putWord cX6_putWord 5 (some .int) ∈ gWs := gWs_in (gT_2 (List.mem_of_getElem? (i := 200) rfl)) rfl
theorem mM_X6_49 : Cond.methodLink RX6 49 yX6_wordKind ∈ gWs := gWs_in (gT_2 (List.mem_of_getElem? (i := 201) rfl)) rfl
theorem mS_X6_wordKind : Cond.static yX6_wordKind ∈ gWs := gWs_in (gT_2 (List.mem_of_getElem? (i := 202) rfl)) rfl
theorem mC_X6_wordKind : Cond.code yX6_wordKind cX6_wordKind 8 (some .int) ∈ gWs := gWs_in (gT_2 (List.mem_of_getElem? (i := 203) rfl)) rfl
theorem mM_X6_54 : Cond.methodLink RX6 54 yJ0_length_8abf5 ∈ gWs := gWs_in (gT_2 (List.mem_of_getElem? (i := 205) rfl)) rfl
theorem mI_J0_length_8abf5 : Cond.instanceMethod yJ0_length_8abf5 ∈ gWs := gWs_in (gT_2 (List.mem_of_getElem? (i := 206) rfl)) rfl
theorem mE_J0_length_8abf5 : Cond.selects RJ0 yJ0_length_8abf5 yJ0_length_8abf5 ∈ gWs := gWs_in (gT_2 (List.mem_of_getElem? (i := 207) rfl)) rfl
theorem mC_J0_length_8abf5 : Cond.code yJ0_length_8abf5 cJ0_length_8abf5 1 (some .int) ∈ gWs := gWs_in (gT_2 (List.mem_of_getElem? (i := 208) rfl)) rfl
theorem mM_J0_335 : Cond.methodLink RJ0 335 yJ0_coder_7d493 ∈ gWs := gWs_in (gT_2 (List.mem_of_getElem? (i := 209) rfl)) rfl
theorem mI_J0_coder_7d493 : Cond.instanceMethod yJ0_coder_7d493 ∈ gWs := gWs_in (gT_2 (List.mem_of_getElem? (i := 210) rfl)) rfl
theorem mE_J0_coder_7d493 : Cond.selects RJ0 yJ0_coder_7d493 yJ0_coder_7d493 ∈ gWs := gWs_in (gT_2 (List.mem_of_getElem? (i := 211) rfl)) rfl
theorem mC_J0_coder_7d493 : Cond.code yJ0_coder_7d493 cJ0_coder_7d493 1 (some .byte) ∈ gWs := gWs_in (gT_2 (List.mem_of_getElem? (i := 212) rfl)) rfl
theorem mF_J0_38 : Cond.fieldLink RJ0 38 "java/lang/String" "COMPACT_STRINGS" "Z" ∈ gWs := gWs_in (gT_2 (List.mem_of_getElem? (i := 213) rfl)) rfl
theorem mM_X6_60 : Cond.methodLink RX6 60 yJ0_charAt_5068e ∈ gWs := gWs_in (gT_2 (List.mem_of_getElem? (i := 215) rfl)) rfl
theorem mI_J0_charAt_5068e : Cond.instanceMethod yJ0_charAt_5068e ∈ gWs := gWs_in (gT_2 (List.mem_of_getElem? (i := 216) rfl)) rfl
theorem mE_J0_charAt_5068e : Cond.selects RJ0 yJ0_charAt_5068e yJ0_charAt_5068e ∈ gWs := gWs_in (gT_2 (List.mem_of_getElem? (i := 217) rfl)) rfl
theorem mC_J0_charAt_5068e : Cond.code yJ0_charAt_5068e cJ0_charAt_5068e 2 (some .char) ∈ gWs := gWs_in (gT_2 (List.mem_of_getElem? (i := 218) rfl)) rfl
theorem mM_J0_492 : Cond.methodLink RJ0 492 yJ0_isLatin1_aae02 ∈ gWs := gWs_in (gT_2 (List.mem_of_getElem? (i := 219) rfl)) rfl
theorem mI_J0_isLatin1_aae02 : Cond.instanceMethod yJ0_isLatin1_aae02 ∈ gWs := gWs_in (gT_2 (List.mem_of_getElem? (i := 220) rfl)) rfl
theorem mE_J0_isLatin1_aae02 : Cond.selects RJ0 yJ0_isLatin1_aae02 yJ0_isLatin1_aae02 ∈ gWs := gWs_in (gT_2 (List.mem_of_getElem? (i := 221) rfl)) rfl
theorem mC_J0_isLatin1_aae02 : Cond.code yJ0_isLatin1_aae02 cJ0_isLatin1_aae02 1 (some .boolean) ∈ gWs := gWs_in (gT_2 (List.mem_of_getElem? (i := 222) rfl)) rfl
theorem mM_J0_495 : Cond.methodLink RJ0 495 yJ1_charAt_3b067 ∈ gWs := gWs_in (gT_2 (List.mem_of_getElem? (i := 223) rfl)) rfl
theorem mS_J1_charAt_3b067 : Cond.static yJ1_charAt_3b067 ∈ gWs := gWs_in (gT_2 (List.mem_of_getElem? (i := 224) rfl)) rfl
theorem mC_J1_charAt_3b067 : Cond.code yJ1_charAt_3b067 cJ1_charAt_3b067 2 (some .char) ∈ gWs := gWs_in (gT_2 (List.mem_of_getElem? (i := 225) rfl)) rfl
theorem mM_J1_9 : Cond.methodLink RJ1 9 yJ0_checkIndex_df160 ∈ gWs := gWs_in (gT_2 (List.mem_of_getElem? (i := 226) rfl)) rfl
theorem mS_J0_checkIndex_df160 : Cond.static yJ0_checkIndex_df160 ∈ gWs := gWs_in (gT_2 (List.mem_of_getElem? (i := 227) rfl)) rfl
theorem mC_J0_checkIndex_df160 : Cond.code yJ0_checkIndex_df160 cJ0_checkIndex_df160 2 none ∈ gWs := gWs_in (gT_2 (List.mem_of_getElem? (i := 228) rfl)) rfl
theorem mF_J0_1053 : Cond.fieldLink RJ0 1053 "jdk/internal/util/Preconditions" "SIOOBE_FORMATTER" "Ljava/util/function/BiFunction;" ∈ gWs := gWs_in (gT_2 (List.mem_of_getElem? (i := 229) rfl)) rfl
theorem mM_J0_1059 : Cond.methodLink RJ0 1059 yJ3_checkIndex_8e157 ∈ gWs := gWs_in (gT_2 (List.mem_of_getElem? (i := 231) rfl)) rfl
theorem mS_J3_checkIndex_8e157 : Cond.static yJ3_checkIndex_8e157 ∈ gWs := gWs_in (gT_2 (List.mem_of_getElem? (i := 232) rfl)) rfl
theorem mC_J3_checkIndex_8e157 : Cond.code yJ3_checkIndex_8e157 cJ3_checkIndex_8e157 3 (some .int) ∈ gWs := gWs_in (gT_2 (List.mem_of_getElem? (i := 233) rfl)) rfl
theorem mM_X6_45 : Cond.methodLink RX6 45 yX6_put ∈ gWs := gWs_in (gT_3 (List.mem_of_getElem? (i := 13) rfl)) rfl
theorem mI_X6_put : Cond.instanceMethod yX6_put ∈ gWs := gWs_in (gT_3 (List.mem_of_getElem? (i := 15) rfl)) rfl
theorem mC_X6_put : Cond.code yX6_put cX6_put 4 none ∈ gWs := gWs_in (gT_3 (List.mem_of_getElem? (i := 16) rfl)) rfl
theorem mM_X6_36 : Cond.methodLink RX6 36 yX6_isDigit ∈ gWs := gWs_in (gT_3 (List.mem_of_getElem? (i := 17) rfl)) rfl
theorem mS_X6_isDigit : Cond.static yX6_isDigit ∈ gWs := gWs_in (gT_3 (List.mem_of_getElem? (i := 18) rfl)) rfl
theorem mC_X6_isDigit : Cond.code yX6_isDigit cX6_isDigit 1 (some .boolean) ∈ gWs := gWs_in (gT_3 (List.mem_of_getElem? (i := 19) rfl)) rfl
theorem mM_X6_39 : Cond.methodLink RX6 39 yX6_putNumber ∈ gWs := gWs_in (gT_3 (List.mem_of_getElem? (i := 20) rfl)) rfl
theorem mI_X6_putNumber : Cond.instanceMethod yX6_putNumber ∈ gWs := gWs_in (gT_3 (List.mem_of_getElem? (i := 22) rfl)) rfl
theorem mC_X6_putNumber : Cond.code yX6_putNumber cX6_putNumber 6 (some .int) ∈ gWs := gWs_in (gT_3 (List.mem_of_getElem? (i := 23) rfl)) rfl
theorem mM_X6_42 : Cond.methodLink RX6 42 yX6_isSign ∈ gWs := gWs_in (gT_3 (List.mem_of_getElem? (i := 24) rfl)) rfl
theorem mS_X6_isSign : Cond.static yX6_isSign ∈ gWs := gWs_in (gT_3 (List.mem_of_getElem? (i := 25) rfl)) rfl
theorem mC_X6_isSign : Cond.code yX6_isSign cX6_isSign 1 (some .boolean) ∈ gWs := gWs_in (gT_3 (List.mem_of_getElem? (i := 26) rfl)) rfl
theorem mM_X3_56 : Cond.methodLink RX3 56 yX6_kind ∈ gWs := gWs_in (gT_3 (List.mem_of_getElem? (i := 27) rfl)) rfl
theorem mI_X6_kind : Cond.instanceMethod yX6_kind ∈ gWs := gWs_in (gT_3 (List.mem_of_getElem? (i := 28) rfl)) rfl
theorem mE_X6_kind : Cond.selects RX6 yX6_kind yX6_kind ∈ gWs := gWs_in (gT_3 (List.mem_of_getElem? (i := 29) rfl)) rfl
theorem mC_X6_kind : Cond.code yX6_kind cX6_kind 1 (some .int) ∈ gWs := gWs_in (gT_3 (List.mem_of_getElem? (i := 30) rfl)) rfl
theorem mM_X3_60 : Cond.methodLink RX3 60 yX3_readLaw ∈ gWs := gWs_in (gT_3 (List.mem_of_getElem? (i := 31) rfl)) rfl
theorem mI_X3_readLaw : Cond.instanceMethod yX3_readLaw ∈ gWs := gWs_in (gT_3 (List.mem_of_getElem? (i := 33) rfl)) rfl
theorem mC_X3_readLaw : Cond.code yX3_readLaw cX3_readLaw 1 none ∈ gWs := gWs_in (gT_3 (List.mem_of_getElem? (i := 34) rfl)) rfl
theorem mM_X3_63 : Cond.methodLink RX3 63 yX3_readRound ∈ gWs := gWs_in (gT_3 (List.mem_of_getElem? (i := 35) rfl)) rfl
theorem mI_X3_readRound : Cond.instanceMethod yX3_readRound ∈ gWs := gWs_in (gT_3 (List.mem_of_getElem? (i := 37) rfl)) rfl
theorem mC_X3_readRound : Cond.code yX3_readRound cX3_readRound 3 none ∈ gWs := gWs_in (gT_3 (List.mem_of_getElem? (i := 38) rfl)) rfl
theorem mM_X3_66 : Cond.methodLink RX3 66 yX3_refuseIf ∈ gWs := gWs_in (gT_3 (List.mem_of_getElem? (i := 39) rfl)) rfl
theorem mI_X3_refuseIf : Cond.instanceMethod yX3_refuseIf ∈ gWs := gWs_in (gT_3 (List.mem_of_getElem? (i := 41) rfl)) rfl
theorem mC_X3_refuseIf : Cond.code yX3_refuseIf cX3_refuseIf 3 none ∈ gWs := gWs_in (gT_3 (List.mem_of_getElem? (i := 42) rfl)) rfl
theorem mM_X3_78 : Cond.methodLink RX3 78 yX3_note ∈ gWs := gWs_in (gT_3 (List.mem_of_getElem? (i := 43) rfl)) rfl
theorem mI_X3_note : Cond.instanceMethod yX3_note ∈ gWs := gWs_in (gT_3 (List.mem_of_getElem? (i := 45) rfl)) rfl
theorem mC_X3_note : Cond.code yX3_note cX3_note 2 none ∈ gWs := gWs_in (gT_3 (List.mem_of_getElem? (i := 46) rfl)) rfl
theorem mM_X3_94 : Cond.methodLink RX3 94 yX6_place ∈ gWs := gWs_in (gT_3 (List.mem_of_getElem? (i := 47) rfl)) rfl
theorem mI_X6_place : Cond.instanceMethod yX6_place ∈ gWs := gWs_in (gT_3 (List.mem_of_getElem? (i := 48) rfl)) rfl
theorem mE_X6_place : Cond.selects RX6 yX6_place yX6_place ∈ gWs := gWs_in (gT_3 (List.mem_of_getElem? (i := 49) rfl)) rfl
theorem mC_X6_place : Cond.code yX6_place cX6_place 1 (some .int) ∈ gWs := gWs_in (gT_3 (List.mem_of_getElem? (i := 50) rfl)) rfl
theorem mM_X3_70 : Cond.methodLink RX3 70 yX3_goOn ∈ gWs := gWs_in (gT_3 (List.mem_of_getElem? (i := 51) rfl)) rfl
theorem mI_X3_goOn : Cond.instanceMethod yX3_goOn ∈ gWs := gWs_in (gT_3 (List.mem_of_getElem? (i := 53) rfl)) rfl
theorem mC_X3_goOn : Cond.code yX3_goOn cX3_goOn 1 (some .boolean) ∈ gWs := gWs_in (gT_3 (List.mem_of_getElem? (i := 54) rfl)) rfl
theorem mM_X3_97 : Cond.methodLink RX3 97 yX6_step ∈ gWs := gWs_in (gT_3 (List.mem_of_getElem? (i := 55) rfl)) rfl
theorem mI_X6_step : Cond.instanceMethod yX6_step ∈ gWs := gWs_in (gT_3 (List.mem_of_getElem? (i := 56) rfl)) rfl
theorem mE_X6_step : Cond.selects RX6 yX6_step yX6_step ∈ gWs := gWs_in (gT_3 (List.mem_of_getElem? (i := 57) rfl)) rfl
theorem mC_X6_step : Cond.code yX6_step cX6_step 1 none ∈ gWs := gWs_in (gT_3 (List.mem_of_getElem? (i := 58) rfl)) rfl
theorem mM_X3_103 : Cond.methodLink RX3 103 yX6_value ∈ gWs := gWs_in (gT_3 (List.mem_of_getElem? (i := 59) rfl)) rfl
theorem mI_X6_value : Cond.instanceMethod yX6_value ∈ gWs := gWs_in (gT_3 (List.mem_of_getElem? (i := 60) rfl)) rfl
theorem mE_X6_value : Cond.selects RX6 yX6_value yX6_value ∈ gWs := gWs_in (gT_3 (List.mem_of_getElem? (i := 61) rfl)) rfl
theorem mC_X6_value : Cond.code yX6_value cX6_value 1 (some .int) ∈ gWs := gWs_in (gT_3 (List.mem_of_getElem? (i := 62) rfl)) rfl
theorem mM_X3_91 : Cond.methodLink RX3 91 yX3_pass ∈ gWs := gWs_in (gT_3 (List.mem_of_getElem? (i := 67) rfl)) rfl
theorem mI_X3_pass : Cond.instanceMethod yX3_pass ∈ gWs := gWs_in (gT_3 (List.mem_of_getElem? (i := 69) rfl)) rfl
theorem mC_X3_pass : Cond.code yX3_pass cX3_pass 2 none ∈ gWs := gWs_in (gT_3 (List.mem_of_getElem? (i := 70) rfl)) rfl
theorem mM_X3_88 : Cond.methodLink RX3 88 yX3_refuseToken ∈ gWs := gWs_in (gT_3 (List.mem_of_getElem? (i := 71) rfl)) rfl
theorem mI_X3_refuseToken : Cond.instanceMethod yX3_refuseToken ∈ gWs := gWs_in (gT_3 (List.mem_of_getElem? (i := 73) rfl)) rfl
theorem mC_X3_refuseToken : Cond.code yX3_refuseToken cX3_refuseToken 1 none ∈ gWs := gWs_in (gT_3 (List.mem_of_getElem? (i := 74) rfl)) rfl
theorem mM_X3_74 : Cond.methodLink RX3 74 yX1_read ∈ gWs := gWs_in (gT_3 (List.mem_of_getElem? (i := 75) rfl)) rfl
theorem mI_X1_read : Cond.instanceMethod yX1_read ∈ gWs := gWs_in (gT_3 (List.mem_of_getElem? (i := 76) rfl)) rfl
theorem mE_X1_read : Cond.selects RX1 yX1_read yX1_read ∈ gWs := gWs_in (gT_3 (List.mem_of_getElem? (i := 77) rfl)) rfl
theorem mC_X1_read : Cond.code yX1_read cX1_read 5 (some .int) ∈ gWs := gWs_in (gT_3 (List.mem_of_getElem? (i := 78) rfl)) rfl
theorem mM_X1_34 : Cond.methodLink RX1 34 yX6_kind ∈ gWs := gWs_in (gT_3 (List.mem_of_getElem? (i := 79) rfl)) rfl
theorem mM_X1_40 : Cond.methodLink RX1 40 yX1_release ∈ gWs := gWs_in (gT_3 (List.mem_of_getElem? (i := 80) rfl)) rfl
theorem mI_X1_release : Cond.instanceMethod yX1_release ∈ gWs := gWs_in (gT_3 (List.mem_of_getElem? (i := 82) rfl)) rfl
theorem mC_X1_release : Cond.code yX1_release cX1_release 3 none ∈ gWs := gWs_in (gT_3 (List.mem_of_getElem? (i := 83) rfl)) rfl
theorem mM_X1_61 : Cond.methodLink RX1 61 yX4_addItem ∈ gWs := gWs_in (gT_3 (List.mem_of_getElem? (i := 84) rfl)) rfl
theorem mM_X1_44 : Cond.methodLink RX1 44 yX1_readBehindFactor ∈ gWs := gWs_in (gT_3 (List.mem_of_getElem? (i := 85) rfl)) rfl
theorem mI_X1_readBehindFactor : Cond.instanceMethod yX1_readBehindFactor ∈ gWs := gWs_in (gT_3 (List.mem_of_getElem? (i := 87) rfl)) rfl
theorem mC_X1_readBehindFactor : Cond.code yX1_readBehindFactor cX1_readBehindFactor 3 (some .boolean) ∈ gWs := gWs_in (gT_3 (List.mem_of_getElem? (i := 88) rfl)) rfl
theorem mM_X1_76 : Cond.methodLink RX1 76 yX1_putSign ∈ gWs := gWs_in (gT_3 (List.mem_of_getElem? (i := 89) rfl)) rfl
theorem mI_X1_putSign : Cond.instanceMethod yX1_putSign ∈ gWs := gWs_in (gT_3 (List.mem_of_getElem? (i := 91) rfl)) rfl
theorem mC_X1_putSign : Cond.code yX1_putSign cX1_putSign 3 none ∈ gWs := gWs_in (gT_3 (List.mem_of_getElem? (i := 92) rfl)) rfl
theorem mM_X1_55 : Cond.methodLink RX1 55 yX1_countItem ∈ gWs := gWs_in (gT_3 (List.mem_of_getElem? (i := 93) rfl)) rfl
theorem mI_X1_countItem : Cond.instanceMethod yX1_countItem ∈ gWs := gWs_in (gT_3 (List.mem_of_getElem? (i := 95) rfl)) rfl
theorem mC_X1_countItem : Cond.code yX1_countItem cX1_countItem 1 none ∈ gWs := gWs_in (gT_3 (List.mem_of_getElem? (i := 96) rfl)) rfl
theorem mM_X1_82 : Cond.methodLink RX1 82 yX1_await ∈ gWs := gWs_in (gT_3 (List.mem_of_getElem? (i := 97) rfl)) rfl
theorem mI_X1_await : Cond.instanceMethod yX1_await ∈ gWs := gWs_in (gT_3 (List.mem_of_getElem? (i := 99) rfl)) rfl
theorem mC_X1_await : Cond.code yX1_await cX1_await 2 none ∈ gWs := gWs_in (gT_3 (List.mem_of_getElem? (i := 100) rfl)) rfl
theorem mM_X1_79 : Cond.methodLink RX1 79 yX1_closeParen ∈ gWs := gWs_in (gT_3 (List.mem_of_getElem? (i := 101) rfl)) rfl
theorem mI_X1_closeParen : Cond.instanceMethod yX1_closeParen ∈ gWs := gWs_in (gT_3 (List.mem_of_getElem? (i := 103) rfl)) rfl
theorem mC_X1_closeParen : Cond.code yX1_closeParen cX1_closeParen 2 none ∈ gWs := gWs_in (gT_3 (List.mem_of_getElem? (i := 104) rfl)) rfl
theorem mM_X1_73 : Cond.methodLink RX1 73 yX1_refuseToken ∈ gWs := gWs_in (gT_3 (List.mem_of_getElem? (i := 105) rfl)) rfl
theorem mI_X1_refuseToken : Cond.instanceMethod yX1_refuseToken ∈ gWs := gWs_in (gT_3 (List.mem_of_getElem? (i := 107) rfl)) rfl
theorem mC_X1_refuseToken : Cond.code yX1_refuseToken cX1_refuseToken 2 none ∈ gWs := gWs_in (gT_3 (List.mem_of_getElem? (i := 108) rfl)) rfl
theorem mM_X1_85 : Cond.methodLink RX1 85 yJ9_max_7cf53 ∈ gWs := gWs_in (gT_3 (List.mem_of_getElem? (i := 109) rfl)) rfl
theorem mS_J9_max_7cf53 : Cond.static yJ9_max_7cf53 ∈ gWs := gWs_in (gT_3 (List.mem_of_getElem? (i := 110) rfl)) rfl
theorem mC_J9_max_7cf53 : Cond.code yJ9_max_7cf53 cJ9_max_7cf53 2 (some .int) ∈ gWs := gWs_in (gT_3 (List.mem_of_getElem? (i := 111) rfl)) rfl
theorem mM_X1_65 : Cond.methodLink RX1 65 yX1_releaseNegations ∈ gWs := gWs_in (gT_3 (List.mem_of_getElem? (i := 112) rfl)) rfl
theorem mI_X1_releaseNegations : Cond.instanceMethod yX1_releaseNegations ∈ gWs := gWs_in (gT_3 (List.mem_of_getElem? (i := 114) rfl)) rfl
theorem mC_X1_releaseNegations : Cond.code yX1_releaseNegations cX1_releaseNegations 2 none ∈ gWs := gWs_in (gT_3 (List.mem_of_getElem? (i := 115) rfl)) rfl
theorem mM_X1_48 : Cond.methodLink RX1 48 yX1_readFactor ∈ gWs := gWs_in (gT_3 (List.mem_of_getElem? (i := 116) rfl)) rfl
theorem mI_X1_readFactor : Cond.instanceMethod yX1_readFactor ∈ gWs := gWs_in (gT_3 (List.mem_of_getElem? (i := 118) rfl)) rfl
theorem mC_X1_readFactor : Cond.code yX1_readFactor cX1_readFactor 5 (some .boolean) ∈ gWs := gWs_in (gT_3 (List.mem_of_getElem? (i := 119) rfl)) rfl
theorem mM_X1_58 : Cond.methodLink RX1 58 yX6_value ∈ gWs := gWs_in (gT_3 (List.mem_of_getElem? (i := 120) rfl)) rfl
theorem mM_X1_69 : Cond.methodLink RX1 69 yX1_nest ∈ gWs := gWs_in (gT_3 (List.mem_of_getElem? (i := 121) rfl)) rfl
theorem mI_X1_nest : Cond.instanceMethod yX1_nest ∈ gWs := gWs_in (gT_3 (List.mem_of_getElem? (i := 123) rfl)) rfl
theorem mC_X1_nest : Cond.code yX1_nest cX1_nest 2 none ∈ gWs := gWs_in (gT_3 (List.mem_of_getElem? (i := 124) rfl)) rfl
theorem mM_X1_52 : Cond.methodLink RX1 52 yX6_step ∈ gWs := gWs_in (gT_3 (List.mem_of_getElem? (i := 125) rfl)) rfl
theorem mM_X3_82 : Cond.methodLink RX3 82 yX3_readKeys ∈ gWs := gWs_in (gT_3 (List.mem_of_getElem? (i := 126) rfl)) rfl
theorem mI_X3_readKeys : Cond.instanceMethod yX3_readKeys ∈ gWs := gWs_in (gT_3 (List.mem_of_getElem? (i := 128) rfl)) rfl
theorem mC_X3_readKeys : Cond.code yX3_readKeys cX3_readKeys 2 none ∈ gWs := gWs_in (gT_3 (List.mem_of_getElem? (i := 129) rfl)) rfl
theorem mM_X3_119 : Cond.methodLink RX3 119 yX3_readKey ∈ gWs := gWs_in (gT_3 (List.mem_of_getElem? (i := 130) rfl)) rfl
theorem mI_X3_readKey : Cond.instanceMethod yX3_readKey ∈ gWs := gWs_in (gT_3 (List.mem_of_getElem? (i := 132) rfl)) rfl
theorem mC_X3_readKey : Cond.code yX3_readKey cX3_readKey 3 none ∈ gWs := gWs_in (gT_3 (List.mem_of_getElem? (i := 133) rfl)) rfl
theorem mM_X3_122 : Cond.methodLink RX3 122 yX4_addKey ∈ gWs := gWs_in (gT_3 (List.mem_of_getElem? (i := 134) rfl)) rfl
theorem mM_X3_85 : Cond.methodLink RX3 85 yX3_readTies ∈ gWs := gWs_in (gT_3 (List.mem_of_getElem? (i := 135) rfl)) rfl
theorem mI_X3_readTies : Cond.instanceMethod yX3_readTies ∈ gWs := gWs_in (gT_3 (List.mem_of_getElem? (i := 137) rfl)) rfl
theorem mC_X3_readTies : Cond.code yX3_readTies cX3_readTies 1 none ∈ gWs := gWs_in (gT_3 (List.mem_of_getElem? (i := 138) rfl)) rfl
theorem mM_X10_103 : Cond.methodLink RX10 103 yX4_take ∈ gWs := gWs_in (gT_3 (List.mem_of_getElem? (i := 139) rfl)) rfl
theorem mI_X4_take : Cond.instanceMethod yX4_take ∈ gWs := gWs_in (gT_3 (List.mem_of_getElem? (i := 140) rfl)) rfl
theorem mE_X4_take : Cond.selects RX4 yX4_take yX4_take ∈ gWs := gWs_in (gT_3 (List.mem_of_getElem? (i := 141) rfl)) rfl
theorem mC_X4_take : Cond.code yX4_take cX4_take 2 none ∈ gWs := gWs_in (gT_3 (List.mem_of_getElem? (i := 142) rfl)) rfl
theorem mM_X4_53 : Cond.methodLink RX4 53 ⟨"java/lang/System", "arraycopy", "(Ljava/lang/Object;ILjava/lang/Object;II)V"⟩ ∈ gWs := gWs_in (gT_3 (List.mem_of_getElem? (i := 143) rfl)) rfl
theorem mS_java_lang_System_arraycopy__Ljava_lang_Object_ILjava_lang_Object_II_V : Cond.static ⟨"java/lang/System", "arraycopy", "(Ljava/lang/Object;ILjava/lang/Object;II)V"⟩ ∈ gWs := gWs_in (gT_3 (List.mem_of_getElem? (i := 144) rfl)) rfl
theorem mV_java_lang_System_arraycopy__Ljava_lang_Object_ILjava_lang_Object_II_V : Cond.native ⟨"java/lang/System", "arraycopy", "(Ljava/lang/Object;ILjava/lang/Object;II)V"⟩ ∈ gWs := gWs_in (gT_3 (List.mem_of_getElem? (i := 145) rfl)) rfl
theorem mM_X10_107 : Cond.methodLink RX10 107 yX8_clear ∈ gWs := gWs_in (gT_3 (List.mem_of_getElem? (i := 146) rfl)) rfl
theorem mI_X8_clear : Cond.instanceMethod yX8_clear ∈ gWs := gWs_in (gT_3 (List.mem_of_getElem? (i := 147) rfl)) rfl
theorem mE_X8_clear : Cond.selects RX8 yX8_clear yX8_clear ∈ gWs := gWs_in (gT_3 (List.mem_of_getElem? (i := 148) rfl)) rfl
theorem mC_X8_clear : Cond.code yX8_clear cX8_clear 1 none ∈ gWs := gWs_in (gT_3 (List.mem_of_getElem? (i := 149) rfl)) rfl
theorem mM_X8_21 : Cond.methodLink RX8 21 yJ7_fill_53178 ∈ gWs := gWs_in (gT_3 (List.mem_of_getElem? (i := 150) rfl)) rfl
theorem mS_J7_fill_53178 : Cond.static yJ7_fill_53178 ∈ gWs := gWs_in (gT_3 (List.mem_of_getElem? (i := 151) rfl)) rfl
theorem mC_J7_fill_53178 : Cond.code yJ7_fill_53178 cJ7_fill_53178 4 none ∈ gWs := gWs_in (gT_3 (List.mem_of_getElem? (i := 152) rfl)) rfl
theorem mM_X10_110 : Cond.methodLink RX10 110 yX2_clear ∈ gWs := gWs_in (gT_3 (List.mem_of_getElem? (i := 153) rfl)) rfl
theorem mI_X2_clear : Cond.instanceMethod yX2_clear ∈ gWs := gWs_in (gT_3 (List.mem_of_getElem? (i := 154) rfl)) rfl
theorem mE_X2_clear : Cond.selects RX2 yX2_clear yX2_clear ∈ gWs := gWs_in (gT_3 (List.mem_of_getElem? (i := 155) rfl)) rfl
theorem mC_X2_clear : Cond.code yX2_clear cX2_clear 1 none ∈ gWs := gWs_in (gT_3 (List.mem_of_getElem? (i := 156) rfl)) rfl
theorem mM_X10_111 : Cond.methodLink RX10 111 yX7_clear ∈ gWs := gWs_in (gT_3 (List.mem_of_getElem? (i := 157) rfl)) rfl
theorem mI_X7_clear : Cond.instanceMethod yX7_clear ∈ gWs := gWs_in (gT_3 (List.mem_of_getElem? (i := 158) rfl)) rfl
theorem mE_X7_clear : Cond.selects RX7 yX7_clear yX7_clear ∈ gWs := gWs_in (gT_3 (List.mem_of_getElem? (i := 159) rfl)) rfl
theorem mC_X7_clear : Cond.code yX7_clear cX7_clear 1 none ∈ gWs := gWs_in (gT_3 (List.mem_of_getElem? (i := 160) rfl)) rfl
theorem mM_X7_40 : Cond.methodLink RX7 40 yJ7_fill_53178 ∈ gWs := gWs_in (gT_3 (List.mem_of_getElem? (i := 161) rfl)) rfl
theorem mM_X10_112 : Cond.methodLink RX10 112 yX0_clear ∈ gWs := gWs_in (gT_3 (List.mem_of_getElem? (i := 162) rfl)) rfl
theorem mI_X0_clear : Cond.instanceMethod yX0_clear ∈ gWs := gWs_in (gT_3 (List.mem_of_getElem? (i := 163) rfl)) rfl
theorem mE_X0_clear : Cond.selects RX0 yX0_clear yX0_clear ∈ gWs := gWs_in (gT_3 (List.mem_of_getElem? (i := 164) rfl)) rfl
theorem mC_X0_clear : Cond.code yX0_clear cX0_clear 1 none ∈ gWs := gWs_in (gT_3 (List.mem_of_getElem? (i := 165) rfl)) rfl
theorem mM_X10_113 : Cond.methodLink RX10 113 yX9_clear ∈ gWs := gWs_in (gT_3 (List.mem_of_getElem? (i := 166) rfl)) rfl
theorem mI_X9_clear : Cond.instanceMethod yX9_clear ∈ gWs := gWs_in (gT_3 (List.mem_of_getElem? (i := 167) rfl)) rfl
theorem mE_X9_clear : Cond.selects RX9 yX9_clear yX9_clear ∈ gWs := gWs_in (gT_3 (List.mem_of_getElem? (i := 168) rfl)) rfl
theorem mC_X9_clear : Cond.code yX9_clear cX9_clear 1 none ∈ gWs := gWs_in (gT_3 (List.mem_of_getElem? (i := 169) rfl)) rfl
theorem mM_X9_21 : Cond.methodLink RX9 21 yJ7_fill_53178 ∈ gWs := gWs_in (gT_3 (List.mem_of_getElem? (i := 170) rfl)) rfl
theorem mM_X10_120 : Cond.methodLink RX10 120 yX10_answer ∈ gWs := gWs_in (gT_3 (List.mem_of_getElem? (i := 171) rfl)) rfl
theorem mI_X10_answer : Cond.instanceMethod yX10_answer ∈ gWs := gWs_in (gT_3 (List.mem_of_getElem? (i := 173) rfl)) rfl
theorem mC_X10_answer : Cond.code yX10_answer cX10_answer 2 (some .int) ∈ gWs := gWs_in (gT_3 (List.mem_of_getElem? (i := 174) rfl)) rfl
theorem mA_byte : Cond.arrayClass .byte ∈ gWs := gWs_in (gT_3 (List.mem_of_getElem? (i := 175) rfl)) rfl
theorem mM_L_28 : Cond.methodLink RL 28 yX10_fault ∈ gWs := gWs_in (gT_3 (List.mem_of_getElem? (i := 176) rfl)) rfl
theorem mI_X10_fault : Cond.instanceMethod yX10_fault ∈ gWs := gWs_in (gT_3 (List.mem_of_getElem? (i := 177) rfl)) rfl
theorem mE_X10_fault : Cond.selects RX10 yX10_fault yX10_fault ∈ gWs := gWs_in (gT_3 (List.mem_of_getElem? (i := 178) rfl)) rfl
theorem mC_X10_fault : Cond.code yX10_fault cX10_fault 2 (some .int) ∈ gWs := gWs_in (gT_3 (List.mem_of_getElem? (i := 179) rfl)) rfl
theorem mM_L_32 : Cond.methodLink RL 32 yX10_climber ∈ gWs := gWs_in (gT_3 (List.mem_of_getElem? (i := 180) rfl)) rfl
theorem mI_X10_climber : Cond.instanceMethod yX10_climber ∈ gWs := gWs_in (gT_3 (List.mem_of_getElem? (i := 181) rfl)) rfl
theorem mE_X10_climber : Cond.selects RX10 yX10_climber yX10_climber ∈ gWs := gWs_in (gT_3 (List.mem_of_getElem? (i := 182) rfl)) rfl
theorem mC_X10_climber : Cond.code yX10_climber cX10_climber 1 (some .int) ∈ gWs := gWs_in (gT_3 (List.mem_of_getElem? (i := 183) rfl)) rfl
theorem mM_X10_132 : Cond.methodLink RX10 132 yX2_enter ∈ gWs := gWs_in (gT_3 (List.mem_of_getElem? (i := 184) rfl)) rfl
theorem mI_X2_enter : Cond.instanceMethod yX2_enter ∈ gWs := gWs_in (gT_3 (List.mem_of_getElem? (i := 185) rfl)) rfl
theorem mE_X2_enter : Cond.selects RX2 yX2_enter yX2_enter ∈ gWs := gWs_in (gT_3 (List.mem_of_getElem? (i := 186) rfl)) rfl
theorem mC_X2_enter : Cond.code yX2_enter cX2_enter 1 (some .int) ∈ gWs := gWs_in (gT_3 (List.mem_of_getElem? (i := 187) rfl)) rfl
theorem mM_L_36 : Cond.methodLink RL 36 yX10_route ∈ gWs := gWs_in (gT_3 (List.mem_of_getElem? (i := 188) rfl)) rfl
theorem mI_X10_route : Cond.instanceMethod yX10_route ∈ gWs := gWs_in (gT_3 (List.mem_of_getElem? (i := 189) rfl)) rfl
theorem mE_X10_route : Cond.selects RX10 yX10_route yX10_route ∈ gWs := gWs_in (gT_3 (List.mem_of_getElem? (i := 190) rfl)) rfl
theorem mC_X10_route : Cond.code yX10_route cX10_route 7 (some .boolean) ∈ gWs := gWs_in (gT_3 (List.mem_of_getElem? (i := 191) rfl)) rfl
theorem mM_X10_136 : Cond.methodLink RX10 136 yX4_hasRoute ∈ gWs := gWs_in (gT_3 (List.mem_of_getElem? (i := 192) rfl)) rfl
theorem mI_X4_hasRoute : Cond.instanceMethod yX4_hasRoute ∈ gWs := gWs_in (gT_3 (List.mem_of_getElem? (i := 193) rfl)) rfl
theorem mE_X4_hasRoute : Cond.selects RX4 yX4_hasRoute yX4_hasRoute ∈ gWs := gWs_in (gT_3 (List.mem_of_getElem? (i := 194) rfl)) rfl
theorem mC_X4_hasRoute : Cond.code yX4_hasRoute cX4_hasRoute 3 (some .boolean) ∈ gWs := gWs_in (gT_3 (List.mem_of_getElem? (i := 195) rfl)) rfl
theorem mM_X4_59 : Cond.methodLink RX4 59 yX4_hasRound ∈ gWs := gWs_in (gT_3 (List.mem_of_getElem? (i := 196) rfl)) rfl
theorem mI_X4_hasRound : Cond.instanceMethod yX4_hasRound ∈ gWs := gWs_in (gT_3 (List.mem_of_getElem? (i := 197) rfl)) rfl
theorem mE_X4_hasRound : Cond.selects RX4 yX4_hasRound yX4_hasRound ∈ gWs := gWs_in (gT_3 (List.mem_of_getElem? (i := 198) rfl)) rfl
theorem mC_X4_hasRound : Cond.code yX4_hasRound cX4_hasRound 2 (some .boolean) ∈ gWs := gWs_in (gT_3 (List.mem_of_getElem? (i := 199) rfl)) rfl
theorem mM_X10_140 : Cond.methodLink RX10 140 yX10_deny ∈ gWs := gWs_in (gT_3 (List.mem_of_getElem? (i := 200) rfl)) rfl
theorem mI_X10_deny : Cond.instanceMethod yX10_deny ∈ gWs := gWs_in (gT_3 (List.mem_of_getElem? (i := 202) rfl)) rfl
theorem mC_X10_deny : Cond.code yX10_deny cX10_deny 2 (some .boolean) ∈ gWs := gWs_in (gT_3 (List.mem_of_getElem? (i := 203) rfl)) rfl
theorem mM_X10_144 : Cond.methodLink RX10 144 yX10_zonesCanBe ∈ gWs := gWs_in (gT_3 (List.mem_of_getElem? (i := 204) rfl)) rfl
theorem mS_X10_zonesCanBe : Cond.static yX10_zonesCanBe ∈ gWs := gWs_in (gT_3 (List.mem_of_getElem? (i := 205) rfl)) rfl
theorem mC_X10_zonesCanBe : Cond.code yX10_zonesCanBe cX10_zonesCanBe 4 (some .boolean) ∈ gWs := gWs_in (gT_3 (List.mem_of_getElem? (i := 206) rfl)) rfl
theorem mM_X10_309 : Cond.methodLink RX10 309 yX10_zoneCanBe ∈ gWs := gWs_in (gT_3 (List.mem_of_getElem? (i := 207) rfl)) rfl
theorem mS_X10_zoneCanBe : Cond.static yX10_zoneCanBe ∈ gWs := gWs_in (gT_3 (List.mem_of_getElem? (i := 208) rfl)) rfl
theorem mC_X10_zoneCanBe : Cond.code yX10_zoneCanBe cX10_zoneCanBe 4 (some .boolean) ∈ gWs := gWs_in (gT_3 (List.mem_of_getElem? (i := 209) rfl)) rfl
theorem mM_X10_148 : Cond.methodLink RX10 148 yX8_begunOn ∈ gWs := gWs_in (gT_3 (List.mem_of_getElem? (i := 210) rfl)) rfl
theorem mI_X8_begunOn : Cond.instanceMethod yX8_begunOn ∈ gWs := gWs_in (gT_3 (List.mem_of_getElem? (i := 211) rfl)) rfl
theorem mE_X8_begunOn : Cond.selects RX8 yX8_begunOn yX8_begunOn ∈ gWs := gWs_in (gT_3 (List.mem_of_getElem? (i := 212) rfl)) rfl
theorem mC_X8_begunOn : Cond.code yX8_begunOn cX8_begunOn 3 (some .int) ∈ gWs := gWs_in (gT_3 (List.mem_of_getElem? (i := 213) rfl)) rfl
theorem mM_X10_152 : Cond.methodLink RX10 152 yX8_set ∈ gWs := gWs_in (gT_3 (List.mem_of_getElem? (i := 214) rfl)) rfl
theorem mI_X8_set : Cond.instanceMethod yX8_set ∈ gWs := gWs_in (gT_3 (List.mem_of_getElem? (i := 215) rfl)) rfl
theorem mE_X8_set : Cond.selects RX8 yX8_set yX8_set ∈ gWs := gWs_in (gT_3 (List.mem_of_getElem? (i := 216) rfl)) rfl
theorem mC_X8_set : Cond.code yX8_set cX8_set 4 none ∈ gWs := gWs_in (gT_3 (List.mem_of_getElem? (i := 217) rfl)) rfl
theorem mM_X10_156 : Cond.methodLink RX10 156 yX8_setZone ∈ gWs := gWs_in (gT_3 (List.mem_of_getElem? (i := 218) rfl)) rfl
theorem mI_X8_setZone : Cond.instanceMethod yX8_setZone ∈ gWs := gWs_in (gT_3 (List.mem_of_getElem? (i := 219) rfl)) rfl
theorem mE_X8_setZone : Cond.selects RX8 yX8_setZone yX8_setZone ∈ gWs := gWs_in (gT_3 (List.mem_of_getElem? (i := 220) rfl)) rfl
theorem mC_X8_setZone : Cond.code yX8_setZone cX8_setZone 5 none ∈ gWs := gWs_in (gT_3 (List.mem_of_getElem? (i := 221) rfl)) rfl
theorem mM_X10_160 : Cond.methodLink RX10 160 yX10_grant ∈ gWs := gWs_in (gT_3 (List.mem_of_getElem? (i := 222) rfl)) rfl
theorem mI_X10_grant : Cond.instanceMethod yX10_grant ∈ gWs := gWs_in (gT_3 (List.mem_of_getElem? (i := 224) rfl)) rfl
theorem mC_X10_grant : Cond.code yX10_grant cX10_grant 1 (some .boolean) ∈ gWs := gWs_in (gT_3 (List.mem_of_getElem? (i := 225) rfl)) rfl
theorem mM_L_41 : Cond.methodLink RL 41 yX10_told ∈ gWs := gWs_in (gT_3 (List.mem_of_getElem? (i := 226) rfl)) rfl
theorem mI_X10_told : Cond.instanceMethod yX10_told ∈ gWs := gWs_in (gT_3 (List.mem_of_getElem? (i := 227) rfl)) rfl
theorem mE_X10_told : Cond.selects RX10 yX10_told yX10_told ∈ gWs := gWs_in (gT_3 (List.mem_of_getElem? (i := 228) rfl)) rfl
theorem mC_X10_told : Cond.code yX10_told cX10_told 5 (some .int) ∈ gWs := gWs_in (gT_3 (List.mem_of_getElem? (i := 229) rfl)) rfl
theorem mM_X10_164 : Cond.methodLink RX10 164 yX4_hasRound ∈ gWs := gWs_in (gT_3 (List.mem_of_getElem? (i := 230) rfl)) rfl
theorem mM_X10_167 : Cond.methodLink RX10 167 yX2_manyIn ∈ gWs := gWs_in (gT_3 (List.mem_of_getElem? (i := 231) rfl)) rfl
theorem mI_X2_manyIn : Cond.instanceMethod yX2_manyIn ∈ gWs := gWs_in (gT_3 (List.mem_of_getElem? (i := 232) rfl)) rfl
theorem mE_X2_manyIn : Cond.selects RX2 yX2_manyIn yX2_manyIn ∈ gWs := gWs_in (gT_3 (List.mem_of_getElem? (i := 233) rfl)) rfl
theorem mC_X2_manyIn : Cond.code yX2_manyIn cX2_manyIn 4 (some .int) ∈ gWs := gWs_in (gT_3 (List.mem_of_getElem? (i := 234) rfl)) rfl
theorem mM_X10_170 : Cond.methodLink RX10 170 yX4_shapeOf ∈ gWs := gWs_in (gT_3 (List.mem_of_getElem? (i := 235) rfl)) rfl
theorem mI_X4_shapeOf : Cond.instanceMethod yX4_shapeOf ∈ gWs := gWs_in (gT_3 (List.mem_of_getElem? (i := 236) rfl)) rfl
theorem mE_X4_shapeOf : Cond.selects RX4 yX4_shapeOf yX4_shapeOf ∈ gWs := gWs_in (gT_3 (List.mem_of_getElem? (i := 237) rfl)) rfl
theorem mC_X4_shapeOf : Cond.code yX4_shapeOf cX4_shapeOf 3 (some .int) ∈ gWs := gWs_in (gT_3 (List.mem_of_getElem? (i := 238) rfl)) rfl
theorem mM_X10_173 : Cond.methodLink RX10 173 yX8_holdsOf ∈ gWs := gWs_in (gT_3 (List.mem_of_getElem? (i := 239) rfl)) rfl
theorem mI_X8_holdsOf : Cond.instanceMethod yX8_holdsOf ∈ gWs := gWs_in (gT_4 (List.mem_of_getElem? (i := 0) rfl)) rfl
theorem mE_X8_holdsOf : Cond.selects RX8 yX8_holdsOf yX8_holdsOf ∈ gWs := gWs_in (gT_4 (List.mem_of_getElem? (i := 1) rfl)) rfl
theorem mC_X8_holdsOf : Cond.code yX8_holdsOf cX8_holdsOf 3 (some .int) ∈ gWs := gWs_in (gT_4 (List.mem_of_getElem? (i := 2) rfl)) rfl
theorem mM_X10_176 : Cond.methodLink RX10 176 yX8_zoneOf ∈ gWs := gWs_in (gT_4 (List.mem_of_getElem? (i := 3) rfl)) rfl
theorem mI_X8_zoneOf : Cond.instanceMethod yX8_zoneOf ∈ gWs := gWs_in (gT_4 (List.mem_of_getElem? (i := 4) rfl)) rfl
theorem mE_X8_zoneOf : Cond.selects RX8 yX8_zoneOf yX8_zoneOf ∈ gWs := gWs_in (gT_4 (List.mem_of_getElem? (i := 5) rfl)) rfl
theorem mC_X8_zoneOf : Cond.code yX8_zoneOf cX8_zoneOf 4 (some .int) ∈ gWs := gWs_in (gT_4 (List.mem_of_getElem? (i := 6) rfl)) rfl
theorem mM_L_46 : Cond.methodLink RL 46 yX10_begin ∈ gWs := gWs_in (gT_4 (List.mem_of_getElem? (i := 7) rfl)) rfl
theorem mI_X10_begin : Cond.instanceMethod yX10_begin ∈ gWs := gWs_in (gT_4 (List.mem_of_getElem? (i := 8) rfl)) rfl
theorem mE_X10_begin : Cond.selects RX10 yX10_begin yX10_begin ∈ gWs := gWs_in (gT_4 (List.mem_of_getElem? (i := 9) rfl)) rfl
theorem mC_X10_begin : Cond.code yX10_begin cX10_begin 5 (some .int) ∈ gWs := gWs_in (gT_4 (List.mem_of_getElem? (i := 10) rfl)) rfl
theorem mM_X10_180 : Cond.methodLink RX10 180 yX2_knows ∈ gWs := gWs_in (gT_4 (List.mem_of_getElem? (i := 11) rfl)) rfl
theorem mI_X2_knows : Cond.instanceMethod yX2_knows ∈ gWs := gWs_in (gT_4 (List.mem_of_getElem? (i := 12) rfl)) rfl
theorem mE_X2_knows : Cond.selects RX2 yX2_knows yX2_knows ∈ gWs := gWs_in (gT_4 (List.mem_of_getElem? (i := 13) rfl)) rfl
theorem mC_X2_knows : Cond.code yX2_knows cX2_knows 2 (some .boolean) ∈ gWs := gWs_in (gT_4 (List.mem_of_getElem? (i := 14) rfl)) rfl
theorem mM_X10_183 : Cond.methodLink RX10 183 yX10_passTo ∈ gWs := gWs_in (gT_4 (List.mem_of_getElem? (i := 15) rfl)) rfl
theorem mI_X10_passTo : Cond.instanceMethod yX10_passTo ∈ gWs := gWs_in (gT_4 (List.mem_of_getElem? (i := 17) rfl)) rfl
theorem mC_X10_passTo : Cond.code yX10_passTo cX10_passTo 2 (some .int) ∈ gWs := gWs_in (gT_4 (List.mem_of_getElem? (i := 18) rfl)) rfl
theorem mD_X10_313 : Cond.constant RX10 313 (1000000) ∈ gWs := gWs_in (gT_4 (List.mem_of_getElem? (i := 19) rfl)) rfl
theorem mM_X10_314 : Cond.methodLink RX10 314 yX7_endOverdue ∈ gWs := gWs_in (gT_4 (List.mem_of_getElem? (i := 20) rfl)) rfl
theorem mI_X7_endOverdue : Cond.instanceMethod yX7_endOverdue ∈ gWs := gWs_in (gT_4 (List.mem_of_getElem? (i := 21) rfl)) rfl
theorem mE_X7_endOverdue : Cond.selects RX7 yX7_endOverdue yX7_endOverdue ∈ gWs := gWs_in (gT_4 (List.mem_of_getElem? (i := 22) rfl)) rfl
theorem mC_X7_endOverdue : Cond.code yX7_endOverdue cX7_endOverdue 5 none ∈ gWs := gWs_in (gT_4 (List.mem_of_getElem? (i := 23) rfl)) rfl
theorem mM_X7_46 : Cond.methodLink RX7 46 yX7_openOf ∈ gWs := gWs_in (gT_4 (List.mem_of_getElem? (i := 24) rfl)) rfl
theorem mI_X7_openOf : Cond.instanceMethod yX7_openOf ∈ gWs := gWs_in (gT_4 (List.mem_of_getElem? (i := 25) rfl)) rfl
theorem mE_X7_openOf : Cond.selects RX7 yX7_openOf yX7_openOf ∈ gWs := gWs_in (gT_4 (List.mem_of_getElem? (i := 26) rfl)) rfl
theorem mC_X7_openOf : Cond.code yX7_openOf cX7_openOf 2 (some .int) ∈ gWs := gWs_in (gT_4 (List.mem_of_getElem? (i := 27) rfl)) rfl
theorem mM_X7_50 : Cond.methodLink RX7 50 yX7_finish ∈ gWs := gWs_in (gT_4 (List.mem_of_getElem? (i := 28) rfl)) rfl
theorem mI_X7_finish : Cond.instanceMethod yX7_finish ∈ gWs := gWs_in (gT_4 (List.mem_of_getElem? (i := 29) rfl)) rfl
theorem mE_X7_finish : Cond.selects RX7 yX7_finish yX7_finish ∈ gWs := gWs_in (gT_4 (List.mem_of_getElem? (i := 30) rfl)) rfl
theorem mC_X7_finish : Cond.code yX7_finish cX7_finish 4 none ∈ gWs := gWs_in (gT_4 (List.mem_of_getElem? (i := 31) rfl)) rfl
theorem mM_X10_186 : Cond.methodLink RX10 186 yX10_whyNotBegin ∈ gWs := gWs_in (gT_4 (List.mem_of_getElem? (i := 32) rfl)) rfl
theorem mI_X10_whyNotBegin : Cond.instanceMethod yX10_whyNotBegin ∈ gWs := gWs_in (gT_4 (List.mem_of_getElem? (i := 34) rfl)) rfl
theorem mC_X10_whyNotBegin : Cond.code yX10_whyNotBegin cX10_whyNotBegin 4 (some .int) ∈ gWs := gWs_in (gT_4 (List.mem_of_getElem? (i := 35) rfl)) rfl
theorem mM_X10_268 : Cond.methodLink RX10 268 yX2_isIn ∈ gWs := gWs_in (gT_4 (List.mem_of_getElem? (i := 36) rfl)) rfl
theorem mI_X2_isIn : Cond.instanceMethod yX2_isIn ∈ gWs := gWs_in (gT_4 (List.mem_of_getElem? (i := 37) rfl)) rfl
theorem mE_X2_isIn : Cond.selects RX2 yX2_isIn yX2_isIn ∈ gWs := gWs_in (gT_4 (List.mem_of_getElem? (i := 38) rfl)) rfl
theorem mC_X2_isIn : Cond.code yX2_isIn cX2_isIn 3 (some .boolean) ∈ gWs := gWs_in (gT_4 (List.mem_of_getElem? (i := 39) rfl)) rfl
theorem mM_X2_25 : Cond.methodLink RX2 25 yX2_knows ∈ gWs := gWs_in (gT_4 (List.mem_of_getElem? (i := 40) rfl)) rfl
theorem mM_X10_197 : Cond.methodLink RX10 197 yX7_openOf ∈ gWs := gWs_in (gT_4 (List.mem_of_getElem? (i := 41) rfl)) rfl
theorem mM_X10_317 : Cond.methodLink RX10 317 yX7_mayNotTry ∈ gWs := gWs_in (gT_4 (List.mem_of_getElem? (i := 42) rfl)) rfl
theorem mI_X7_mayNotTry : Cond.instanceMethod yX7_mayNotTry ∈ gWs := gWs_in (gT_4 (List.mem_of_getElem? (i := 43) rfl)) rfl
theorem mE_X7_mayNotTry : Cond.selects RX7 yX7_mayNotTry yX7_mayNotTry ∈ gWs := gWs_in (gT_4 (List.mem_of_getElem? (i := 44) rfl)) rfl
theorem mC_X7_mayNotTry : Cond.code yX7_mayNotTry cX7_mayNotTry 7 (some .boolean) ∈ gWs := gWs_in (gT_4 (List.mem_of_getElem? (i := 45) rfl)) rfl
theorem mM_X7_54 : Cond.methodLink RX7 54 yX7_isOf ∈ gWs := gWs_in (gT_4 (List.mem_of_getElem? (i := 46) rfl)) rfl
theorem mI_X7_isOf : Cond.instanceMethod yX7_isOf ∈ gWs := gWs_in (gT_4 (List.mem_of_getElem? (i := 47) rfl)) rfl
theorem mE_X7_isOf : Cond.selects RX7 yX7_isOf yX7_isOf ∈ gWs := gWs_in (gT_4 (List.mem_of_getElem? (i := 48) rfl)) rfl
theorem mC_X7_isOf : Cond.code yX7_isOf cX7_isOf 5 (some .boolean) ∈ gWs := gWs_in (gT_4 (List.mem_of_getElem? (i := 49) rfl)) rfl
theorem mM_X10_237 : Cond.methodLink RX10 237 yX10_hasSeen ∈ gWs := gWs_in (gT_4 (List.mem_of_getElem? (i := 50) rfl)) rfl
theorem mI_X10_hasSeen : Cond.instanceMethod yX10_hasSeen ∈ gWs := gWs_in (gT_4 (List.mem_of_getElem? (i := 52) rfl)) rfl
theorem mC_X10_hasSeen : Cond.code yX10_hasSeen cX10_hasSeen 3 (some .boolean) ∈ gWs := gWs_in (gT_4 (List.mem_of_getElem? (i := 53) rfl)) rfl
theorem mM_X10_320 : Cond.methodLink RX10 320 yX9_hasSeen ∈ gWs := gWs_in (gT_4 (List.mem_of_getElem? (i := 54) rfl)) rfl
theorem mI_X9_hasSeen : Cond.instanceMethod yX9_hasSeen ∈ gWs := gWs_in (gT_4 (List.mem_of_getElem? (i := 55) rfl)) rfl
theorem mE_X9_hasSeen : Cond.selects RX9 yX9_hasSeen yX9_hasSeen ∈ gWs := gWs_in (gT_4 (List.mem_of_getElem? (i := 56) rfl)) rfl
theorem mC_X9_hasSeen : Cond.code yX9_hasSeen cX9_hasSeen 7 (some .boolean) ∈ gWs := gWs_in (gT_4 (List.mem_of_getElem? (i := 57) rfl)) rfl
theorem mM_X9_52 : Cond.methodLink RX9 52 yX9_wasOut ∈ gWs := gWs_in (gT_4 (List.mem_of_getElem? (i := 58) rfl)) rfl
theorem mI_X9_wasOut : Cond.instanceMethod yX9_wasOut ∈ gWs := gWs_in (gT_4 (List.mem_of_getElem? (i := 60) rfl)) rfl
theorem mC_X9_wasOut : Cond.code yX9_wasOut cX9_wasOut 7 (some .boolean) ∈ gWs := gWs_in (gT_4 (List.mem_of_getElem? (i := 61) rfl)) rfl
theorem mM_X9_27 : Cond.methodLink RX9 27 yX9_latest ∈ gWs := gWs_in (gT_4 (List.mem_of_getElem? (i := 62) rfl)) rfl
theorem mI_X9_latest : Cond.instanceMethod yX9_latest ∈ gWs := gWs_in (gT_4 (List.mem_of_getElem? (i := 64) rfl)) rfl
theorem mC_X9_latest : Cond.code yX9_latest cX9_latest 2 (some .int) ∈ gWs := gWs_in (gT_4 (List.mem_of_getElem? (i := 65) rfl)) rfl
theorem mM_X10_240 : Cond.methodLink RX10 240 yX10_restOver ∈ gWs := gWs_in (gT_4 (List.mem_of_getElem? (i := 66) rfl)) rfl
theorem mI_X10_restOver : Cond.instanceMethod yX10_restOver ∈ gWs := gWs_in (gT_4 (List.mem_of_getElem? (i := 68) rfl)) rfl
theorem mC_X10_restOver : Cond.code yX10_restOver cX10_restOver 3 (some .int) ∈ gWs := gWs_in (gT_4 (List.mem_of_getElem? (i := 69) rfl)) rfl
theorem mM_X10_323 : Cond.methodLink RX10 323 yX7_lastEnd ∈ gWs := gWs_in (gT_4 (List.mem_of_getElem? (i := 70) rfl)) rfl
theorem mI_X7_lastEnd : Cond.instanceMethod yX7_lastEnd ∈ gWs := gWs_in (gT_4 (List.mem_of_getElem? (i := 71) rfl)) rfl
theorem mE_X7_lastEnd : Cond.selects RX7 yX7_lastEnd yX7_lastEnd ∈ gWs := gWs_in (gT_4 (List.mem_of_getElem? (i := 72) rfl)) rfl
theorem mC_X7_lastEnd : Cond.code yX7_lastEnd cX7_lastEnd 5 (some .int) ∈ gWs := gWs_in (gT_4 (List.mem_of_getElem? (i := 73) rfl)) rfl
theorem mM_X7_58 : Cond.methodLink RX7 58 yJ9_max_7cf53 ∈ gWs := gWs_in (gT_4 (List.mem_of_getElem? (i := 74) rfl)) rfl
theorem mM_X10_189 : Cond.methodLink RX10 189 yX8_countBegun ∈ gWs := gWs_in (gT_4 (List.mem_of_getElem? (i := 75) rfl)) rfl
theorem mI_X8_countBegun : Cond.instanceMethod yX8_countBegun ∈ gWs := gWs_in (gT_4 (List.mem_of_getElem? (i := 76) rfl)) rfl
theorem mE_X8_countBegun : Cond.selects RX8 yX8_countBegun yX8_countBegun ∈ gWs := gWs_in (gT_4 (List.mem_of_getElem? (i := 77) rfl)) rfl
theorem mC_X8_countBegun : Cond.code yX8_countBegun cX8_countBegun 3 none ∈ gWs := gWs_in (gT_4 (List.mem_of_getElem? (i := 78) rfl)) rfl
theorem mM_X10_193 : Cond.methodLink RX10 193 yX7_start ∈ gWs := gWs_in (gT_4 (List.mem_of_getElem? (i := 79) rfl)) rfl
theorem mI_X7_start : Cond.instanceMethod yX7_start ∈ gWs := gWs_in (gT_4 (List.mem_of_getElem? (i := 80) rfl)) rfl
theorem mE_X7_start : Cond.selects RX7 yX7_start yX7_start ∈ gWs := gWs_in (gT_4 (List.mem_of_getElem? (i := 81) rfl)) rfl
theorem mC_X7_start : Cond.code yX7_start cX7_start 6 (some .int) ∈ gWs := gWs_in (gT_4 (List.mem_of_getElem? (i := 82) rfl)) rfl
theorem mM_L_50 : Cond.methodLink RL 50 yX10_reach ∈ gWs := gWs_in (gT_4 (List.mem_of_getElem? (i := 83) rfl)) rfl
theorem mI_X10_reach : Cond.instanceMethod yX10_reach ∈ gWs := gWs_in (gT_4 (List.mem_of_getElem? (i := 84) rfl)) rfl
theorem mE_X10_reach : Cond.selects RX10 yX10_reach yX10_reach ∈ gWs := gWs_in (gT_4 (List.mem_of_getElem? (i := 85) rfl)) rfl
theorem mC_X10_reach : Cond.code yX10_reach cX10_reach 7 (some .int) ∈ gWs := gWs_in (gT_4 (List.mem_of_getElem? (i := 86) rfl)) rfl
theorem mM_X10_209 : Cond.methodLink RX10 209 yX7_finish ∈ gWs := gWs_in (gT_4 (List.mem_of_getElem? (i := 87) rfl)) rfl
theorem mM_L_54 : Cond.methodLink RL 54 yX10_fall ∈ gWs := gWs_in (gT_4 (List.mem_of_getElem? (i := 88) rfl)) rfl
theorem mI_X10_fall : Cond.instanceMethod yX10_fall ∈ gWs := gWs_in (gT_4 (List.mem_of_getElem? (i := 89) rfl)) rfl
theorem mE_X10_fall : Cond.selects RX10 yX10_fall yX10_fall ∈ gWs := gWs_in (gT_4 (List.mem_of_getElem? (i := 90) rfl)) rfl
theorem mC_X10_fall : Cond.code yX10_fall cX10_fall 6 (some .boolean) ∈ gWs := gWs_in (gT_4 (List.mem_of_getElem? (i := 91) rfl)) rfl
theorem mM_L_59 : Cond.methodLink RL 59 yX10_out ∈ gWs := gWs_in (gT_4 (List.mem_of_getElem? (i := 92) rfl)) rfl
theorem mI_X10_out : Cond.instanceMethod yX10_out ∈ gWs := gWs_in (gT_4 (List.mem_of_getElem? (i := 93) rfl)) rfl
theorem mE_X10_out : Cond.selects RX10 yX10_out yX10_out ∈ gWs := gWs_in (gT_4 (List.mem_of_getElem? (i := 94) rfl)) rfl
theorem mC_X10_out : Cond.code yX10_out cX10_out 5 (some .boolean) ∈ gWs := gWs_in (gT_4 (List.mem_of_getElem? (i := 95) rfl)) rfl
theorem mM_X10_212 : Cond.methodLink RX10 212 yX9_isOut ∈ gWs := gWs_in (gT_4 (List.mem_of_getElem? (i := 96) rfl)) rfl
theorem mI_X9_isOut : Cond.instanceMethod yX9_isOut ∈ gWs := gWs_in (gT_4 (List.mem_of_getElem? (i := 97) rfl)) rfl
theorem mE_X9_isOut : Cond.selects RX9 yX9_isOut yX9_isOut ∈ gWs := gWs_in (gT_4 (List.mem_of_getElem? (i := 98) rfl)) rfl
theorem mC_X9_isOut : Cond.code yX9_isOut cX9_isOut 2 (some .boolean) ∈ gWs := gWs_in (gT_4 (List.mem_of_getElem? (i := 99) rfl)) rfl
theorem mM_X10_215 : Cond.methodLink RX10 215 yX9_comeIn ∈ gWs := gWs_in (gT_4 (List.mem_of_getElem? (i := 100) rfl)) rfl
theorem mI_X9_comeIn : Cond.instanceMethod yX9_comeIn ∈ gWs := gWs_in (gT_4 (List.mem_of_getElem? (i := 101) rfl)) rfl
theorem mE_X9_comeIn : Cond.selects RX9 yX9_comeIn yX9_comeIn ∈ gWs := gWs_in (gT_4 (List.mem_of_getElem? (i := 102) rfl)) rfl
theorem mC_X9_comeIn : Cond.code yX9_comeIn cX9_comeIn 3 none ∈ gWs := gWs_in (gT_4 (List.mem_of_getElem? (i := 103) rfl)) rfl
theorem mM_X10_221 : Cond.methodLink RX10 221 yX9_goOut ∈ gWs := gWs_in (gT_4 (List.mem_of_getElem? (i := 104) rfl)) rfl
theorem mI_X9_goOut : Cond.instanceMethod yX9_goOut ∈ gWs := gWs_in (gT_4 (List.mem_of_getElem? (i := 105) rfl)) rfl
theorem mE_X9_goOut : Cond.selects RX9 yX9_goOut yX9_goOut ∈ gWs := gWs_in (gT_4 (List.mem_of_getElem? (i := 106) rfl)) rfl
theorem mC_X9_goOut : Cond.code yX9_goOut cX9_goOut 3 none ∈ gWs := gWs_in (gT_4 (List.mem_of_getElem? (i := 107) rfl)) rfl
theorem mM_L_63 : Cond.methodLink RL 63 yX10_clock ∈ gWs := gWs_in (gT_4 (List.mem_of_getElem? (i := 108) rfl)) rfl
theorem mI_X10_clock : Cond.instanceMethod yX10_clock ∈ gWs := gWs_in (gT_4 (List.mem_of_getElem? (i := 109) rfl)) rfl
theorem mE_X10_clock : Cond.selects RX10 yX10_clock yX10_clock ∈ gWs := gWs_in (gT_4 (List.mem_of_getElem? (i := 110) rfl)) rfl
theorem mC_X10_clock : Cond.code yX10_clock cX10_clock 3 (some .boolean) ∈ gWs := gWs_in (gT_4 (List.mem_of_getElem? (i := 111) rfl)) rfl
theorem mM_L_68 : Cond.methodLink RL 68 yX10_now ∈ gWs := gWs_in (gT_4 (List.mem_of_getElem? (i := 112) rfl)) rfl
theorem mI_X10_now : Cond.instanceMethod yX10_now ∈ gWs := gWs_in (gT_4 (List.mem_of_getElem? (i := 113) rfl)) rfl
theorem mE_X10_now : Cond.selects RX10 yX10_now yX10_now ∈ gWs := gWs_in (gT_4 (List.mem_of_getElem? (i := 114) rfl)) rfl
theorem mC_X10_now : Cond.code yX10_now cX10_now 1 (some .int) ∈ gWs := gWs_in (gT_4 (List.mem_of_getElem? (i := 115) rfl)) rfl
theorem mM_L_72 : Cond.methodLink RL 72 yX10_tried ∈ gWs := gWs_in (gT_4 (List.mem_of_getElem? (i := 116) rfl)) rfl
theorem mI_X10_tried : Cond.instanceMethod yX10_tried ∈ gWs := gWs_in (gT_4 (List.mem_of_getElem? (i := 117) rfl)) rfl
theorem mE_X10_tried : Cond.selects RX10 yX10_tried yX10_tried ∈ gWs := gWs_in (gT_4 (List.mem_of_getElem? (i := 118) rfl)) rfl
theorem mC_X10_tried : Cond.code yX10_tried cX10_tried 3 (some .int) ∈ gWs := gWs_in (gT_4 (List.mem_of_getElem? (i := 119) rfl)) rfl
theorem mM_X10_224 : Cond.methodLink RX10 224 yX7_knows ∈ gWs := gWs_in (gT_4 (List.mem_of_getElem? (i := 120) rfl)) rfl
theorem mI_X7_knows : Cond.instanceMethod yX7_knows ∈ gWs := gWs_in (gT_4 (List.mem_of_getElem? (i := 121) rfl)) rfl
theorem mE_X7_knows : Cond.selects RX7 yX7_knows yX7_knows ∈ gWs := gWs_in (gT_4 (List.mem_of_getElem? (i := 122) rfl)) rfl
theorem mC_X7_knows : Cond.code yX7_knows cX7_knows 2 (some .boolean) ∈ gWs := gWs_in (gT_4 (List.mem_of_getElem? (i := 123) rfl)) rfl
theorem mM_L_77 : Cond.methodLink RL 77 yX10_seen ∈ gWs := gWs_in (gT_4 (List.mem_of_getElem? (i := 124) rfl)) rfl
theorem mI_X10_seen : Cond.instanceMethod yX10_seen ∈ gWs := gWs_in (gT_4 (List.mem_of_getElem? (i := 125) rfl)) rfl
theorem mE_X10_seen : Cond.selects RX10 yX10_seen yX10_seen ∈ gWs := gWs_in (gT_4 (List.mem_of_getElem? (i := 126) rfl)) rfl
theorem mC_X10_seen : Cond.code yX10_seen cX10_seen 3 (some .int) ∈ gWs := gWs_in (gT_4 (List.mem_of_getElem? (i := 127) rfl)) rfl
theorem mM_L_81 : Cond.methodLink RL 81 yX10_ready ∈ gWs := gWs_in (gT_4 (List.mem_of_getElem? (i := 128) rfl)) rfl
theorem mI_X10_ready : Cond.instanceMethod yX10_ready ∈ gWs := gWs_in (gT_4 (List.mem_of_getElem? (i := 129) rfl)) rfl
theorem mE_X10_ready : Cond.selects RX10 yX10_ready yX10_ready ∈ gWs := gWs_in (gT_4 (List.mem_of_getElem? (i := 130) rfl)) rfl
theorem mC_X10_ready : Cond.code yX10_ready cX10_ready 2 (some .int) ∈ gWs := gWs_in (gT_4 (List.mem_of_getElem? (i := 131) rfl)) rfl
theorem mM_X10_243 : Cond.methodLink RX10 243 yJ9_max_7cf53 ∈ gWs := gWs_in (gT_4 (List.mem_of_getElem? (i := 132) rfl)) rfl
theorem mM_L_85 : Cond.methodLink RL 85 yX10_appeal ∈ gWs := gWs_in (gT_4 (List.mem_of_getElem? (i := 133) rfl)) rfl
theorem mI_X10_appeal : Cond.instanceMethod yX10_appeal ∈ gWs := gWs_in (gT_4 (List.mem_of_getElem? (i := 134) rfl)) rfl
theorem mE_X10_appeal : Cond.selects RX10 yX10_appeal yX10_appeal ∈ gWs := gWs_in (gT_4 (List.mem_of_getElem? (i := 135) rfl)) rfl
theorem mC_X10_appeal : Cond.code yX10_appeal cX10_appeal 5 (some .boolean) ∈ gWs := gWs_in (gT_4 (List.mem_of_getElem? (i := 136) rfl)) rfl
theorem mM_X10_248 : Cond.methodLink RX10 248 yX10_isDay ∈ gWs := gWs_in (gT_4 (List.mem_of_getElem? (i := 137) rfl)) rfl
theorem mS_X10_isDay : Cond.static yX10_isDay ∈ gWs := gWs_in (gT_4 (List.mem_of_getElem? (i := 138) rfl)) rfl
theorem mC_X10_isDay : Cond.code yX10_isDay cX10_isDay 1 (some .boolean) ∈ gWs := gWs_in (gT_4 (List.mem_of_getElem? (i := 139) rfl)) rfl
theorem mM_X10_252 : Cond.methodLink RX10 252 yX0_put ∈ gWs := gWs_in (gT_4 (List.mem_of_getElem? (i := 140) rfl)) rfl
theorem mI_X0_put : Cond.instanceMethod yX0_put ∈ gWs := gWs_in (gT_4 (List.mem_of_getElem? (i := 141) rfl)) rfl
theorem mE_X0_put : Cond.selects RX0 yX0_put yX0_put ∈ gWs := gWs_in (gT_4 (List.mem_of_getElem? (i := 142) rfl)) rfl
theorem mC_X0_put : Cond.code yX0_put cX0_put 4 none ∈ gWs := gWs_in (gT_4 (List.mem_of_getElem? (i := 143) rfl)) rfl
theorem mM_L_90 : Cond.methodLink RL 90 yX10_of ∈ gWs := gWs_in (gT_4 (List.mem_of_getElem? (i := 144) rfl)) rfl
theorem mI_X10_of : Cond.instanceMethod yX10_of ∈ gWs := gWs_in (gT_4 (List.mem_of_getElem? (i := 145) rfl)) rfl
theorem mE_X10_of : Cond.selects RX10 yX10_of yX10_of ∈ gWs := gWs_in (gT_4 (List.mem_of_getElem? (i := 146) rfl)) rfl
theorem mC_X10_of : Cond.code yX10_of cX10_of 6 (some .int) ∈ gWs := gWs_in (gT_4 (List.mem_of_getElem? (i := 147) rfl)) rfl
theorem mM_X10_255 : Cond.methodLink RX10 255 yX5_survey ∈ gWs := gWs_in (gT_4 (List.mem_of_getElem? (i := 148) rfl)) rfl
theorem mI_X5_survey : Cond.instanceMethod yX5_survey ∈ gWs := gWs_in (gT_4 (List.mem_of_getElem? (i := 149) rfl)) rfl
theorem mE_X5_survey : Cond.selects RX5 yX5_survey yX5_survey ∈ gWs := gWs_in (gT_4 (List.mem_of_getElem? (i := 150) rfl)) rfl
theorem mC_X5_survey : Cond.code yX5_survey cX5_survey 4 none ∈ gWs := gWs_in (gT_4 (List.mem_of_getElem? (i := 151) rfl)) rfl
theorem mM_X5_63 : Cond.methodLink RX5 63 yX5_hearAppeals ∈ gWs := gWs_in (gT_4 (List.mem_of_getElem? (i := 152) rfl)) rfl
theorem mI_X5_hearAppeals : Cond.instanceMethod yX5_hearAppeals ∈ gWs := gWs_in (gT_4 (List.mem_of_getElem? (i := 154) rfl)) rfl
theorem mC_X5_hearAppeals : Cond.code yX5_hearAppeals cX5_hearAppeals 4 none ∈ gWs := gWs_in (gT_4 (List.mem_of_getElem? (i := 155) rfl)) rfl
theorem mM_X5_67 : Cond.methodLink RX5 67 yJ7_fill_53178 ∈ gWs := gWs_in (gT_4 (List.mem_of_getElem? (i := 156) rfl)) rfl
theorem mM_X5_91 : Cond.methodLink RX5 91 yX5_cellOf ∈ gWs := gWs_in (gT_4 (List.mem_of_getElem? (i := 157) rfl)) rfl
theorem mS_X5_cellOf : Cond.static yX5_cellOf ∈ gWs := gWs_in (gT_4 (List.mem_of_getElem? (i := 158) rfl)) rfl
theorem mC_X5_cellOf : Cond.code yX5_cellOf cX5_cellOf 3 (some .int) ∈ gWs := gWs_in (gT_4 (List.mem_of_getElem? (i := 159) rfl)) rfl
theorem mM_X10_258 : Cond.methodLink RX10 258 yX5_workFacts ∈ gWs := gWs_in (gT_4 (List.mem_of_getElem? (i := 160) rfl)) rfl
theorem mI_X5_workFacts : Cond.instanceMethod yX5_workFacts ∈ gWs := gWs_in (gT_4 (List.mem_of_getElem? (i := 161) rfl)) rfl
theorem mE_X5_workFacts : Cond.selects RX5 yX5_workFacts yX5_workFacts ∈ gWs := gWs_in (gT_4 (List.mem_of_getElem? (i := 162) rfl)) rfl
theorem mC_X5_workFacts : Cond.code yX5_workFacts cX5_workFacts 8 none ∈ gWs := gWs_in (gT_4 (List.mem_of_getElem? (i := 163) rfl)) rfl
theorem mM_X5_108 : Cond.methodLink RX5 108 yX8_holdsOf ∈ gWs := gWs_in (gT_4 (List.mem_of_getElem? (i := 164) rfl)) rfl
theorem mM_X5_114 : Cond.methodLink RX5 114 yX8_zonesUpTo ∈ gWs := gWs_in (gT_4 (List.mem_of_getElem? (i := 165) rfl)) rfl
theorem mI_X8_zonesUpTo : Cond.instanceMethod yX8_zonesUpTo ∈ gWs := gWs_in (gT_4 (List.mem_of_getElem? (i := 166) rfl)) rfl
theorem mE_X8_zonesUpTo : Cond.selects RX8 yX8_zonesUpTo yX8_zonesUpTo ∈ gWs := gWs_in (gT_4 (List.mem_of_getElem? (i := 167) rfl)) rfl
theorem mC_X8_zonesUpTo : Cond.code yX8_zonesUpTo cX8_zonesUpTo 7 (some .int) ∈ gWs := gWs_in (gT_4 (List.mem_of_getElem? (i := 168) rfl)) rfl
theorem mM_X8_27 : Cond.methodLink RX8 27 yX8_zoneOf ∈ gWs := gWs_in (gT_4 (List.mem_of_getElem? (i := 169) rfl)) rfl
theorem mM_X10_264 : Cond.methodLink RX10 264 yX4_pointsFor ∈ gWs := gWs_in (gT_4 (List.mem_of_getElem? (i := 170) rfl)) rfl
theorem mI_X4_pointsFor : Cond.instanceMethod yX4_pointsFor ∈ gWs := gWs_in (gT_4 (List.mem_of_getElem? (i := 171) rfl)) rfl
theorem mE_X4_pointsFor : Cond.selects RX4 yX4_pointsFor yX4_pointsFor ∈ gWs := gWs_in (gT_4 (List.mem_of_getElem? (i := 172) rfl)) rfl
theorem mC_X4_pointsFor : Cond.code yX4_pointsFor cX4_pointsFor 5 (some .int) ∈ gWs := gWs_in (gT_4 (List.mem_of_getElem? (i := 173) rfl)) rfl
theorem mM_X4_63 : Cond.methodLink RX4 63 yX4_worked ∈ gWs := gWs_in (gT_4 (List.mem_of_getElem? (i := 174) rfl)) rfl
theorem mS_X4_worked : Cond.static yX4_worked ∈ gWs := gWs_in (gT_4 (List.mem_of_getElem? (i := 175) rfl)) rfl
theorem mC_X4_worked : Cond.code yX4_worked cX4_worked 5 (some .long) ∈ gWs := gWs_in (gT_4 (List.mem_of_getElem? (i := 176) rfl)) rfl
theorem mM_X4_67 : Cond.methodLink RX4 67 yX4_bounded ∈ gWs := gWs_in (gT_4 (List.mem_of_getElem? (i := 177) rfl)) rfl
theorem mS_X4_bounded : Cond.static yX4_bounded ∈ gWs := gWs_in (gT_4 (List.mem_of_getElem? (i := 178) rfl)) rfl
theorem mC_X4_bounded : Cond.code yX4_bounded cX4_bounded 2 (some .long) ∈ gWs := gWs_in (gT_4 (List.mem_of_getElem? (i := 179) rfl)) rfl
theorem mD_X4_71 : Cond.constantLong RX4 71 (-1000000000) ∈ gWs := gWs_in (gT_4 (List.mem_of_getElem? (i := 180) rfl)) rfl
theorem mD_X4_73 : Cond.constantLong RX4 73 (1000000000) ∈ gWs := gWs_in (gT_4 (List.mem_of_getElem? (i := 181) rfl)) rfl
theorem mM_X4_75 : Cond.methodLink RX4 75 yJ9_min_f86c9 ∈ gWs := gWs_in (gT_4 (List.mem_of_getElem? (i := 182) rfl)) rfl
theorem mS_J9_min_f86c9 : Cond.static yJ9_min_f86c9 ∈ gWs := gWs_in (gT_4 (List.mem_of_getElem? (i := 183) rfl)) rfl
theorem mC_J9_min_f86c9 : Cond.code yJ9_min_f86c9 cJ9_min_f86c9 4 (some .long) ∈ gWs := gWs_in (gT_4 (List.mem_of_getElem? (i := 184) rfl)) rfl
theorem mM_X4_81 : Cond.methodLink RX4 81 yJ9_max_f86c9 ∈ gWs := gWs_in (gT_4 (List.mem_of_getElem? (i := 185) rfl)) rfl
theorem mS_J9_max_f86c9 : Cond.static yJ9_max_f86c9 ∈ gWs := gWs_in (gT_4 (List.mem_of_getElem? (i := 186) rfl)) rfl
theorem mC_J9_max_f86c9 : Cond.code yJ9_max_f86c9 cJ9_max_f86c9 4 (some .long) ∈ gWs := gWs_in (gT_4 (List.mem_of_getElem? (i := 187) rfl)) rfl
theorem mM_L_94 : Cond.methodLink RL 94 yX10_key ∈ gWs := gWs_in (gT_4 (List.mem_of_getElem? (i := 188) rfl)) rfl
theorem mI_X10_key : Cond.instanceMethod yX10_key ∈ gWs := gWs_in (gT_4 (List.mem_of_getElem? (i := 189) rfl)) rfl
theorem mE_X10_key : Cond.selects RX10 yX10_key yX10_key ∈ gWs := gWs_in (gT_4 (List.mem_of_getElem? (i := 190) rfl)) rfl
theorem mC_X10_key : Cond.code yX10_key cX10_key 5 (some .long) ∈ gWs := gWs_in (gT_4 (List.mem_of_getElem? (i := 191) rfl)) rfl
theorem mM_X10_274 : Cond.methodLink RX10 274 yX5_workKeys ∈ gWs := gWs_in (gT_4 (List.mem_of_getElem? (i := 192) rfl)) rfl
theorem mI_X5_workKeys : Cond.instanceMethod yX5_workKeys ∈ gWs := gWs_in (gT_4 (List.mem_of_getElem? (i := 193) rfl)) rfl
theorem mE_X5_workKeys : Cond.selects RX5 yX5_workKeys yX5_workKeys ∈ gWs := gWs_in (gT_4 (List.mem_of_getElem? (i := 194) rfl)) rfl
theorem mC_X5_workKeys : Cond.code yX5_workKeys cX5_workKeys 5 none ∈ gWs := gWs_in (gT_4 (List.mem_of_getElem? (i := 195) rfl)) rfl
theorem mM_X5_123 : Cond.methodLink RX5 123 yJ7_fill_d0a16 ∈ gWs := gWs_in (gT_4 (List.mem_of_getElem? (i := 196) rfl)) rfl
theorem mS_J7_fill_d0a16 : Cond.static yJ7_fill_d0a16 ∈ gWs := gWs_in (gT_4 (List.mem_of_getElem? (i := 197) rfl)) rfl
theorem mC_J7_fill_d0a16 : Cond.code yJ7_fill_d0a16 cJ7_fill_d0a16 5 none ∈ gWs := gWs_in (gT_4 (List.mem_of_getElem? (i := 198) rfl)) rfl
theorem mM_X5_126 : Cond.methodLink RX5 126 yX4_shapeOf ∈ gWs := gWs_in (gT_4 (List.mem_of_getElem? (i := 199) rfl)) rfl
theorem mM_X5_131 : Cond.methodLink RX5 131 yX5_workFacts ∈ gWs := gWs_in (gT_4 (List.mem_of_getElem? (i := 200) rfl)) rfl
theorem mM_X5_135 : Cond.methodLink RX5 135 yX4_pointsFor ∈ gWs := gWs_in (gT_4 (List.mem_of_getElem? (i := 201) rfl)) rfl
theorem mM_X5_139 : Cond.methodLink RX5 139 yJ9_max_f86c9 ∈ gWs := gWs_in (gT_4 (List.mem_of_getElem? (i := 202) rfl)) rfl
theorem mM_X5_148 : Cond.methodLink RX5 148 yX5_keyRow ∈ gWs := gWs_in (gT_4 (List.mem_of_getElem? (i := 203) rfl)) rfl
theorem mS_X5_keyRow : Cond.static yX5_keyRow ∈ gWs := gWs_in (gT_4 (List.mem_of_getElem? (i := 204) rfl)) rfl
theorem mC_X5_keyRow : Cond.code yX5_keyRow cX5_keyRow 2 (some .int) ∈ gWs := gWs_in (gT_4 (List.mem_of_getElem? (i := 205) rfl)) rfl
theorem mM_X10_277 : Cond.methodLink RX10 277 yX5_keyOf ∈ gWs := gWs_in (gT_4 (List.mem_of_getElem? (i := 206) rfl)) rfl
theorem mI_X5_keyOf : Cond.instanceMethod yX5_keyOf ∈ gWs := gWs_in (gT_4 (List.mem_of_getElem? (i := 207) rfl)) rfl
theorem mE_X5_keyOf : Cond.selects RX5 yX5_keyOf yX5_keyOf ∈ gWs := gWs_in (gT_4 (List.mem_of_getElem? (i := 208) rfl)) rfl
theorem mC_X5_keyOf : Cond.code yX5_keyOf cX5_keyOf 4 (some .long) ∈ gWs := gWs_in (gT_4 (List.mem_of_getElem? (i := 209) rfl)) rfl
theorem mM_L_99 : Cond.methodLink RL 99 yX10_rank ∈ gWs := gWs_in (gT_4 (List.mem_of_getElem? (i := 210) rfl)) rfl
theorem mI_X10_rank : Cond.instanceMethod yX10_rank ∈ gWs := gWs_in (gT_4 (List.mem_of_getElem? (i := 211) rfl)) rfl
theorem mE_X10_rank : Cond.selects RX10 yX10_rank yX10_rank ∈ gWs := gWs_in (gT_4 (List.mem_of_getElem? (i := 212) rfl)) rfl
theorem mC_X10_rank : Cond.code yX10_rank cX10_rank 4 (some .int) ∈ gWs := gWs_in (gT_4 (List.mem_of_getElem? (i := 213) rfl)) rfl
theorem mM_X10_281 : Cond.methodLink RX10 281 yX5_workRanks ∈ gWs := gWs_in (gT_4 (List.mem_of_getElem? (i := 214) rfl)) rfl
theorem mI_X5_workRanks : Cond.instanceMethod yX5_workRanks ∈ gWs := gWs_in (gT_4 (List.mem_of_getElem? (i := 215) rfl)) rfl
theorem mE_X5_workRanks : Cond.selects RX5 yX5_workRanks yX5_workRanks ∈ gWs := gWs_in (gT_4 (List.mem_of_getElem? (i := 216) rfl)) rfl
theorem mC_X5_workRanks : Cond.code yX5_workRanks cX5_workRanks 5 none ∈ gWs := gWs_in (gT_4 (List.mem_of_getElem? (i := 217) rfl)) rfl
theorem mM_X5_154 : Cond.methodLink RX5 154 yX5_survey ∈ gWs := gWs_in (gT_4 (List.mem_of_getElem? (i := 218) rfl)) rfl
theorem mM_X5_162 : Cond.methodLink RX5 162 yX5_lowestAsked ∈ gWs := gWs_in (gT_4 (List.mem_of_getElem? (i := 219) rfl)) rfl
theorem mI_X5_lowestAsked : Cond.instanceMethod yX5_lowestAsked ∈ gWs := gWs_in (gT_4 (List.mem_of_getElem? (i := 221) rfl)) rfl
theorem mC_X5_lowestAsked : Cond.code yX5_lowestAsked cX5_lowestAsked 2 (some .int) ∈ gWs := gWs_in (gT_4 (List.mem_of_getElem? (i := 222) rfl)) rfl
theorem mM_X5_166 : Cond.methodLink RX5 166 yX2_isIn ∈ gWs := gWs_in (gT_4 (List.mem_of_getElem? (i := 223) rfl)) rfl
theorem mM_X5_170 : Cond.methodLink RX5 170 yX5_workKeys ∈ gWs := gWs_in (gT_4 (List.mem_of_getElem? (i := 224) rfl)) rfl
theorem mM_X5_174 : Cond.methodLink RX5 174 yX5_manyAhead ∈ gWs := gWs_in (gT_4 (List.mem_of_getElem? (i := 225) rfl)) rfl
theorem mI_X5_manyAhead : Cond.instanceMethod yX5_manyAhead ∈ gWs := gWs_in (gT_4 (List.mem_of_getElem? (i := 227) rfl)) rfl
theorem mC_X5_manyAhead : Cond.code yX5_manyAhead cX5_manyAhead 5 (some .int) ∈ gWs := gWs_in (gT_4 (List.mem_of_getElem? (i := 228) rfl)) rfl
theorem mM_X5_177 : Cond.methodLink RX5 177 yX5_isAhead ∈ gWs := gWs_in (gT_4 (List.mem_of_getElem? (i := 229) rfl)) rfl
theorem mI_X5_isAhead : Cond.instanceMethod yX5_isAhead ∈ gWs := gWs_in (gT_4 (List.mem_of_getElem? (i := 231) rfl)) rfl
theorem mC_X5_isAhead : Cond.code yX5_isAhead cX5_isAhead 10 (some .boolean) ∈ gWs := gWs_in (gT_4 (List.mem_of_getElem? (i := 232) rfl)) rfl
theorem mM_X5_185 : Cond.methodLink RX5 185 yX5_keyOf ∈ gWs := gWs_in (gT_4 (List.mem_of_getElem? (i := 233) rfl)) rfl
theorem mM_L_103 : Cond.methodLink RL 103 yX10_advance ∈ gWs := gWs_in (gT_4 (List.mem_of_getElem? (i := 234) rfl)) rfl
theorem mI_X10_advance : Cond.instanceMethod yX10_advance ∈ gWs := gWs_in (gT_4 (List.mem_of_getElem? (i := 235) rfl)) rfl
theorem mE_X10_advance : Cond.selects RX10 yX10_advance yX10_advance ∈ gWs := gWs_in (gT_4 (List.mem_of_getElem? (i := 236) rfl)) rfl
theorem mC_X10_advance : Cond.code yX10_advance cX10_advance 4 (some .int) ∈ gWs := gWs_in (gT_4 (List.mem_of_getElem? (i := 237) rfl)) rfl
theorem mM_X10_287 : Cond.methodLink RX10 287 yX7_anyOpen ∈ gWs := gWs_in (gT_4 (List.mem_of_getElem? (i := 238) rfl)) rfl
theorem mI_X7_anyOpen : Cond.instanceMethod yX7_anyOpen ∈ gWs := gWs_in (gT_4 (List.mem_of_getElem? (i := 239) rfl)) rfl
theorem mE_X7_anyOpen : Cond.selects RX7 yX7_anyOpen yX7_anyOpen ∈ gWs := gWs_in (gT_5 (List.mem_of_getElem? (i := 0) rfl)) rfl
theorem mC_X7_anyOpen : Cond.code yX7_anyOpen cX7_anyOpen 2 (some .boolean) ∈ gWs := gWs_in (gT_5 (List.mem_of_getElem? (i := 1) rfl)) rfl
theorem mM_X10_290 : Cond.methodLink RX10 290 yX2_letCome ∈ gWs := gWs_in (gT_5 (List.mem_of_getElem? (i := 2) rfl)) rfl
theorem mI_X2_letCome : Cond.instanceMethod yX2_letCome ∈ gWs := gWs_in (gT_5 (List.mem_of_getElem? (i := 3) rfl)) rfl
theorem mE_X2_letCome : Cond.selects RX2 yX2_letCome yX2_letCome ∈ gWs := gWs_in (gT_5 (List.mem_of_getElem? (i := 4) rfl)) rfl
theorem mC_X2_letCome : Cond.code yX2_letCome cX2_letCome 6 (some .int) ∈ gWs := gWs_in (gT_5 (List.mem_of_getElem? (i := 5) rfl)) rfl
theorem mM_L_107 : Cond.methodLink RL 107 yX10_order ∈ gWs := gWs_in (gT_5 (List.mem_of_getElem? (i := 6) rfl)) rfl
theorem mI_X10_order : Cond.instanceMethod yX10_order ∈ gWs := gWs_in (gT_5 (List.mem_of_getElem? (i := 7) rfl)) rfl
theorem mE_X10_order : Cond.selects RX10 yX10_order yX10_order ∈ gWs := gWs_in (gT_5 (List.mem_of_getElem? (i := 8) rfl)) rfl
theorem mC_X10_order : Cond.code yX10_order cX10_order 3 (some .int) ∈ gWs := gWs_in (gT_5 (List.mem_of_getElem? (i := 9) rfl)) rfl
theorem mM_X10_294 : Cond.methodLink RX10 294 yX2_dayOf ∈ gWs := gWs_in (gT_5 (List.mem_of_getElem? (i := 10) rfl)) rfl
theorem mI_X2_dayOf : Cond.instanceMethod yX2_dayOf ∈ gWs := gWs_in (gT_5 (List.mem_of_getElem? (i := 11) rfl)) rfl
theorem mE_X2_dayOf : Cond.selects RX2 yX2_dayOf yX2_dayOf ∈ gWs := gWs_in (gT_5 (List.mem_of_getElem? (i := 12) rfl)) rfl
theorem mC_X2_dayOf : Cond.code yX2_dayOf cX2_dayOf 2 (some .int) ∈ gWs := gWs_in (gT_5 (List.mem_of_getElem? (i := 13) rfl)) rfl
theorem mM_X10_297 : Cond.methodLink RX10 297 yX5_starter ∈ gWs := gWs_in (gT_5 (List.mem_of_getElem? (i := 14) rfl)) rfl
theorem mI_X5_starter : Cond.instanceMethod yX5_starter ∈ gWs := gWs_in (gT_5 (List.mem_of_getElem? (i := 15) rfl)) rfl
theorem mE_X5_starter : Cond.selects RX5 yX5_starter yX5_starter ∈ gWs := gWs_in (gT_5 (List.mem_of_getElem? (i := 16) rfl)) rfl
theorem mC_X5_starter : Cond.code yX5_starter cX5_starter 4 (some .int) ∈ gWs := gWs_in (gT_5 (List.mem_of_getElem? (i := 17) rfl)) rfl
theorem mM_X5_192 : Cond.methodLink RX5 192 yX5_manyStartAhead ∈ gWs := gWs_in (gT_5 (List.mem_of_getElem? (i := 18) rfl)) rfl
theorem mI_X5_manyStartAhead : Cond.instanceMethod yX5_manyStartAhead ∈ gWs := gWs_in (gT_5 (List.mem_of_getElem? (i := 20) rfl)) rfl
theorem mC_X5_manyStartAhead : Cond.code yX5_manyStartAhead cX5_manyStartAhead 5 (some .int) ∈ gWs := gWs_in (gT_5 (List.mem_of_getElem? (i := 21) rfl)) rfl
theorem mM_L_111 : Cond.methodLink RL 111 yX10_parts ∈ gWs := gWs_in (gT_5 (List.mem_of_getElem? (i := 22) rfl)) rfl
theorem mI_X10_parts : Cond.instanceMethod yX10_parts ∈ gWs := gWs_in (gT_5 (List.mem_of_getElem? (i := 23) rfl)) rfl
theorem mE_X10_parts : Cond.selects RX10 yX10_parts yX10_parts ∈ gWs := gWs_in (gT_5 (List.mem_of_getElem? (i := 24) rfl)) rfl
theorem mC_X10_parts : Cond.code yX10_parts cX10_parts 4 (some .int) ∈ gWs := gWs_in (gT_5 (List.mem_of_getElem? (i := 25) rfl)) rfl
theorem mM_X10_300 : Cond.methodLink RX10 300 yX5_workPoints ∈ gWs := gWs_in (gT_5 (List.mem_of_getElem? (i := 26) rfl)) rfl
theorem mI_X5_workPoints : Cond.instanceMethod yX5_workPoints ∈ gWs := gWs_in (gT_5 (List.mem_of_getElem? (i := 27) rfl)) rfl
theorem mE_X5_workPoints : Cond.selects RX5 yX5_workPoints yX5_workPoints ∈ gWs := gWs_in (gT_5 (List.mem_of_getElem? (i := 28) rfl)) rfl
theorem mC_X5_workPoints : Cond.code yX5_workPoints cX5_workPoints 5 none ∈ gWs := gWs_in (gT_5 (List.mem_of_getElem? (i := 29) rfl)) rfl
theorem mM_X10_303 : Cond.methodLink RX10 303 yX5_pairsParted ∈ gWs := gWs_in (gT_5 (List.mem_of_getElem? (i := 30) rfl)) rfl
theorem mI_X5_pairsParted : Cond.instanceMethod yX5_pairsParted ∈ gWs := gWs_in (gT_5 (List.mem_of_getElem? (i := 31) rfl)) rfl
theorem mE_X5_pairsParted : Cond.selects RX5 yX5_pairsParted yX5_pairsParted ∈ gWs := gWs_in (gT_5 (List.mem_of_getElem? (i := 32) rfl)) rfl
theorem mC_X5_pairsParted : Cond.code yX5_pairsParted cX5_pairsParted 6 (some .int) ∈ gWs := gWs_in (gT_5 (List.mem_of_getElem? (i := 33) rfl)) rfl
theorem mM_X5_195 : Cond.methodLink RX5 195 yX5_together ∈ gWs := gWs_in (gT_5 (List.mem_of_getElem? (i := 34) rfl)) rfl
theorem mI_X5_together : Cond.instanceMethod yX5_together ∈ gWs := gWs_in (gT_5 (List.mem_of_getElem? (i := 36) rfl)) rfl
theorem mC_X5_together : Cond.code yX5_together cX5_together 6 (some .long) ∈ gWs := gWs_in (gT_5 (List.mem_of_getElem? (i := 37) rfl)) rfl
theorem mM_L_115 : Cond.methodLink RL 115 yX10_choose ∈ gWs := gWs_in (gT_5 (List.mem_of_getElem? (i := 38) rfl)) rfl
theorem mI_X10_choose : Cond.instanceMethod yX10_choose ∈ gWs := gWs_in (gT_5 (List.mem_of_getElem? (i := 39) rfl)) rfl
theorem mE_X10_choose : Cond.selects RX10 yX10_choose yX10_choose ∈ gWs := gWs_in (gT_5 (List.mem_of_getElem? (i := 40) rfl)) rfl
theorem mC_X10_choose : Cond.code yX10_choose cX10_choose 5 (some .int) ∈ gWs := gWs_in (gT_5 (List.mem_of_getElem? (i := 41) rfl)) rfl
theorem mM_X10_306 : Cond.methodLink RX10 306 yX5_bestSet ∈ gWs := gWs_in (gT_5 (List.mem_of_getElem? (i := 42) rfl)) rfl
theorem mI_X5_bestSet : Cond.instanceMethod yX5_bestSet ∈ gWs := gWs_in (gT_5 (List.mem_of_getElem? (i := 43) rfl)) rfl
theorem mE_X5_bestSet : Cond.selects RX5 yX5_bestSet yX5_bestSet ∈ gWs := gWs_in (gT_5 (List.mem_of_getElem? (i := 44) rfl)) rfl
theorem mC_X5_bestSet : Cond.code yX5_bestSet cX5_bestSet 8 (some .int) ∈ gWs := gWs_in (gT_5 (List.mem_of_getElem? (i := 45) rfl)) rfl
theorem mM_X5_199 : Cond.methodLink RX5 199 yJ6_bitCount_0f7a4 ∈ gWs := gWs_in (gT_5 (List.mem_of_getElem? (i := 46) rfl)) rfl
theorem mS_J6_bitCount_0f7a4 : Cond.static yJ6_bitCount_0f7a4 ∈ gWs := gWs_in (gT_5 (List.mem_of_getElem? (i := 47) rfl)) rfl
theorem mC_J6_bitCount_0f7a4 : Cond.code yJ6_bitCount_0f7a4 cJ6_bitCount_0f7a4 1 (some .int) ∈ gWs := gWs_in (gT_5 (List.mem_of_getElem? (i := 48) rfl)) rfl
theorem mD_J6_265 : Cond.constant RJ6 265 (1431655765) ∈ gWs := gWs_in (gT_5 (List.mem_of_getElem? (i := 49) rfl)) rfl
theorem mD_J6_266 : Cond.constant RJ6 266 (858993459) ∈ gWs := gWs_in (gT_5 (List.mem_of_getElem? (i := 50) rfl)) rfl
theorem mD_J6_267 : Cond.constant RJ6 267 (252645135) ∈ gWs := gWs_in (gT_5 (List.mem_of_getElem? (i := 51) rfl)) rfl
theorem mM_X5_204 : Cond.methodLink RX5 204 yX5_pairsParted ∈ gWs := gWs_in (gT_5 (List.mem_of_getElem? (i := 52) rfl)) rfl
theorem mK_L_10 : Cond.classLink RL 10 RX11 ∈ gWs := gWs_in (gT_5 (List.mem_of_getElem? (i := 53) rfl)) rfl
theorem mT_X11 : Cond.instantiable RX11 70 ∈ gWs := gWs_in (gT_5 (List.mem_of_getElem? (i := 54) rfl)) rfl
theorem mM_L_12 : Cond.methodLink RL 12 yX11_init ∈ gWs := gWs_in (gT_5 (List.mem_of_getElem? (i := 55) rfl)) rfl
theorem mI_X11_init : Cond.instanceMethod yX11_init ∈ gWs := gWs_in (gT_5 (List.mem_of_getElem? (i := 56) rfl)) rfl
theorem mC_X11_init : Cond.code yX11_init cX11_init 1 none ∈ gWs := gWs_in (gT_5 (List.mem_of_getElem? (i := 57) rfl)) rfl
theorem mM_X11_1 : Cond.methodLink RX11 1 objectInit ∈ gWs := gWs_in (gT_5 (List.mem_of_getElem? (i := 58) rfl)) rfl
theorem mF_X11_149 : Cond.fieldLink RX11 149 "RouteWallModel" "status" "I" ∈ gWs := gWs_in (gT_5 (List.mem_of_getElem? (i := 59) rfl)) rfl
theorem mF_X11_146 : Cond.fieldLink RX11 146 "RouteWallModel" "thrown" "I" ∈ gWs := gWs_in (gT_5 (List.mem_of_getElem? (i := 60) rfl)) rfl
theorem mF_X11_7 : Cond.fieldLink RX11 7 "RouteWallModel" "tape" "[B" ∈ gWs := gWs_in (gT_5 (List.mem_of_getElem? (i := 61) rfl)) rfl
theorem mF_X11_289 : Cond.fieldLink RX11 289 "RouteWallModel" "taped" "I" ∈ gWs := gWs_in (gT_5 (List.mem_of_getElem? (i := 62) rfl)) rfl
theorem mF_X11_152 : Cond.fieldLink RX11 152 "RouteWallModel" "end" "I" ∈ gWs := gWs_in (gT_5 (List.mem_of_getElem? (i := 63) rfl)) rfl
theorem mF_X11_13 : Cond.fieldLink RX11 13 "RouteWallModel" "faultKind" "I" ∈ gWs := gWs_in (gT_5 (List.mem_of_getElem? (i := 64) rfl)) rfl
theorem mF_X11_17 : Cond.fieldLink RX11 17 "RouteWallModel" "faultAt" "I" ∈ gWs := gWs_in (gT_5 (List.mem_of_getElem? (i := 65) rfl)) rfl
theorem mF_X11_188 : Cond.fieldLink RX11 188 "RouteWallModel" "bad" "I" ∈ gWs := gWs_in (gT_5 (List.mem_of_getElem? (i := 66) rfl)) rfl
theorem mF_X11_191 : Cond.fieldLink RX11 191 "RouteWallModel" "badAt" "I" ∈ gWs := gWs_in (gT_5 (List.mem_of_getElem? (i := 67) rfl)) rfl
theorem mF_X11_165 : Cond.fieldLink RX11 165 "RouteWallModel" "sort" "I" ∈ gWs := gWs_in (gT_5 (List.mem_of_getElem? (i := 68) rfl)) rfl
theorem mF_X11_158 : Cond.fieldLink RX11 158 "RouteWallModel" "at" "I" ∈ gWs := gWs_in (gT_5 (List.mem_of_getElem? (i := 69) rfl)) rfl
theorem mF_X11_155 : Cond.fieldLink RX11 155 "RouteWallModel" "behind" "I" ∈ gWs := gWs_in (gT_5 (List.mem_of_getElem? (i := 70) rfl)) rfl
theorem mF_X11_185 : Cond.fieldLink RX11 185 "RouteWallModel" "number" "I" ∈ gWs := gWs_in (gT_5 (List.mem_of_getElem? (i := 71) rfl)) rfl
theorem mF_X11_172 : Cond.fieldLink RX11 172 "RouteWallModel" "word" "J" ∈ gWs := gWs_in (gT_5 (List.mem_of_getElem? (i := 72) rfl)) rfl
theorem mF_X11_301 : Cond.fieldLink RX11 301 "RouteWallModel" "rounds" "I" ∈ gWs := gWs_in (gT_5 (List.mem_of_getElem? (i := 73) rfl)) rfl
theorem mF_X11_304 : Cond.fieldLink RX11 304 "RouteWallModel" "parts" "I" ∈ gWs := gWs_in (gT_5 (List.mem_of_getElem? (i := 74) rfl)) rfl
theorem mF_X11_307 : Cond.fieldLink RX11 307 "RouteWallModel" "keys" "I" ∈ gWs := gWs_in (gT_5 (List.mem_of_getElem? (i := 75) rfl)) rfl
theorem mF_X11_207 : Cond.fieldLink RX11 207 "RouteWallModel" "newRounds" "I" ∈ gWs := gWs_in (gT_5 (List.mem_of_getElem? (i := 76) rfl)) rfl
theorem mF_X11_217 : Cond.fieldLink RX11 217 "RouteWallModel" "newParts" "I" ∈ gWs := gWs_in (gT_5 (List.mem_of_getElem? (i := 77) rfl)) rfl
theorem mF_X11_214 : Cond.fieldLink RX11 214 "RouteWallModel" "newKeys" "I" ∈ gWs := gWs_in (gT_5 (List.mem_of_getElem? (i := 78) rfl)) rfl
theorem mF_X11_310 : Cond.fieldLink RX11 310 "RouteWallModel" "goesBack" "Z" ∈ gWs := gWs_in (gT_5 (List.mem_of_getElem? (i := 79) rfl)) rfl
theorem mF_X11_210 : Cond.fieldLink RX11 210 "RouteWallModel" "newBack" "Z" ∈ gWs := gWs_in (gT_5 (List.mem_of_getElem? (i := 80) rfl)) rfl
theorem mF_X11_20 : Cond.fieldLink RX11 20 "RouteWallModel" "routes" "[I" ∈ gWs := gWs_in (gT_5 (List.mem_of_getElem? (i := 81) rfl)) rfl
theorem mF_X11_24 : Cond.fieldLink RX11 24 "RouteWallModel" "tries" "[I" ∈ gWs := gWs_in (gT_5 (List.mem_of_getElem? (i := 82) rfl)) rfl
theorem mF_X11_27 : Cond.fieldLink RX11 27 "RouteWallModel" "seconds" "[I" ∈ gWs := gWs_in (gT_5 (List.mem_of_getElem? (i := 83) rfl)) rfl
theorem mF_X11_30 : Cond.fieldLink RX11 30 "RouteWallModel" "rest" "[I" ∈ gWs := gWs_in (gT_5 (List.mem_of_getElem? (i := 84) rfl)) rfl
theorem mF_X11_33 : Cond.fieldLink RX11 33 "RouteWallModel" "newRoutes" "[I" ∈ gWs := gWs_in (gT_5 (List.mem_of_getElem? (i := 85) rfl)) rfl
theorem mF_X11_36 : Cond.fieldLink RX11 36 "RouteWallModel" "newTries" "[I" ∈ gWs := gWs_in (gT_5 (List.mem_of_getElem? (i := 86) rfl)) rfl
theorem mF_X11_39 : Cond.fieldLink RX11 39 "RouteWallModel" "newSeconds" "[I" ∈ gWs := gWs_in (gT_5 (List.mem_of_getElem? (i := 87) rfl)) rfl
theorem mF_X11_42 : Cond.fieldLink RX11 42 "RouteWallModel" "newRest" "[I" ∈ gWs := gWs_in (gT_5 (List.mem_of_getElem? (i := 88) rfl)) rfl
theorem mF_X11_45 : Cond.fieldLink RX11 45 "RouteWallModel" "part" "[I" ∈ gWs := gWs_in (gT_5 (List.mem_of_getElem? (i := 89) rfl)) rfl
theorem mF_X11_48 : Cond.fieldLink RX11 48 "RouteWallModel" "partNumber" "[I" ∈ gWs := gWs_in (gT_5 (List.mem_of_getElem? (i := 90) rfl)) rfl
theorem mF_X11_51 : Cond.fieldLink RX11 51 "RouteWallModel" "newPart" "[I" ∈ gWs := gWs_in (gT_5 (List.mem_of_getElem? (i := 91) rfl)) rfl
theorem mF_X11_54 : Cond.fieldLink RX11 54 "RouteWallModel" "newNumber" "[I" ∈ gWs := gWs_in (gT_5 (List.mem_of_getElem? (i := 92) rfl)) rfl
theorem mF_X11_57 : Cond.fieldLink RX11 57 "RouteWallModel" "key" "[I" ∈ gWs := gWs_in (gT_5 (List.mem_of_getElem? (i := 93) rfl)) rfl
theorem mF_X11_60 : Cond.fieldLink RX11 60 "RouteWallModel" "newKey" "[I" ∈ gWs := gWs_in (gT_5 (List.mem_of_getElem? (i := 94) rfl)) rfl
theorem mF_X11_63 : Cond.fieldLink RX11 63 "RouteWallModel" "isUp" "[Z" ∈ gWs := gWs_in (gT_5 (List.mem_of_getElem? (i := 95) rfl)) rfl
theorem mF_X11_67 : Cond.fieldLink RX11 67 "RouteWallModel" "newUp" "[Z" ∈ gWs := gWs_in (gT_5 (List.mem_of_getElem? (i := 96) rfl)) rfl
theorem mF_X11_70 : Cond.fieldLink RX11 70 "RouteWallModel" "waits" "[I" ∈ gWs := gWs_in (gT_5 (List.mem_of_getElem? (i := 97) rfl)) rfl
theorem mF_X11_255 : Cond.fieldLink RX11 255 "RouteWallModel" "waiting" "I" ∈ gWs := gWs_in (gT_5 (List.mem_of_getElem? (i := 98) rfl)) rfl
theorem mF_X11_252 : Cond.fieldLink RX11 252 "RouteWallModel" "deep" "I" ∈ gWs := gWs_in (gT_5 (List.mem_of_getElem? (i := 99) rfl)) rfl
theorem mF_X11_73 : Cond.fieldLink RX11 73 "RouteWallModel" "holds" "[I" ∈ gWs := gWs_in (gT_5 (List.mem_of_getElem? (i := 100) rfl)) rfl
theorem mF_X11_76 : Cond.fieldLink RX11 76 "RouteWallModel" "zones" "[I" ∈ gWs := gWs_in (gT_5 (List.mem_of_getElem? (i := 101) rfl)) rfl
theorem mF_X11_79 : Cond.fieldLink RX11 79 "RouteWallModel" "begun" "[I" ∈ gWs := gWs_in (gT_5 (List.mem_of_getElem? (i := 102) rfl)) rfl
theorem mF_X11_313 : Cond.fieldLink RX11 313 "RouteWallModel" "climbers" "I" ∈ gWs := gWs_in (gT_5 (List.mem_of_getElem? (i := 103) rfl)) rfl
theorem mF_X11_82 : Cond.fieldLink RX11 82 "RouteWallModel" "open" "I" ∈ gWs := gWs_in (gT_5 (List.mem_of_getElem? (i := 104) rfl)) rfl
theorem mF_X11_316 : Cond.fieldLink RX11 316 "RouteWallModel" "now" "I" ∈ gWs := gWs_in (gT_5 (List.mem_of_getElem? (i := 105) rfl)) rfl
theorem mF_X11_85 : Cond.fieldLink RX11 85 "RouteWallModel" "isIn" "[Z" ∈ gWs := gWs_in (gT_5 (List.mem_of_getElem? (i := 106) rfl)) rfl
theorem mF_X11_88 : Cond.fieldLink RX11 88 "RouteWallModel" "order" "[I" ∈ gWs := gWs_in (gT_5 (List.mem_of_getElem? (i := 107) rfl)) rfl
theorem mF_X11_91 : Cond.fieldLink RX11 91 "RouteWallModel" "orderMany" "[I" ∈ gWs := gWs_in (gT_5 (List.mem_of_getElem? (i := 108) rfl)) rfl
theorem mF_X11_319 : Cond.fieldLink RX11 319 "RouteWallModel" "tried" "I" ∈ gWs := gWs_in (gT_5 (List.mem_of_getElem? (i := 109) rfl)) rfl
theorem mF_X11_94 : Cond.fieldLink RX11 94 "RouteWallModel" "who" "[I" ∈ gWs := gWs_in (gT_5 (List.mem_of_getElem? (i := 110) rfl)) rfl
theorem mF_X11_97 : Cond.fieldLink RX11 97 "RouteWallModel" "where" "[I" ∈ gWs := gWs_in (gT_5 (List.mem_of_getElem? (i := 111) rfl)) rfl
theorem mF_X11_100 : Cond.fieldLink RX11 100 "RouteWallModel" "which" "[I" ∈ gWs := gWs_in (gT_5 (List.mem_of_getElem? (i := 112) rfl)) rfl
theorem mF_X11_103 : Cond.fieldLink RX11 103 "RouteWallModel" "from" "[I" ∈ gWs := gWs_in (gT_5 (List.mem_of_getElem? (i := 113) rfl)) rfl
theorem mF_X11_106 : Cond.fieldLink RX11 106 "RouteWallModel" "to" "[I" ∈ gWs := gWs_in (gT_5 (List.mem_of_getElem? (i := 114) rfl)) rfl
theorem mF_X11_109 : Cond.fieldLink RX11 109 "RouteWallModel" "hold" "[I" ∈ gWs := gWs_in (gT_5 (List.mem_of_getElem? (i := 115) rfl)) rfl
theorem mF_X11_112 : Cond.fieldLink RX11 112 "RouteWallModel" "how" "[I" ∈ gWs := gWs_in (gT_5 (List.mem_of_getElem? (i := 116) rfl)) rfl
theorem mF_X11_322 : Cond.fieldLink RX11 322 "RouteWallModel" "appeals" "I" ∈ gWs := gWs_in (gT_5 (List.mem_of_getElem? (i := 117) rfl)) rfl
theorem mF_X11_115 : Cond.fieldLink RX11 115 "RouteWallModel" "appealTry" "[I" ∈ gWs := gWs_in (gT_5 (List.mem_of_getElem? (i := 118) rfl)) rfl
theorem mF_X11_118 : Cond.fieldLink RX11 118 "RouteWallModel" "appealHold" "[I" ∈ gWs := gWs_in (gT_5 (List.mem_of_getElem? (i := 119) rfl)) rfl
theorem mF_X11_121 : Cond.fieldLink RX11 121 "RouteWallModel" "appealDay" "[I" ∈ gWs := gWs_in (gT_5 (List.mem_of_getElem? (i := 120) rfl)) rfl
theorem mF_X11_124 : Cond.fieldLink RX11 124 "RouteWallModel" "outs" "[I" ∈ gWs := gWs_in (gT_5 (List.mem_of_getElem? (i := 121) rfl)) rfl
theorem mF_X11_127 : Cond.fieldLink RX11 127 "RouteWallModel" "outFrom" "[I" ∈ gWs := gWs_in (gT_5 (List.mem_of_getElem? (i := 122) rfl)) rfl
theorem mF_X11_130 : Cond.fieldLink RX11 130 "RouteWallModel" "outTo" "[I" ∈ gWs := gWs_in (gT_5 (List.mem_of_getElem? (i := 123) rfl)) rfl
theorem mF_X11_249 : Cond.fieldLink RX11 249 "RouteWallModel" "counted" "I" ∈ gWs := gWs_in (gT_5 (List.mem_of_getElem? (i := 124) rfl)) rfl
theorem mF_X11_133 : Cond.fieldLink RX11 133 "RouteWallModel" "facts" "[I" ∈ gWs := gWs_in (gT_5 (List.mem_of_getElem? (i := 125) rfl)) rfl
theorem mF_X11_136 : Cond.fieldLink RX11 136 "RouteWallModel" "pile" "[J" ∈ gWs := gWs_in (gT_5 (List.mem_of_getElem? (i := 126) rfl)) rfl
theorem mF_X11_140 : Cond.fieldLink RX11 140 "RouteWallModel" "ranks" "[I" ∈ gWs := gWs_in (gT_5 (List.mem_of_getElem? (i := 127) rfl)) rfl
theorem mF_X11_143 : Cond.fieldLink RX11 143 "RouteWallModel" "sums" "[J" ∈ gWs := gWs_in (gT_5 (List.mem_of_getElem? (i := 128) rfl)) rfl
theorem mA_boolean : Cond.arrayClass .boolean ∈ gWs := gWs_in (gT_6 (List.mem_of_getElem? (i := 30) rfl)) rfl
theorem mM_L_17 : Cond.methodLink RL 17 yX11_status ∈ gWs := gWs_in (gT_6 (List.mem_of_getElem? (i := 31) rfl)) rfl
theorem mI_X11_status : Cond.instanceMethod yX11_status ∈ gWs := gWs_in (gT_6 (List.mem_of_getElem? (i := 32) rfl)) rfl
theorem mE_X11_status : Cond.selects RX11 yX11_status yX11_status ∈ gWs := gWs_in (gT_6 (List.mem_of_getElem? (i := 33) rfl)) rfl
theorem mC_X11_status : Cond.code yX11_status cX11_status 1 (some .int) ∈ gWs := gWs_in (gT_6 (List.mem_of_getElem? (i := 34) rfl)) rfl
theorem mM_L_22 : Cond.methodLink RL 22 yX11_feed ∈ gWs := gWs_in (gT_6 (List.mem_of_getElem? (i := 35) rfl)) rfl
theorem mI_X11_feed : Cond.instanceMethod yX11_feed ∈ gWs := gWs_in (gT_6 (List.mem_of_getElem? (i := 36) rfl)) rfl
theorem mE_X11_feed : Cond.selects RX11 yX11_feed yX11_feed ∈ gWs := gWs_in (gT_6 (List.mem_of_getElem? (i := 37) rfl)) rfl
theorem mC_X11_feed : Cond.code yX11_feed cX11_feed 6 (some .int) ∈ gWs := gWs_in (gT_6 (List.mem_of_getElem? (i := 38) rfl)) rfl
theorem mM_X11_292 : Cond.methodLink RX11 292 yX11_lay ∈ gWs := gWs_in (gT_6 (List.mem_of_getElem? (i := 39) rfl)) rfl
theorem mI_X11_lay : Cond.instanceMethod yX11_lay ∈ gWs := gWs_in (gT_6 (List.mem_of_getElem? (i := 41) rfl)) rfl
theorem mC_X11_lay : Cond.code yX11_lay cX11_lay 3 none ∈ gWs := gWs_in (gT_6 (List.mem_of_getElem? (i := 42) rfl)) rfl
theorem mM_L_27 : Cond.methodLink RL 27 yX11_load ∈ gWs := gWs_in (gT_6 (List.mem_of_getElem? (i := 43) rfl)) rfl
theorem mI_X11_load : Cond.instanceMethod yX11_load ∈ gWs := gWs_in (gT_6 (List.mem_of_getElem? (i := 44) rfl)) rfl
theorem mE_X11_load : Cond.selects RX11 yX11_load yX11_load ∈ gWs := gWs_in (gT_6 (List.mem_of_getElem? (i := 45) rfl)) rfl
theorem mC_X11_load : Cond.code yX11_load cX11_load 4 (some .int) ∈ gWs := gWs_in (gT_6 (List.mem_of_getElem? (i := 46) rfl)) rfl
theorem mM_X11_295 : Cond.methodLink RX11 295 yX11_refuse ∈ gWs := gWs_in (gT_6 (List.mem_of_getElem? (i := 47) rfl)) rfl
theorem mI_X11_refuse : Cond.instanceMethod yX11_refuse ∈ gWs := gWs_in (gT_6 (List.mem_of_getElem? (i := 49) rfl)) rfl
theorem mC_X11_refuse : Cond.code yX11_refuse cX11_refuse 2 (some .int) ∈ gWs := gWs_in (gT_6 (List.mem_of_getElem? (i := 50) rfl)) rfl
theorem mM_X11_298 : Cond.methodLink RX11 298 yX11_readText ∈ gWs := gWs_in (gT_6 (List.mem_of_getElem? (i := 51) rfl)) rfl
theorem mI_X11_readText : Cond.instanceMethod yX11_readText ∈ gWs := gWs_in (gT_6 (List.mem_of_getElem? (i := 53) rfl)) rfl
theorem mC_X11_readText : Cond.code yX11_readText cX11_readText 3 none ∈ gWs := gWs_in (gT_6 (List.mem_of_getElem? (i := 54) rfl)) rfl
theorem mM_X11_201 : Cond.methodLink RX11 201 yX11_next ∈ gWs := gWs_in (gT_6 (List.mem_of_getElem? (i := 55) rfl)) rfl
theorem mI_X11_next : Cond.instanceMethod yX11_next ∈ gWs := gWs_in (gT_6 (List.mem_of_getElem? (i := 57) rfl)) rfl
theorem mC_X11_next : Cond.code yX11_next cX11_next 2 none ∈ gWs := gWs_in (gT_6 (List.mem_of_getElem? (i := 58) rfl)) rfl
theorem mM_X11_161 : Cond.methodLink RX11 161 yX11_look ∈ gWs := gWs_in (gT_6 (List.mem_of_getElem? (i := 59) rfl)) rfl
theorem mI_X11_look : Cond.instanceMethod yX11_look ∈ gWs := gWs_in (gT_6 (List.mem_of_getElem? (i := 61) rfl)) rfl
theorem mC_X11_look : Cond.code yX11_look cX11_look 2 (some .int) ∈ gWs := gWs_in (gT_6 (List.mem_of_getElem? (i := 62) rfl)) rfl
theorem mM_X11_168 : Cond.methodLink RX11 168 yX11_isLetter ∈ gWs := gWs_in (gT_6 (List.mem_of_getElem? (i := 63) rfl)) rfl
theorem mS_X11_isLetter : Cond.static yX11_isLetter ∈ gWs := gWs_in (gT_6 (List.mem_of_getElem? (i := 64) rfl)) rfl
theorem mC_X11_isLetter : Cond.code yX11_isLetter cX11_isLetter 1 (some .boolean) ∈ gWs := gWs_in (gT_6 (List.mem_of_getElem? (i := 65) rfl)) rfl
theorem mD_X11_176 : Cond.constantLong RX11 176 (32) ∈ gWs := gWs_in (gT_6 (List.mem_of_getElem? (i := 66) rfl)) rfl
theorem mD_X11_178 : Cond.constantLong RX11 178 (96) ∈ gWs := gWs_in (gT_6 (List.mem_of_getElem? (i := 67) rfl)) rfl
theorem mD_X11_180 : Cond.constantLong RX11 180 (-1) ∈ gWs := gWs_in (gT_6 (List.mem_of_getElem? (i := 68) rfl)) rfl
theorem mM_X11_182 : Cond.methodLink RX11 182 yX11_isDigit ∈ gWs := gWs_in (gT_6 (List.mem_of_getElem? (i := 69) rfl)) rfl
theorem mS_X11_isDigit : Cond.static yX11_isDigit ∈ gWs := gWs_in (gT_6 (List.mem_of_getElem? (i := 70) rfl)) rfl
theorem mC_X11_isDigit : Cond.code yX11_isDigit cX11_isDigit 1 (some .boolean) ∈ gWs := gWs_in (gT_6 (List.mem_of_getElem? (i := 71) rfl)) rfl
theorem mM_X11_220 : Cond.methodLink RX11 220 yX11_lawOf ∈ gWs := gWs_in (gT_6 (List.mem_of_getElem? (i := 72) rfl)) rfl
theorem mI_X11_lawOf : Cond.instanceMethod yX11_lawOf ∈ gWs := gWs_in (gT_6 (List.mem_of_getElem? (i := 74) rfl)) rfl
theorem mC_X11_lawOf : Cond.code yX11_lawOf cX11_lawOf 1 (some .int) ∈ gWs := gWs_in (gT_6 (List.mem_of_getElem? (i := 75) rfl)) rfl
theorem mM_X11_228 : Cond.methodLink RX11 228 yX11_spelled ∈ gWs := gWs_in (gT_6 (List.mem_of_getElem? (i := 76) rfl)) rfl
theorem mS_X11_spelled : Cond.static yX11_spelled ∈ gWs := gWs_in (gT_6 (List.mem_of_getElem? (i := 77) rfl)) rfl
theorem mC_X11_spelled : Cond.code yX11_spelled cX11_spelled 9 (some .long) ∈ gWs := gWs_in (gT_6 (List.mem_of_getElem? (i := 78) rfl)) rfl
theorem mM_X11_232 : Cond.methodLink RX11 232 yX11_isWord ∈ gWs := gWs_in (gT_6 (List.mem_of_getElem? (i := 79) rfl)) rfl
theorem mI_X11_isWord : Cond.instanceMethod yX11_isWord ∈ gWs := gWs_in (gT_6 (List.mem_of_getElem? (i := 81) rfl)) rfl
theorem mC_X11_isWord : Cond.code yX11_isWord cX11_isWord 3 (some .boolean) ∈ gWs := gWs_in (gT_6 (List.mem_of_getElem? (i := 82) rfl)) rfl
theorem mM_X11_198 : Cond.methodLink RX11 198 yX11_wrong ∈ gWs := gWs_in (gT_6 (List.mem_of_getElem? (i := 83) rfl)) rfl
theorem mI_X11_wrong : Cond.instanceMethod yX11_wrong ∈ gWs := gWs_in (gT_6 (List.mem_of_getElem? (i := 85) rfl)) rfl
theorem mC_X11_wrong : Cond.code yX11_wrong cX11_wrong 1 none ∈ gWs := gWs_in (gT_6 (List.mem_of_getElem? (i := 86) rfl)) rfl
theorem mM_X11_194 : Cond.methodLink RX11 194 yX11_fail ∈ gWs := gWs_in (gT_6 (List.mem_of_getElem? (i := 87) rfl)) rfl
theorem mI_X11_fail : Cond.instanceMethod yX11_fail ∈ gWs := gWs_in (gT_6 (List.mem_of_getElem? (i := 89) rfl)) rfl
theorem mC_X11_fail : Cond.code yX11_fail cX11_fail 3 none ∈ gWs := gWs_in (gT_6 (List.mem_of_getElem? (i := 90) rfl)) rfl
theorem mM_X11_224 : Cond.methodLink RX11 224 yX11_readLaw ∈ gWs := gWs_in (gT_6 (List.mem_of_getElem? (i := 91) rfl)) rfl
theorem mI_X11_readLaw : Cond.instanceMethod yX11_readLaw ∈ gWs := gWs_in (gT_6 (List.mem_of_getElem? (i := 93) rfl)) rfl
theorem mC_X11_readLaw : Cond.code yX11_readLaw cX11_readLaw 2 none ∈ gWs := gWs_in (gT_6 (List.mem_of_getElem? (i := 94) rfl)) rfl
theorem mM_X11_236 : Cond.methodLink RX11 236 yX11_numberOf ∈ gWs := gWs_in (gT_6 (List.mem_of_getElem? (i := 95) rfl)) rfl
theorem mI_X11_numberOf : Cond.instanceMethod yX11_numberOf ∈ gWs := gWs_in (gT_6 (List.mem_of_getElem? (i := 97) rfl)) rfl
theorem mC_X11_numberOf : Cond.code yX11_numberOf cX11_numberOf 4 (some .int) ∈ gWs := gWs_in (gT_6 (List.mem_of_getElem? (i := 98) rfl)) rfl
theorem mM_X11_240 : Cond.methodLink RX11 240 yX11_readExpression ∈ gWs := gWs_in (gT_6 (List.mem_of_getElem? (i := 99) rfl)) rfl
theorem mI_X11_readExpression : Cond.instanceMethod yX11_readExpression ∈ gWs := gWs_in (gT_6 (List.mem_of_getElem? (i := 101) rfl)) rfl
theorem mC_X11_readExpression : Cond.code yX11_readExpression cX11_readExpression 4 none ∈ gWs := gWs_in (gT_6 (List.mem_of_getElem? (i := 102) rfl)) rfl
theorem mM_X11_264 : Cond.methodLink RX11 264 yX11_readFactor ∈ gWs := gWs_in (gT_6 (List.mem_of_getElem? (i := 103) rfl)) rfl
theorem mI_X11_readFactor : Cond.instanceMethod yX11_readFactor ∈ gWs := gWs_in (gT_6 (List.mem_of_getElem? (i := 105) rfl)) rfl
theorem mC_X11_readFactor : Cond.code yX11_readFactor cX11_readFactor 2 (some .boolean) ∈ gWs := gWs_in (gT_6 (List.mem_of_getElem? (i := 106) rfl)) rfl
theorem mM_X11_283 : Cond.methodLink RX11 283 yX11_nameOf ∈ gWs := gWs_in (gT_6 (List.mem_of_getElem? (i := 107) rfl)) rfl
theorem mI_X11_nameOf : Cond.instanceMethod yX11_nameOf ∈ gWs := gWs_in (gT_6 (List.mem_of_getElem? (i := 109) rfl)) rfl
theorem mC_X11_nameOf : Cond.code yX11_nameOf cX11_nameOf 1 (some .int) ∈ gWs := gWs_in (gT_6 (List.mem_of_getElem? (i := 110) rfl)) rfl
theorem mM_X11_271 : Cond.methodLink RX11 271 yX11_counts ∈ gWs := gWs_in (gT_6 (List.mem_of_getElem? (i := 111) rfl)) rfl
theorem mI_X11_counts : Cond.instanceMethod yX11_counts ∈ gWs := gWs_in (gT_6 (List.mem_of_getElem? (i := 113) rfl)) rfl
theorem mC_X11_counts : Cond.code yX11_counts cX11_counts 1 none ∈ gWs := gWs_in (gT_6 (List.mem_of_getElem? (i := 114) rfl)) rfl
theorem mM_X11_261 : Cond.methodLink RX11 261 yX11_puts ∈ gWs := gWs_in (gT_6 (List.mem_of_getElem? (i := 115) rfl)) rfl
theorem mI_X11_puts : Cond.instanceMethod yX11_puts ∈ gWs := gWs_in (gT_6 (List.mem_of_getElem? (i := 117) rfl)) rfl
theorem mC_X11_puts : Cond.code yX11_puts cX11_puts 3 none ∈ gWs := gWs_in (gT_6 (List.mem_of_getElem? (i := 118) rfl)) rfl
theorem mM_X11_204 : Cond.methodLink RX11 204 yX11_isSign ∈ gWs := gWs_in (gT_6 (List.mem_of_getElem? (i := 119) rfl)) rfl
theorem mI_X11_isSign : Cond.instanceMethod yX11_isSign ∈ gWs := gWs_in (gT_6 (List.mem_of_getElem? (i := 121) rfl)) rfl
theorem mC_X11_isSign : Cond.code yX11_isSign cX11_isSign 2 (some .boolean) ∈ gWs := gWs_in (gT_6 (List.mem_of_getElem? (i := 122) rfl)) rfl
theorem mM_X11_286 : Cond.methodLink RX11 286 yX11_deeper ∈ gWs := gWs_in (gT_6 (List.mem_of_getElem? (i := 123) rfl)) rfl
theorem mI_X11_deeper : Cond.instanceMethod yX11_deeper ∈ gWs := gWs_in (gT_6 (List.mem_of_getElem? (i := 125) rfl)) rfl
theorem mC_X11_deeper : Cond.code yX11_deeper cX11_deeper 1 none ∈ gWs := gWs_in (gT_6 (List.mem_of_getElem? (i := 126) rfl)) rfl
theorem mM_X11_277 : Cond.methodLink RX11 277 yX11_waitFor ∈ gWs := gWs_in (gT_6 (List.mem_of_getElem? (i := 127) rfl)) rfl
theorem mI_X11_waitFor : Cond.instanceMethod yX11_waitFor ∈ gWs := gWs_in (gT_6 (List.mem_of_getElem? (i := 129) rfl)) rfl
theorem mC_X11_waitFor : Cond.code yX11_waitFor cX11_waitFor 2 none ∈ gWs := gWs_in (gT_6 (List.mem_of_getElem? (i := 130) rfl)) rfl
theorem mM_X11_268 : Cond.methodLink RX11 268 yX11_wholes ∈ gWs := gWs_in (gT_6 (List.mem_of_getElem? (i := 131) rfl)) rfl
theorem mI_X11_wholes : Cond.instanceMethod yX11_wholes ∈ gWs := gWs_in (gT_6 (List.mem_of_getElem? (i := 133) rfl)) rfl
theorem mC_X11_wholes : Cond.code yX11_wholes cX11_wholes 1 none ∈ gWs := gWs_in (gT_6 (List.mem_of_getElem? (i := 134) rfl)) rfl
theorem mM_X11_258 : Cond.methodLink RX11 258 yX11_strong ∈ gWs := gWs_in (gT_6 (List.mem_of_getElem? (i := 135) rfl)) rfl
theorem mS_X11_strong : Cond.static yX11_strong ∈ gWs := gWs_in (gT_6 (List.mem_of_getElem? (i := 136) rfl)) rfl
theorem mC_X11_strong : Cond.code yX11_strong cX11_strong 1 (some .int) ∈ gWs := gWs_in (gT_6 (List.mem_of_getElem? (i := 137) rfl)) rfl
theorem mM_X11_274 : Cond.methodLink RX11 274 yX11_reduce ∈ gWs := gWs_in (gT_6 (List.mem_of_getElem? (i := 138) rfl)) rfl
theorem mI_X11_reduce : Cond.instanceMethod yX11_reduce ∈ gWs := gWs_in (gT_6 (List.mem_of_getElem? (i := 140) rfl)) rfl
theorem mC_X11_reduce : Cond.code yX11_reduce cX11_reduce 2 none ∈ gWs := gWs_in (gT_6 (List.mem_of_getElem? (i := 141) rfl)) rfl
theorem mM_X11_280 : Cond.methodLink RX11 280 yX11_isOpen ∈ gWs := gWs_in (gT_6 (List.mem_of_getElem? (i := 142) rfl)) rfl
theorem mI_X11_isOpen : Cond.instanceMethod yX11_isOpen ∈ gWs := gWs_in (gT_6 (List.mem_of_getElem? (i := 144) rfl)) rfl
theorem mC_X11_isOpen : Cond.code yX11_isOpen cX11_isOpen 2 (some .boolean) ∈ gWs := gWs_in (gT_6 (List.mem_of_getElem? (i := 145) rfl)) rfl
theorem mM_X11_243 : Cond.methodLink RX11 243 yX11_readKeys ∈ gWs := gWs_in (gT_6 (List.mem_of_getElem? (i := 146) rfl)) rfl
theorem mI_X11_readKeys : Cond.instanceMethod yX11_readKeys ∈ gWs := gWs_in (gT_6 (List.mem_of_getElem? (i := 148) rfl)) rfl
theorem mC_X11_readKeys : Cond.code yX11_readKeys cX11_readKeys 4 none ∈ gWs := gWs_in (gT_6 (List.mem_of_getElem? (i := 149) rfl)) rfl
theorem mM_X11_246 : Cond.methodLink RX11 246 yX11_ends ∈ gWs := gWs_in (gT_6 (List.mem_of_getElem? (i := 150) rfl)) rfl
theorem mI_X11_ends : Cond.instanceMethod yX11_ends ∈ gWs := gWs_in (gT_6 (List.mem_of_getElem? (i := 152) rfl)) rfl
theorem mC_X11_ends : Cond.code yX11_ends cX11_ends 1 none ∈ gWs := gWs_in (gT_6 (List.mem_of_getElem? (i := 153) rfl)) rfl
theorem mM_L_31 : Cond.methodLink RL 31 yX11_fault ∈ gWs := gWs_in (gT_6 (List.mem_of_getElem? (i := 154) rfl)) rfl
theorem mI_X11_fault : Cond.instanceMethod yX11_fault ∈ gWs := gWs_in (gT_6 (List.mem_of_getElem? (i := 155) rfl)) rfl
theorem mE_X11_fault : Cond.selects RX11 yX11_fault yX11_fault ∈ gWs := gWs_in (gT_6 (List.mem_of_getElem? (i := 156) rfl)) rfl
theorem mC_X11_fault : Cond.code yX11_fault cX11_fault 2 (some .int) ∈ gWs := gWs_in (gT_6 (List.mem_of_getElem? (i := 157) rfl)) rfl
theorem mM_L_35 : Cond.methodLink RL 35 yX11_climber ∈ gWs := gWs_in (gT_6 (List.mem_of_getElem? (i := 158) rfl)) rfl
theorem mI_X11_climber : Cond.instanceMethod yX11_climber ∈ gWs := gWs_in (gT_6 (List.mem_of_getElem? (i := 159) rfl)) rfl
theorem mE_X11_climber : Cond.selects RX11 yX11_climber yX11_climber ∈ gWs := gWs_in (gT_6 (List.mem_of_getElem? (i := 160) rfl)) rfl
theorem mC_X11_climber : Cond.code yX11_climber cX11_climber 1 (some .int) ∈ gWs := gWs_in (gT_6 (List.mem_of_getElem? (i := 161) rfl)) rfl
theorem mM_L_40 : Cond.methodLink RL 40 yX11_route ∈ gWs := gWs_in (gT_6 (List.mem_of_getElem? (i := 162) rfl)) rfl
theorem mI_X11_route : Cond.instanceMethod yX11_route ∈ gWs := gWs_in (gT_6 (List.mem_of_getElem? (i := 163) rfl)) rfl
theorem mE_X11_route : Cond.selects RX11 yX11_route yX11_route ∈ gWs := gWs_in (gT_6 (List.mem_of_getElem? (i := 164) rfl)) rfl
theorem mC_X11_route : Cond.code yX11_route cX11_route 9 (some .boolean) ∈ gWs := gWs_in (gT_6 (List.mem_of_getElem? (i := 165) rfl)) rfl
theorem mM_X11_328 : Cond.methodLink RX11 328 yX11_isRoute ∈ gWs := gWs_in (gT_6 (List.mem_of_getElem? (i := 166) rfl)) rfl
theorem mI_X11_isRoute : Cond.instanceMethod yX11_isRoute ∈ gWs := gWs_in (gT_6 (List.mem_of_getElem? (i := 168) rfl)) rfl
theorem mC_X11_isRoute : Cond.code yX11_isRoute cX11_isRoute 3 (some .boolean) ∈ gWs := gWs_in (gT_6 (List.mem_of_getElem? (i := 169) rfl)) rfl
theorem mM_X11_325 : Cond.methodLink RX11 325 yX11_isRound ∈ gWs := gWs_in (gT_6 (List.mem_of_getElem? (i := 170) rfl)) rfl
theorem mI_X11_isRound : Cond.instanceMethod yX11_isRound ∈ gWs := gWs_in (gT_6 (List.mem_of_getElem? (i := 172) rfl)) rfl
theorem mC_X11_isRound : Cond.code yX11_isRound cX11_isRound 2 (some .boolean) ∈ gWs := gWs_in (gT_6 (List.mem_of_getElem? (i := 173) rfl)) rfl
theorem mM_X11_332 : Cond.methodLink RX11 332 yX11_no ∈ gWs := gWs_in (gT_6 (List.mem_of_getElem? (i := 174) rfl)) rfl
theorem mI_X11_no : Cond.instanceMethod yX11_no ∈ gWs := gWs_in (gT_6 (List.mem_of_getElem? (i := 176) rfl)) rfl
theorem mC_X11_no : Cond.code yX11_no cX11_no 2 (some .boolean) ∈ gWs := gWs_in (gT_6 (List.mem_of_getElem? (i := 177) rfl)) rfl
theorem mM_X11_335 : Cond.methodLink RX11 335 yX11_at ∈ gWs := gWs_in (gT_6 (List.mem_of_getElem? (i := 178) rfl)) rfl
theorem mS_X11_at : Cond.static yX11_at ∈ gWs := gWs_in (gT_6 (List.mem_of_getElem? (i := 179) rfl)) rfl
theorem mC_X11_at : Cond.code yX11_at cX11_at 2 (some .int) ∈ gWs := gWs_in (gT_6 (List.mem_of_getElem? (i := 180) rfl)) rfl
theorem mM_L_45 : Cond.methodLink RL 45 yX11_told ∈ gWs := gWs_in (gT_6 (List.mem_of_getElem? (i := 181) rfl)) rfl
theorem mI_X11_told : Cond.instanceMethod yX11_told ∈ gWs := gWs_in (gT_6 (List.mem_of_getElem? (i := 182) rfl)) rfl
theorem mE_X11_told : Cond.selects RX11 yX11_told yX11_told ∈ gWs := gWs_in (gT_6 (List.mem_of_getElem? (i := 183) rfl)) rfl
theorem mC_X11_told : Cond.code yX11_told cX11_told 5 (some .int) ∈ gWs := gWs_in (gT_6 (List.mem_of_getElem? (i := 184) rfl)) rfl
theorem mM_L_49 : Cond.methodLink RL 49 yX11_begin ∈ gWs := gWs_in (gT_6 (List.mem_of_getElem? (i := 185) rfl)) rfl
theorem mI_X11_begin : Cond.instanceMethod yX11_begin ∈ gWs := gWs_in (gT_6 (List.mem_of_getElem? (i := 186) rfl)) rfl
theorem mE_X11_begin : Cond.selects RX11 yX11_begin yX11_begin ∈ gWs := gWs_in (gT_6 (List.mem_of_getElem? (i := 187) rfl)) rfl
theorem mC_X11_begin : Cond.code yX11_begin cX11_begin 8 (some .int) ∈ gWs := gWs_in (gT_6 (List.mem_of_getElem? (i := 188) rfl)) rfl
theorem mM_X11_349 : Cond.methodLink RX11 349 yX11_isClimber ∈ gWs := gWs_in (gT_6 (List.mem_of_getElem? (i := 189) rfl)) rfl
theorem mI_X11_isClimber : Cond.instanceMethod yX11_isClimber ∈ gWs := gWs_in (gT_6 (List.mem_of_getElem? (i := 191) rfl)) rfl
theorem mC_X11_isClimber : Cond.code yX11_isClimber cX11_isClimber 2 (some .boolean) ∈ gWs := gWs_in (gT_6 (List.mem_of_getElem? (i := 192) rfl)) rfl
theorem mM_X11_352 : Cond.methodLink RX11 352 yX11_clocked ∈ gWs := gWs_in (gT_6 (List.mem_of_getElem? (i := 193) rfl)) rfl
theorem mI_X11_clocked : Cond.instanceMethod yX11_clocked ∈ gWs := gWs_in (gT_6 (List.mem_of_getElem? (i := 195) rfl)) rfl
theorem mC_X11_clocked : Cond.code yX11_clocked cX11_clocked 2 (some .int) ∈ gWs := gWs_in (gT_6 (List.mem_of_getElem? (i := 196) rfl)) rfl
theorem mD_X11_337 : Cond.constant RX11 337 (1000000) ∈ gWs := gWs_in (gT_6 (List.mem_of_getElem? (i := 197) rfl)) rfl
theorem mM_X11_338 : Cond.methodLink RX11 338 yX11_goesTo ∈ gWs := gWs_in (gT_6 (List.mem_of_getElem? (i := 198) rfl)) rfl
theorem mI_X11_goesTo : Cond.instanceMethod yX11_goesTo ∈ gWs := gWs_in (gT_6 (List.mem_of_getElem? (i := 200) rfl)) rfl
theorem mC_X11_goesTo : Cond.code yX11_goesTo cX11_goesTo 3 none ∈ gWs := gWs_in (gT_6 (List.mem_of_getElem? (i := 201) rfl)) rfl
theorem mM_X11_355 : Cond.methodLink RX11 355 yX11_openTry ∈ gWs := gWs_in (gT_6 (List.mem_of_getElem? (i := 202) rfl)) rfl
theorem mI_X11_openTry : Cond.instanceMethod yX11_openTry ∈ gWs := gWs_in (gT_6 (List.mem_of_getElem? (i := 204) rfl)) rfl
theorem mC_X11_openTry : Cond.code yX11_openTry cX11_openTry 3 (some .int) ∈ gWs := gWs_in (gT_6 (List.mem_of_getElem? (i := 205) rfl)) rfl
theorem mM_X11_358 : Cond.methodLink RX11 358 yX11_hasSeen ∈ gWs := gWs_in (gT_6 (List.mem_of_getElem? (i := 206) rfl)) rfl
theorem mI_X11_hasSeen : Cond.instanceMethod yX11_hasSeen ∈ gWs := gWs_in (gT_6 (List.mem_of_getElem? (i := 208) rfl)) rfl
theorem mC_X11_hasSeen : Cond.code yX11_hasSeen cX11_hasSeen 7 (some .boolean) ∈ gWs := gWs_in (gT_6 (List.mem_of_getElem? (i := 209) rfl)) rfl
theorem mM_X11_341 : Cond.methodLink RX11 341 yJ9_max_7cf53 ∈ gWs := gWs_in (gT_6 (List.mem_of_getElem? (i := 210) rfl)) rfl
theorem mM_X11_346 : Cond.methodLink RX11 346 yJ9_min_7cf53 ∈ gWs := gWs_in (gT_6 (List.mem_of_getElem? (i := 211) rfl)) rfl
theorem mS_J9_min_7cf53 : Cond.static yJ9_min_7cf53 ∈ gWs := gWs_in (gT_6 (List.mem_of_getElem? (i := 212) rfl)) rfl
theorem mC_J9_min_7cf53 : Cond.code yJ9_min_7cf53 cJ9_min_7cf53 2 (some .int) ∈ gWs := gWs_in (gT_6 (List.mem_of_getElem? (i := 213) rfl)) rfl
theorem mM_X11_361 : Cond.methodLink RX11 361 yX11_readyAt ∈ gWs := gWs_in (gT_6 (List.mem_of_getElem? (i := 214) rfl)) rfl
theorem mI_X11_readyAt : Cond.instanceMethod yX11_readyAt ∈ gWs := gWs_in (gT_6 (List.mem_of_getElem? (i := 216) rfl)) rfl
theorem mC_X11_readyAt : Cond.code yX11_readyAt cX11_readyAt 4 (some .int) ∈ gWs := gWs_in (gT_6 (List.mem_of_getElem? (i := 217) rfl)) rfl
theorem mM_L_53 : Cond.methodLink RL 53 yX11_reach ∈ gWs := gWs_in (gT_6 (List.mem_of_getElem? (i := 218) rfl)) rfl
theorem mI_X11_reach : Cond.instanceMethod yX11_reach ∈ gWs := gWs_in (gT_6 (List.mem_of_getElem? (i := 219) rfl)) rfl
theorem mE_X11_reach : Cond.selects RX11 yX11_reach yX11_reach ∈ gWs := gWs_in (gT_6 (List.mem_of_getElem? (i := 220) rfl)) rfl
theorem mC_X11_reach : Cond.code yX11_reach cX11_reach 7 (some .int) ∈ gWs := gWs_in (gT_6 (List.mem_of_getElem? (i := 221) rfl)) rfl
theorem mM_L_58 : Cond.methodLink RL 58 yX11_fall ∈ gWs := gWs_in (gT_6 (List.mem_of_getElem? (i := 222) rfl)) rfl
theorem mI_X11_fall : Cond.instanceMethod yX11_fall ∈ gWs := gWs_in (gT_6 (List.mem_of_getElem? (i := 223) rfl)) rfl
theorem mE_X11_fall : Cond.selects RX11 yX11_fall yX11_fall ∈ gWs := gWs_in (gT_6 (List.mem_of_getElem? (i := 224) rfl)) rfl
theorem mC_X11_fall : Cond.code yX11_fall cX11_fall 6 (some .boolean) ∈ gWs := gWs_in (gT_6 (List.mem_of_getElem? (i := 225) rfl)) rfl
theorem mM_L_62 : Cond.methodLink RL 62 yX11_out ∈ gWs := gWs_in (gT_6 (List.mem_of_getElem? (i := 226) rfl)) rfl
theorem mI_X11_out : Cond.instanceMethod yX11_out ∈ gWs := gWs_in (gT_6 (List.mem_of_getElem? (i := 227) rfl)) rfl
theorem mE_X11_out : Cond.selects RX11 yX11_out yX11_out ∈ gWs := gWs_in (gT_6 (List.mem_of_getElem? (i := 228) rfl)) rfl
theorem mC_X11_out : Cond.code yX11_out cX11_out 7 (some .boolean) ∈ gWs := gWs_in (gT_6 (List.mem_of_getElem? (i := 229) rfl)) rfl
theorem mM_L_67 : Cond.methodLink RL 67 yX11_clock ∈ gWs := gWs_in (gT_6 (List.mem_of_getElem? (i := 230) rfl)) rfl
theorem mI_X11_clock : Cond.instanceMethod yX11_clock ∈ gWs := gWs_in (gT_6 (List.mem_of_getElem? (i := 231) rfl)) rfl
theorem mE_X11_clock : Cond.selects RX11 yX11_clock yX11_clock ∈ gWs := gWs_in (gT_6 (List.mem_of_getElem? (i := 232) rfl)) rfl
theorem mC_X11_clock : Cond.code yX11_clock cX11_clock 2 (some .boolean) ∈ gWs := gWs_in (gT_6 (List.mem_of_getElem? (i := 233) rfl)) rfl
theorem mM_L_71 : Cond.methodLink RL 71 yX11_now ∈ gWs := gWs_in (gT_6 (List.mem_of_getElem? (i := 234) rfl)) rfl
theorem mI_X11_now : Cond.instanceMethod yX11_now ∈ gWs := gWs_in (gT_6 (List.mem_of_getElem? (i := 235) rfl)) rfl
theorem mE_X11_now : Cond.selects RX11 yX11_now yX11_now ∈ gWs := gWs_in (gT_6 (List.mem_of_getElem? (i := 236) rfl)) rfl
theorem mC_X11_now : Cond.code yX11_now cX11_now 1 (some .int) ∈ gWs := gWs_in (gT_6 (List.mem_of_getElem? (i := 237) rfl)) rfl
theorem mM_L_76 : Cond.methodLink RL 76 yX11_tried ∈ gWs := gWs_in (gT_6 (List.mem_of_getElem? (i := 238) rfl)) rfl
theorem mI_X11_tried : Cond.instanceMethod yX11_tried ∈ gWs := gWs_in (gT_6 (List.mem_of_getElem? (i := 239) rfl)) rfl
theorem mE_X11_tried : Cond.selects RX11 yX11_tried yX11_tried ∈ gWs := gWs_in (gT_7 (List.mem_of_getElem? (i := 0) rfl)) rfl
theorem mC_X11_tried : Cond.code yX11_tried cX11_tried 3 (some .int) ∈ gWs := gWs_in (gT_7 (List.mem_of_getElem? (i := 1) rfl)) rfl
theorem mM_L_80 : Cond.methodLink RL 80 yX11_seen ∈ gWs := gWs_in (gT_7 (List.mem_of_getElem? (i := 2) rfl)) rfl
theorem mI_X11_seen : Cond.instanceMethod yX11_seen ∈ gWs := gWs_in (gT_7 (List.mem_of_getElem? (i := 3) rfl)) rfl
theorem mE_X11_seen : Cond.selects RX11 yX11_seen yX11_seen ∈ gWs := gWs_in (gT_7 (List.mem_of_getElem? (i := 4) rfl)) rfl
theorem mC_X11_seen : Cond.code yX11_seen cX11_seen 3 (some .int) ∈ gWs := gWs_in (gT_7 (List.mem_of_getElem? (i := 5) rfl)) rfl
theorem mM_L_84 : Cond.methodLink RL 84 yX11_ready ∈ gWs := gWs_in (gT_7 (List.mem_of_getElem? (i := 6) rfl)) rfl
theorem mI_X11_ready : Cond.instanceMethod yX11_ready ∈ gWs := gWs_in (gT_7 (List.mem_of_getElem? (i := 7) rfl)) rfl
theorem mE_X11_ready : Cond.selects RX11 yX11_ready yX11_ready ∈ gWs := gWs_in (gT_7 (List.mem_of_getElem? (i := 8) rfl)) rfl
theorem mC_X11_ready : Cond.code yX11_ready cX11_ready 2 (some .int) ∈ gWs := gWs_in (gT_7 (List.mem_of_getElem? (i := 9) rfl)) rfl
theorem mM_L_89 : Cond.methodLink RL 89 yX11_appeal ∈ gWs := gWs_in (gT_7 (List.mem_of_getElem? (i := 10) rfl)) rfl
theorem mI_X11_appeal : Cond.instanceMethod yX11_appeal ∈ gWs := gWs_in (gT_7 (List.mem_of_getElem? (i := 11) rfl)) rfl
theorem mE_X11_appeal : Cond.selects RX11 yX11_appeal yX11_appeal ∈ gWs := gWs_in (gT_7 (List.mem_of_getElem? (i := 12) rfl)) rfl
theorem mC_X11_appeal : Cond.code yX11_appeal cX11_appeal 4 (some .boolean) ∈ gWs := gWs_in (gT_7 (List.mem_of_getElem? (i := 13) rfl)) rfl
theorem mM_X11_364 : Cond.methodLink RX11 364 yX11_isDay ∈ gWs := gWs_in (gT_7 (List.mem_of_getElem? (i := 14) rfl)) rfl
theorem mS_X11_isDay : Cond.static yX11_isDay ∈ gWs := gWs_in (gT_7 (List.mem_of_getElem? (i := 15) rfl)) rfl
theorem mC_X11_isDay : Cond.code yX11_isDay cX11_isDay 1 (some .boolean) ∈ gWs := gWs_in (gT_7 (List.mem_of_getElem? (i := 16) rfl)) rfl
theorem mM_L_93 : Cond.methodLink RL 93 yX11_of ∈ gWs := gWs_in (gT_7 (List.mem_of_getElem? (i := 17) rfl)) rfl
theorem mI_X11_of : Cond.instanceMethod yX11_of ∈ gWs := gWs_in (gT_7 (List.mem_of_getElem? (i := 18) rfl)) rfl
theorem mE_X11_of : Cond.selects RX11 yX11_of yX11_of ∈ gWs := gWs_in (gT_7 (List.mem_of_getElem? (i := 19) rfl)) rfl
theorem mC_X11_of : Cond.code yX11_of cX11_of 7 (some .int) ∈ gWs := gWs_in (gT_7 (List.mem_of_getElem? (i := 20) rfl)) rfl
theorem mM_X11_387 : Cond.methodLink RX11 387 yX11_pointsOf ∈ gWs := gWs_in (gT_7 (List.mem_of_getElem? (i := 21) rfl)) rfl
theorem mI_X11_pointsOf : Cond.instanceMethod yX11_pointsOf ∈ gWs := gWs_in (gT_7 (List.mem_of_getElem? (i := 23) rfl)) rfl
theorem mC_X11_pointsOf : Cond.code yX11_pointsOf cX11_pointsOf 7 (some .int) ∈ gWs := gWs_in (gT_7 (List.mem_of_getElem? (i := 24) rfl)) rfl
theorem mM_X11_379 : Cond.methodLink RX11 379 yX11_factsOf ∈ gWs := gWs_in (gT_7 (List.mem_of_getElem? (i := 25) rfl)) rfl
theorem mI_X11_factsOf : Cond.instanceMethod yX11_factsOf ∈ gWs := gWs_in (gT_7 (List.mem_of_getElem? (i := 27) rfl)) rfl
theorem mC_X11_factsOf : Cond.code yX11_factsOf cX11_factsOf 11 none ∈ gWs := gWs_in (gT_7 (List.mem_of_getElem? (i := 28) rfl)) rfl
theorem mM_X11_367 : Cond.methodLink RX11 367 yX11_holdOf ∈ gWs := gWs_in (gT_7 (List.mem_of_getElem? (i := 29) rfl)) rfl
theorem mI_X11_holdOf : Cond.instanceMethod yX11_holdOf ∈ gWs := gWs_in (gT_7 (List.mem_of_getElem? (i := 31) rfl)) rfl
theorem mC_X11_holdOf : Cond.code yX11_holdOf cX11_holdOf 5 (some .int) ∈ gWs := gWs_in (gT_7 (List.mem_of_getElem? (i := 32) rfl)) rfl
theorem mM_X11_383 : Cond.methodLink RX11 383 yX11_cut ∈ gWs := gWs_in (gT_7 (List.mem_of_getElem? (i := 33) rfl)) rfl
theorem mS_X11_cut : Cond.static yX11_cut ∈ gWs := gWs_in (gT_7 (List.mem_of_getElem? (i := 34) rfl)) rfl
theorem mC_X11_cut : Cond.code yX11_cut cX11_cut 2 (some .long) ∈ gWs := gWs_in (gT_7 (List.mem_of_getElem? (i := 35) rfl)) rfl
theorem mD_X11_370 : Cond.constantLong RX11 370 (-1000000000) ∈ gWs := gWs_in (gT_7 (List.mem_of_getElem? (i := 36) rfl)) rfl
theorem mD_X11_372 : Cond.constantLong RX11 372 (1000000000) ∈ gWs := gWs_in (gT_7 (List.mem_of_getElem? (i := 37) rfl)) rfl
theorem mM_X11_374 : Cond.methodLink RX11 374 yJ9_min_f86c9 ∈ gWs := gWs_in (gT_7 (List.mem_of_getElem? (i := 38) rfl)) rfl
theorem mM_X11_377 : Cond.methodLink RX11 377 yJ9_max_f86c9 ∈ gWs := gWs_in (gT_7 (List.mem_of_getElem? (i := 39) rfl)) rfl
theorem mM_L_98 : Cond.methodLink RL 98 yX11_key ∈ gWs := gWs_in (gT_7 (List.mem_of_getElem? (i := 40) rfl)) rfl
theorem mI_X11_key : Cond.instanceMethod yX11_key ∈ gWs := gWs_in (gT_7 (List.mem_of_getElem? (i := 41) rfl)) rfl
theorem mE_X11_key : Cond.selects RX11 yX11_key yX11_key ∈ gWs := gWs_in (gT_7 (List.mem_of_getElem? (i := 42) rfl)) rfl
theorem mC_X11_key : Cond.code yX11_key cX11_key 5 (some .long) ∈ gWs := gWs_in (gT_7 (List.mem_of_getElem? (i := 43) rfl)) rfl
theorem mM_X11_391 : Cond.methodLink RX11 391 yX11_isIn ∈ gWs := gWs_in (gT_7 (List.mem_of_getElem? (i := 44) rfl)) rfl
theorem mI_X11_isIn : Cond.instanceMethod yX11_isIn ∈ gWs := gWs_in (gT_7 (List.mem_of_getElem? (i := 46) rfl)) rfl
theorem mC_X11_isIn : Cond.code yX11_isIn cX11_isIn 3 (some .boolean) ∈ gWs := gWs_in (gT_7 (List.mem_of_getElem? (i := 47) rfl)) rfl
theorem mM_X11_393 : Cond.methodLink RX11 393 yX11_keyOf ∈ gWs := gWs_in (gT_7 (List.mem_of_getElem? (i := 48) rfl)) rfl
theorem mI_X11_keyOf : Cond.instanceMethod yX11_keyOf ∈ gWs := gWs_in (gT_7 (List.mem_of_getElem? (i := 50) rfl)) rfl
theorem mC_X11_keyOf : Cond.code yX11_keyOf cX11_keyOf 11 (some .long) ∈ gWs := gWs_in (gT_7 (List.mem_of_getElem? (i := 51) rfl)) rfl
theorem mM_L_102 : Cond.methodLink RL 102 yX11_rank ∈ gWs := gWs_in (gT_7 (List.mem_of_getElem? (i := 52) rfl)) rfl
theorem mI_X11_rank : Cond.instanceMethod yX11_rank ∈ gWs := gWs_in (gT_7 (List.mem_of_getElem? (i := 53) rfl)) rfl
theorem mE_X11_rank : Cond.selects RX11 yX11_rank yX11_rank ∈ gWs := gWs_in (gT_7 (List.mem_of_getElem? (i := 54) rfl)) rfl
theorem mC_X11_rank : Cond.code yX11_rank cX11_rank 4 (some .int) ∈ gWs := gWs_in (gT_7 (List.mem_of_getElem? (i := 55) rfl)) rfl
theorem mM_X11_401 : Cond.methodLink RX11 401 yX11_rankOf ∈ gWs := gWs_in (gT_7 (List.mem_of_getElem? (i := 56) rfl)) rfl
theorem mI_X11_rankOf : Cond.instanceMethod yX11_rankOf ∈ gWs := gWs_in (gT_7 (List.mem_of_getElem? (i := 58) rfl)) rfl
theorem mC_X11_rankOf : Cond.code yX11_rankOf cX11_rankOf 6 (some .int) ∈ gWs := gWs_in (gT_7 (List.mem_of_getElem? (i := 59) rfl)) rfl
theorem mM_X11_397 : Cond.methodLink RX11 397 yX11_isAhead ∈ gWs := gWs_in (gT_7 (List.mem_of_getElem? (i := 60) rfl)) rfl
theorem mI_X11_isAhead : Cond.instanceMethod yX11_isAhead ∈ gWs := gWs_in (gT_7 (List.mem_of_getElem? (i := 62) rfl)) rfl
theorem mC_X11_isAhead : Cond.code yX11_isAhead cX11_isAhead 11 (some .boolean) ∈ gWs := gWs_in (gT_7 (List.mem_of_getElem? (i := 63) rfl)) rfl
theorem mM_L_106 : Cond.methodLink RL 106 yX11_advance ∈ gWs := gWs_in (gT_7 (List.mem_of_getElem? (i := 64) rfl)) rfl
theorem mI_X11_advance : Cond.instanceMethod yX11_advance ∈ gWs := gWs_in (gT_7 (List.mem_of_getElem? (i := 65) rfl)) rfl
theorem mE_X11_advance : Cond.selects RX11 yX11_advance yX11_advance ∈ gWs := gWs_in (gT_7 (List.mem_of_getElem? (i := 66) rfl)) rfl
theorem mC_X11_advance : Cond.code yX11_advance cX11_advance 7 (some .int) ∈ gWs := gWs_in (gT_7 (List.mem_of_getElem? (i := 67) rfl)) rfl
theorem mM_L_110 : Cond.methodLink RL 110 yX11_order ∈ gWs := gWs_in (gT_7 (List.mem_of_getElem? (i := 68) rfl)) rfl
theorem mI_X11_order : Cond.instanceMethod yX11_order ∈ gWs := gWs_in (gT_7 (List.mem_of_getElem? (i := 69) rfl)) rfl
theorem mE_X11_order : Cond.selects RX11 yX11_order yX11_order ∈ gWs := gWs_in (gT_7 (List.mem_of_getElem? (i := 70) rfl)) rfl
theorem mC_X11_order : Cond.code yX11_order cX11_order 3 (some .int) ∈ gWs := gWs_in (gT_7 (List.mem_of_getElem? (i := 71) rfl)) rfl
theorem mM_L_114 : Cond.methodLink RL 114 yX11_parts ∈ gWs := gWs_in (gT_7 (List.mem_of_getElem? (i := 72) rfl)) rfl
theorem mI_X11_parts : Cond.instanceMethod yX11_parts ∈ gWs := gWs_in (gT_7 (List.mem_of_getElem? (i := 73) rfl)) rfl
theorem mE_X11_parts : Cond.selects RX11 yX11_parts yX11_parts ∈ gWs := gWs_in (gT_7 (List.mem_of_getElem? (i := 74) rfl)) rfl
theorem mC_X11_parts : Cond.code yX11_parts cX11_parts 4 (some .int) ∈ gWs := gWs_in (gT_7 (List.mem_of_getElem? (i := 75) rfl)) rfl
theorem mM_X11_405 : Cond.methodLink RX11 405 yX11_partsOf ∈ gWs := gWs_in (gT_7 (List.mem_of_getElem? (i := 76) rfl)) rfl
theorem mI_X11_partsOf : Cond.instanceMethod yX11_partsOf ∈ gWs := gWs_in (gT_7 (List.mem_of_getElem? (i := 78) rfl)) rfl
theorem mC_X11_partsOf : Cond.code yX11_partsOf cX11_partsOf 7 (some .int) ∈ gWs := gWs_in (gT_7 (List.mem_of_getElem? (i := 79) rfl)) rfl
theorem mM_L_118 : Cond.methodLink RL 118 yX11_choose ∈ gWs := gWs_in (gT_7 (List.mem_of_getElem? (i := 80) rfl)) rfl
theorem mI_X11_choose : Cond.instanceMethod yX11_choose ∈ gWs := gWs_in (gT_7 (List.mem_of_getElem? (i := 81) rfl)) rfl
theorem mE_X11_choose : Cond.selects RX11 yX11_choose yX11_choose ∈ gWs := gWs_in (gT_7 (List.mem_of_getElem? (i := 82) rfl)) rfl
theorem mC_X11_choose : Cond.code yX11_choose cX11_choose 8 (some .int) ∈ gWs := gWs_in (gT_7 (List.mem_of_getElem? (i := 83) rfl)) rfl
theorem mM_X11_408 : Cond.methodLink RX11 408 yJ6_bitCount_0f7a4 ∈ gWs := gWs_in (gT_7 (List.mem_of_getElem? (i := 84) rfl)) rfl
theorem mF_J0_9 : Cond.fieldLink RJ0 9 "java/lang/String" "value" "[B" ∈ gWs := gWs_in (gT_7 (List.mem_of_getElem? (i := 85) rfl)) rfl
theorem mF_J0_15 : Cond.fieldLink RJ0 15 "java/lang/String" "coder" "B" ∈ gWs := gWs_in (gT_7 (List.mem_of_getElem? (i := 86) rfl)) rfl
theorem mE_X10_putOnTape : Cond.selects RX10 yX10_putOnTape yX10_putOnTape ∈ gWs := gWs_in (gT_0 (List.mem_of_getElem? (i := 0) rfl)) rfl
theorem mE_X10_refuse : Cond.selects RX10 yX10_refuse yX10_refuse ∈ gWs := gWs_in (gT_0 (List.mem_of_getElem? (i := 1) rfl)) rfl
theorem mE_X6_putWord : Cond.selects RX6 yX6_putWord yX6_putWord ∈ gWs := gWs_in (gT_0 (List.mem_of_getElem? (i := 2) rfl)) rfl
theorem mE_X6_put : Cond.selects RX6 yX6_put yX6_put ∈ gWs := gWs_in (gT_0 (List.mem_of_getElem? (i := 3) rfl)) rfl
theorem mE_X6_putNumber : Cond.selects RX6 yX6_putNumber yX6_putNumber ∈ gWs := gWs_in (gT_0 (List.mem_of_getElem? (i := 4) rfl)) rfl
theorem mE_X3_readLaw : Cond.selects RX3 yX3_readLaw yX3_readLaw ∈ gWs := gWs_in (gT_0 (List.mem_of_getElem? (i := 5) rfl)) rfl
theorem mE_X3_readRound : Cond.selects RX3 yX3_readRound yX3_readRound ∈ gWs := gWs_in (gT_0 (List.mem_of_getElem? (i := 6) rfl)) rfl
theorem mE_X3_refuseIf : Cond.selects RX3 yX3_refuseIf yX3_refuseIf ∈ gWs := gWs_in (gT_0 (List.mem_of_getElem? (i := 7) rfl)) rfl
theorem mE_X3_note : Cond.selects RX3 yX3_note yX3_note ∈ gWs := gWs_in (gT_0 (List.mem_of_getElem? (i := 8) rfl)) rfl
theorem mE_X3_goOn : Cond.selects RX3 yX3_goOn yX3_goOn ∈ gWs := gWs_in (gT_0 (List.mem_of_getElem? (i := 9) rfl)) rfl
theorem mE_X3_pass : Cond.selects RX3 yX3_pass yX3_pass ∈ gWs := gWs_in (gT_0 (List.mem_of_getElem? (i := 10) rfl)) rfl
theorem mE_X3_refuseToken : Cond.selects RX3 yX3_refuseToken yX3_refuseToken ∈ gWs := gWs_in (gT_0 (List.mem_of_getElem? (i := 11) rfl)) rfl
theorem mE_X1_release : Cond.selects RX1 yX1_release yX1_release ∈ gWs := gWs_in (gT_0 (List.mem_of_getElem? (i := 12) rfl)) rfl
theorem mE_X1_readBehindFactor : Cond.selects RX1 yX1_readBehindFactor yX1_readBehindFactor ∈ gWs := gWs_in (gT_0 (List.mem_of_getElem? (i := 13) rfl)) rfl
theorem mE_X1_putSign : Cond.selects RX1 yX1_putSign yX1_putSign ∈ gWs := gWs_in (gT_0 (List.mem_of_getElem? (i := 14) rfl)) rfl
theorem mE_X1_countItem : Cond.selects RX1 yX1_countItem yX1_countItem ∈ gWs := gWs_in (gT_0 (List.mem_of_getElem? (i := 15) rfl)) rfl
theorem mE_X1_await : Cond.selects RX1 yX1_await yX1_await ∈ gWs := gWs_in (gT_0 (List.mem_of_getElem? (i := 16) rfl)) rfl
theorem mE_X1_closeParen : Cond.selects RX1 yX1_closeParen yX1_closeParen ∈ gWs := gWs_in (gT_0 (List.mem_of_getElem? (i := 17) rfl)) rfl
theorem mE_X1_refuseToken : Cond.selects RX1 yX1_refuseToken yX1_refuseToken ∈ gWs := gWs_in (gT_0 (List.mem_of_getElem? (i := 18) rfl)) rfl
theorem mE_X1_releaseNegations : Cond.selects RX1 yX1_releaseNegations yX1_releaseNegations ∈ gWs := gWs_in (gT_0 (List.mem_of_getElem? (i := 19) rfl)) rfl
theorem mE_X1_readFactor : Cond.selects RX1 yX1_readFactor yX1_readFactor ∈ gWs := gWs_in (gT_0 (List.mem_of_getElem? (i := 20) rfl)) rfl
theorem mE_X1_nest : Cond.selects RX1 yX1_nest yX1_nest ∈ gWs := gWs_in (gT_0 (List.mem_of_getElem? (i := 21) rfl)) rfl
theorem mE_X3_readKeys : Cond.selects RX3 yX3_readKeys yX3_readKeys ∈ gWs := gWs_in (gT_0 (List.mem_of_getElem? (i := 22) rfl)) rfl
theorem mE_X3_readKey : Cond.selects RX3 yX3_readKey yX3_readKey ∈ gWs := gWs_in (gT_0 (List.mem_of_getElem? (i := 23) rfl)) rfl
theorem mE_X3_readTies : Cond.selects RX3 yX3_readTies yX3_readTies ∈ gWs := gWs_in (gT_0 (List.mem_of_getElem? (i := 24) rfl)) rfl
theorem mE_X10_answer : Cond.selects RX10 yX10_answer yX10_answer ∈ gWs := gWs_in (gT_0 (List.mem_of_getElem? (i := 25) rfl)) rfl
theorem mE_X10_deny : Cond.selects RX10 yX10_deny yX10_deny ∈ gWs := gWs_in (gT_0 (List.mem_of_getElem? (i := 26) rfl)) rfl
theorem mE_X10_grant : Cond.selects RX10 yX10_grant yX10_grant ∈ gWs := gWs_in (gT_0 (List.mem_of_getElem? (i := 27) rfl)) rfl
theorem mE_X10_passTo : Cond.selects RX10 yX10_passTo yX10_passTo ∈ gWs := gWs_in (gT_0 (List.mem_of_getElem? (i := 28) rfl)) rfl
theorem mE_X10_whyNotBegin : Cond.selects RX10 yX10_whyNotBegin yX10_whyNotBegin ∈ gWs := gWs_in (gT_0 (List.mem_of_getElem? (i := 29) rfl)) rfl
theorem mE_X10_hasSeen : Cond.selects RX10 yX10_hasSeen yX10_hasSeen ∈ gWs := gWs_in (gT_0 (List.mem_of_getElem? (i := 30) rfl)) rfl
theorem mE_X9_wasOut : Cond.selects RX9 yX9_wasOut yX9_wasOut ∈ gWs := gWs_in (gT_0 (List.mem_of_getElem? (i := 31) rfl)) rfl
theorem mE_X9_latest : Cond.selects RX9 yX9_latest yX9_latest ∈ gWs := gWs_in (gT_0 (List.mem_of_getElem? (i := 32) rfl)) rfl
theorem mE_X10_restOver : Cond.selects RX10 yX10_restOver yX10_restOver ∈ gWs := gWs_in (gT_0 (List.mem_of_getElem? (i := 33) rfl)) rfl
theorem mE_X5_hearAppeals : Cond.selects RX5 yX5_hearAppeals yX5_hearAppeals ∈ gWs := gWs_in (gT_0 (List.mem_of_getElem? (i := 34) rfl)) rfl
theorem mE_X5_lowestAsked : Cond.selects RX5 yX5_lowestAsked yX5_lowestAsked ∈ gWs := gWs_in (gT_0 (List.mem_of_getElem? (i := 35) rfl)) rfl
theorem mE_X5_manyAhead : Cond.selects RX5 yX5_manyAhead yX5_manyAhead ∈ gWs := gWs_in (gT_0 (List.mem_of_getElem? (i := 36) rfl)) rfl
theorem mE_X5_isAhead : Cond.selects RX5 yX5_isAhead yX5_isAhead ∈ gWs := gWs_in (gT_0 (List.mem_of_getElem? (i := 37) rfl)) rfl
theorem mE_X5_manyStartAhead : Cond.selects RX5 yX5_manyStartAhead yX5_manyStartAhead ∈ gWs := gWs_in (gT_0 (List.mem_of_getElem? (i := 38) rfl)) rfl
theorem mE_X5_together : Cond.selects RX5 yX5_together yX5_together ∈ gWs := gWs_in (gT_0 (List.mem_of_getElem? (i := 39) rfl)) rfl
theorem mE_X11_lay : Cond.selects RX11 yX11_lay yX11_lay ∈ gWs := gWs_in (gT_0 (List.mem_of_getElem? (i := 40) rfl)) rfl
theorem mE_X11_refuse : Cond.selects RX11 yX11_refuse yX11_refuse ∈ gWs := gWs_in (gT_0 (List.mem_of_getElem? (i := 41) rfl)) rfl
theorem mE_X11_readText : Cond.selects RX11 yX11_readText yX11_readText ∈ gWs := gWs_in (gT_0 (List.mem_of_getElem? (i := 42) rfl)) rfl
theorem mE_X11_next : Cond.selects RX11 yX11_next yX11_next ∈ gWs := gWs_in (gT_0 (List.mem_of_getElem? (i := 43) rfl)) rfl
theorem mE_X11_look : Cond.selects RX11 yX11_look yX11_look ∈ gWs := gWs_in (gT_0 (List.mem_of_getElem? (i := 44) rfl)) rfl
theorem mE_X11_lawOf : Cond.selects RX11 yX11_lawOf yX11_lawOf ∈ gWs := gWs_in (gT_0 (List.mem_of_getElem? (i := 45) rfl)) rfl
theorem mE_X11_isWord : Cond.selects RX11 yX11_isWord yX11_isWord ∈ gWs := gWs_in (gT_0 (List.mem_of_getElem? (i := 46) rfl)) rfl
theorem mE_X11_wrong : Cond.selects RX11 yX11_wrong yX11_wrong ∈ gWs := gWs_in (gT_0 (List.mem_of_getElem? (i := 47) rfl)) rfl
theorem mE_X11_fail : Cond.selects RX11 yX11_fail yX11_fail ∈ gWs := gWs_in (gT_0 (List.mem_of_getElem? (i := 48) rfl)) rfl
theorem mE_X11_readLaw : Cond.selects RX11 yX11_readLaw yX11_readLaw ∈ gWs := gWs_in (gT_0 (List.mem_of_getElem? (i := 49) rfl)) rfl
theorem mE_X11_numberOf : Cond.selects RX11 yX11_numberOf yX11_numberOf ∈ gWs := gWs_in (gT_0 (List.mem_of_getElem? (i := 50) rfl)) rfl
theorem mE_X11_readExpression : Cond.selects RX11 yX11_readExpression yX11_readExpression ∈ gWs := gWs_in (gT_0 (List.mem_of_getElem? (i := 51) rfl)) rfl
theorem mE_X11_readFactor : Cond.selects RX11 yX11_readFactor yX11_readFactor ∈ gWs := gWs_in (gT_0 (List.mem_of_getElem? (i := 52) rfl)) rfl
theorem mE_X11_nameOf : Cond.selects RX11 yX11_nameOf yX11_nameOf ∈ gWs := gWs_in (gT_0 (List.mem_of_getElem? (i := 53) rfl)) rfl
theorem mE_X11_counts : Cond.selects RX11 yX11_counts yX11_counts ∈ gWs := gWs_in (gT_0 (List.mem_of_getElem? (i := 54) rfl)) rfl
theorem mE_X11_puts : Cond.selects RX11 yX11_puts yX11_puts ∈ gWs := gWs_in (gT_0 (List.mem_of_getElem? (i := 55) rfl)) rfl
theorem mE_X11_isSign : Cond.selects RX11 yX11_isSign yX11_isSign ∈ gWs := gWs_in (gT_0 (List.mem_of_getElem? (i := 56) rfl)) rfl
theorem mE_X11_deeper : Cond.selects RX11 yX11_deeper yX11_deeper ∈ gWs := gWs_in (gT_0 (List.mem_of_getElem? (i := 57) rfl)) rfl
theorem mE_X11_waitFor : Cond.selects RX11 yX11_waitFor yX11_waitFor ∈ gWs := gWs_in (gT_0 (List.mem_of_getElem? (i := 58) rfl)) rfl
theorem mE_X11_wholes : Cond.selects RX11 yX11_wholes yX11_wholes ∈ gWs := gWs_in (gT_0 (List.mem_of_getElem? (i := 59) rfl)) rfl
theorem mE_X11_reduce : Cond.selects RX11 yX11_reduce yX11_reduce ∈ gWs := gWs_in (gT_0 (List.mem_of_getElem? (i := 60) rfl)) rfl
theorem mE_X11_isOpen : Cond.selects RX11 yX11_isOpen yX11_isOpen ∈ gWs := gWs_in (gT_0 (List.mem_of_getElem? (i := 61) rfl)) rfl
theorem mE_X11_readKeys : Cond.selects RX11 yX11_readKeys yX11_readKeys ∈ gWs := gWs_in (gT_0 (List.mem_of_getElem? (i := 62) rfl)) rfl
theorem mE_X11_ends : Cond.selects RX11 yX11_ends yX11_ends ∈ gWs := gWs_in (gT_0 (List.mem_of_getElem? (i := 63) rfl)) rfl
theorem mE_X11_isRoute : Cond.selects RX11 yX11_isRoute yX11_isRoute ∈ gWs := gWs_in (gT_0 (List.mem_of_getElem? (i := 64) rfl)) rfl
theorem mE_X11_isRound : Cond.selects RX11 yX11_isRound yX11_isRound ∈ gWs := gWs_in (gT_0 (List.mem_of_getElem? (i := 65) rfl)) rfl
theorem mE_X11_no : Cond.selects RX11 yX11_no yX11_no ∈ gWs := gWs_in (gT_0 (List.mem_of_getElem? (i := 66) rfl)) rfl
theorem mE_X11_isClimber : Cond.selects RX11 yX11_isClimber yX11_isClimber ∈ gWs := gWs_in (gT_0 (List.mem_of_getElem? (i := 67) rfl)) rfl
theorem mE_X11_clocked : Cond.selects RX11 yX11_clocked yX11_clocked ∈ gWs := gWs_in (gT_0 (List.mem_of_getElem? (i := 68) rfl)) rfl
theorem mE_X11_goesTo : Cond.selects RX11 yX11_goesTo yX11_goesTo ∈ gWs := gWs_in (gT_0 (List.mem_of_getElem? (i := 69) rfl)) rfl
theorem mE_X11_openTry : Cond.selects RX11 yX11_openTry yX11_openTry ∈ gWs := gWs_in (gT_0 (List.mem_of_getElem? (i := 70) rfl)) rfl
theorem mE_X11_hasSeen : Cond.selects RX11 yX11_hasSeen yX11_hasSeen ∈ gWs := gWs_in (gT_0 (List.mem_of_getElem? (i := 71) rfl)) rfl
theorem mE_X11_readyAt : Cond.selects RX11 yX11_readyAt yX11_readyAt ∈ gWs := gWs_in (gT_0 (List.mem_of_getElem? (i := 72) rfl)) rfl
theorem mE_X11_pointsOf : Cond.selects RX11 yX11_pointsOf yX11_pointsOf ∈ gWs := gWs_in (gT_0 (List.mem_of_getElem? (i := 73) rfl)) rfl
theorem mE_X11_factsOf : Cond.selects RX11 yX11_factsOf yX11_factsOf ∈ gWs := gWs_in (gT_0 (List.mem_of_getElem? (i := 74) rfl)) rfl
theorem mE_X11_holdOf : Cond.selects RX11 yX11_holdOf yX11_holdOf ∈ gWs := gWs_in (gT_0 (List.mem_of_getElem? (i := 75) rfl)) rfl
theorem mE_X11_isIn : Cond.selects RX11 yX11_isIn yX11_isIn ∈ gWs := gWs_in (gT_0 (List.mem_of_getElem? (i := 76) rfl)) rfl
theorem mE_X11_keyOf : Cond.selects RX11 yX11_keyOf yX11_keyOf ∈ gWs := gWs_in (gT_0 (List.mem_of_getElem? (i := 77) rfl)) rfl
theorem mE_X11_rankOf : Cond.selects RX11 yX11_rankOf yX11_rankOf ∈ gWs := gWs_in (gT_0 (List.mem_of_getElem? (i := 78) rfl)) rfl
theorem mE_X11_isAhead : Cond.selects RX11 yX11_isAhead yX11_isAhead ∈ gWs := gWs_in (gT_0 (List.mem_of_getElem? (i := 79) rfl)) rfl
theorem mE_X11_partsOf : Cond.selects RX11 yX11_partsOf yX11_partsOf ∈ gWs := gWs_in (gT_0 (List.mem_of_getElem? (i := 80) rfl)) rfl
set_option maxRecDepth 100000 in
theorem gLx0 : ∀ w ∈ u_ws RX0 TX0 4, w ∈ gWs := fun w h => have q := goodIn_r (big := lw_tbl) (u_ws RX0 TX0 4) [352, 354, 356, 358] rfl rfl w h; gWs_in q.1 (by have h2 := List.all_eq_true.mp (show (u_ws RX0 TX0 4).all goodWord = true from rfl) w h; exact h2)
set_option maxRecDepth 100000 in
theorem gLx1 : ∀ w ∈ u_ws RX1 TX1 6, w ∈ gWs := fun w h => have q := goodIn_r (big := lw_tbl) (u_ws RX1 TX1 6) [202, 204, 206, 208, 210, 212] rfl rfl w h; gWs_in q.1 (by have h2 := List.all_eq_true.mp (show (u_ws RX1 TX1 6).all goodWord = true from rfl) w h; exact h2)
set_option maxRecDepth 100000 in
theorem gLx2 : ∀ w ∈ u_ws RX2 TX2 4, w ∈ gWs := fun w h => have q := goodIn_r (big := lw_tbl) (u_ws RX2 TX2 4) [272, 274, 276, 278] rfl rfl w h; gWs_in q.1 (by have h2 := List.all_eq_true.mp (show (u_ws RX2 TX2 4).all goodWord = true from rfl) w h; exact h2)
set_option maxRecDepth 100000 in
theorem gLx3 : ∀ w ∈ u_ws RX3 TX3 8, w ∈ gWs := fun w h => have q := goodIn_r (big := lw_tbl) (u_ws RX3 TX3 8) [226, 228, 230, 232, 234, 236, 238, 240] rfl rfl w h; gWs_in q.1 (by have h2 := List.all_eq_true.mp (show (u_ws RX3 TX3 8).all goodWord = true from rfl) w h; exact h2)
set_option maxRecDepth 100000 in
theorem gLx4 : ∀ w ∈ u_ws RX4 TX4 10, w ∈ gWs := fun w h => have q := goodIn_r (big := lw_tbl) (u_ws RX4 TX4 10) [137, 139, 141, 143, 145, 147, 149, 151, 153, 155] rfl rfl w h; gWs_in q.1 (by have h2 := List.all_eq_true.mp (show (u_ws RX4 TX4 10).all goodWord = true from rfl) w h; exact h2)
set_option maxRecDepth 100000 in
theorem gLx5 : ∀ w ∈ u_ws RX5 TX5 15, w ∈ gWs := fun w h => have q := goodIn_r (big := lw_tbl) (u_ws RX5 TX5 15) [401, 403, 405, 407, 409, 411, 413, 415, 417, 419, 421, 423, 425, 427, 429] rfl rfl w h; gWs_in q.1 (by have h2 := List.all_eq_true.mp (show (u_ws RX5 TX5 15).all goodWord = true from rfl) w h; exact h2)
set_option maxRecDepth 100000 in
theorem gLx6 : ∀ w ∈ u_ws RX6 TX6 5, w ∈ gWs := fun w h => have q := goodIn_r (big := lw_tbl) (u_ws RX6 TX6 5) [177, 179, 181, 183, 185] rfl rfl w h; gWs_in q.1 (by have h2 := List.all_eq_true.mp (show (u_ws RX6 TX6 5).all goodWord = true from rfl) w h; exact h2)
set_option maxRecDepth 100000 in
theorem gLx7 : ∀ w ∈ u_ws RX7 TX7 9, w ∈ gWs := fun w h => have q := goodIn_r (big := lw_tbl) (u_ws RX7 TX7 9) [318, 320, 322, 324, 326, 328, 330, 332, 334] rfl rfl w h; gWs_in q.1 (by have h2 := List.all_eq_true.mp (show (u_ws RX7 TX7 9).all goodWord = true from rfl) w h; exact h2)
set_option maxRecDepth 100000 in
theorem gLx8 : ∀ w ∈ u_ws RX8 TX8 3, w ∈ gWs := fun w h => have q := goodIn_r (big := lw_tbl) (u_ws RX8 TX8 3) [252, 254, 256] rfl rfl w h; gWs_in q.1 (by have h2 := List.all_eq_true.mp (show (u_ws RX8 TX8 3).all goodWord = true from rfl) w h; exact h2)
set_option maxRecDepth 100000 in
theorem gLx9 : ∀ w ∈ u_ws RX9 TX9 3, w ∈ gWs := fun w h => have q := goodIn_r (big := lw_tbl) (u_ws RX9 TX9 3) [371, 373, 375] rfl rfl w h; gWs_in q.1 (by have h2 := List.all_eq_true.mp (show (u_ws RX9 TX9 3).all goodWord = true from rfl) w h; exact h2)
set_option maxRecDepth 100000 in
theorem gLx10 : ∀ w ∈ u_ws RX10 TX10 14, w ∈ gWs := fun w h => have q := goodIn_r (big := lw_tbl) (u_ws RX10 TX10 14) [446, 448, 450, 452, 454, 456, 458, 460, 462, 464, 466, 468, 470, 472] rfl rfl w h; gWs_in q.1 (by have h2 := List.all_eq_true.mp (show (u_ws RX10 TX10 14).all goodWord = true from rfl) w h; exact h2)
set_option maxRecDepth 100000 in
theorem gLx11 : ∀ w ∈ u_ws RX11 TX11 70, w ∈ gWs := fun w h => have q := goodIn_r (big := lw_tbl) (u_ws RX11 TX11 70) [1170, 1172, 1174, 1176, 1178, 1180, 1182, 1184, 1186, 1188, 1190, 1192, 1194, 1196, 1198, 1200, 1202, 1204, 1206, 1208, 1210, 1212, 1214, 1216, 1218, 1220, 1222, 1224, 1226, 1228, 1230, 1232, 1234, 1236, 1238, 1240, 1242, 1244, 1246, 1248, 1250, 1252, 1254, 1256, 1258, 1260, 1262, 1264, 1266, 1268, 1270, 1272, 1274, 1276, 1278, 1280, 1282, 1284, 1286, 1288, 1290, 1292, 1294, 1296, 1298, 1300, 1302, 1304, 1306, 1308] rfl rfl w h; gWs_in q.1 (by have h2 := List.all_eq_true.mp (show (u_ws RX11 TX11 70).all goodWord = true from rfl) w h; exact h2)
