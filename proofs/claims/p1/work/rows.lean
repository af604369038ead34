section
-- ===== PART A: goes FIRST, ahead of the names: the tables' words, and 'selects' of the private methods out of them =====
/-- a private method of a class that the tables say can be made, by its rows of tables_1 -/
def lw_okq (q : MethodName × Nat) : Prop := (q.1.cls ≠ "java/lang/invoke/MethodHandle" ∧ q.1.cls ≠ "java/lang/invoke/VarHandle") ∧ Cond.instantiable q.1.cls q.2 ∈ tables_1 ∧ Cond.privateMethod q.1 ∈ tables_1 ∧ Cond.instanceMethod q.1 ∈ tables_1
theorem lw_p0 : lw_okq (⟨"RouteWall", "putOnTape", "(I)V"⟩, 14) := ⟨⟨by decide +kernel, by decide +kernel⟩, List.mem_of_getElem? (i := 22) (by decide +kernel), List.mem_of_getElem? (i := 403) (by decide +kernel), List.mem_of_getElem? (i := 404) (by decide +kernel)⟩
theorem lw_p1 : lw_okq (⟨"RouteWall", "refuse", "(I)I"⟩, 14) := ⟨⟨by decide +kernel, by decide +kernel⟩, List.mem_of_getElem? (i := 22) (by decide +kernel), List.mem_of_getElem? (i := 411) (by decide +kernel), List.mem_of_getElem? (i := 412) (by decide +kernel)⟩
theorem lw_p2 : lw_okq (⟨"RouteWall$Tokens", "putWord", "([III)I"⟩, 5) := ⟨⟨by decide +kernel, by decide +kernel⟩, List.mem_of_getElem? (i := 86) (by decide +kernel), List.mem_of_getElem? (i := 438) (by decide +kernel), List.mem_of_getElem? (i := 439) (by decide +kernel)⟩
theorem lw_p3 : lw_okq (⟨"RouteWall$Tokens", "put", "(III)V"⟩, 5) := ⟨⟨by decide +kernel, by decide +kernel⟩, List.mem_of_getElem? (i := 86) (by decide +kernel), List.mem_of_getElem? (i := 494) (by decide +kernel), List.mem_of_getElem? (i := 495) (by decide +kernel)⟩
theorem lw_p4 : lw_okq (⟨"RouteWall$Tokens", "putNumber", "([III)I"⟩, 5) := ⟨⟨by decide +kernel, by decide +kernel⟩, List.mem_of_getElem? (i := 86) (by decide +kernel), List.mem_of_getElem? (i := 501) (by decide +kernel), List.mem_of_getElem? (i := 502) (by decide +kernel)⟩
theorem lw_p5 : lw_okq (⟨"RouteWall$LawReader", "readLaw", "()V"⟩, 8) := ⟨⟨by decide +kernel, by decide +kernel⟩, List.mem_of_getElem? (i := 80) (by decide +kernel), List.mem_of_getElem? (i := 512) (by decide +kernel), List.mem_of_getElem? (i := 513) (by decide +kernel)⟩
theorem lw_p6 : lw_okq (⟨"RouteWall$LawReader", "readRound", "()V"⟩, 8) := ⟨⟨by decide +kernel, by decide +kernel⟩, List.mem_of_getElem? (i := 80) (by decide +kernel), List.mem_of_getElem? (i := 516) (by decide +kernel), List.mem_of_getElem? (i := 517) (by decide +kernel)⟩
theorem lw_p7 : lw_okq (⟨"RouteWall$LawReader", "refuseIf", "(ZI)V"⟩, 8) := ⟨⟨by decide +kernel, by decide +kernel⟩, List.mem_of_getElem? (i := 80) (by decide +kernel), List.mem_of_getElem? (i := 520) (by decide +kernel), List.mem_of_getElem? (i := 521) (by decide +kernel)⟩
theorem lw_p8 : lw_okq (⟨"RouteWall$LawReader", "note", "(I)V"⟩, 8) := ⟨⟨by decide +kernel, by decide +kernel⟩, List.mem_of_getElem? (i := 80) (by decide +kernel), List.mem_of_getElem? (i := 524) (by decide +kernel), List.mem_of_getElem? (i := 525) (by decide +kernel)⟩
theorem lw_p9 : lw_okq (⟨"RouteWall$LawReader", "goOn", "()Z"⟩, 8) := ⟨⟨by decide +kernel, by decide +kernel⟩, List.mem_of_getElem? (i := 80) (by decide +kernel), List.mem_of_getElem? (i := 532) (by decide +kernel), List.mem_of_getElem? (i := 533) (by decide +kernel)⟩
theorem lw_p10 : lw_okq (⟨"RouteWall$LawReader", "pass", "(I)V"⟩, 8) := ⟨⟨by decide +kernel, by decide +kernel⟩, List.mem_of_getElem? (i := 80) (by decide +kernel), List.mem_of_getElem? (i := 548) (by decide +kernel), List.mem_of_getElem? (i := 549) (by decide +kernel)⟩
theorem lw_p11 : lw_okq (⟨"RouteWall$LawReader", "refuseToken", "()V"⟩, 8) := ⟨⟨by decide +kernel, by decide +kernel⟩, List.mem_of_getElem? (i := 80) (by decide +kernel), List.mem_of_getElem? (i := 552) (by decide +kernel), List.mem_of_getElem? (i := 553) (by decide +kernel)⟩
theorem lw_p12 : lw_okq (⟨"RouteWall$Expression", "release", "(ILRouteWall$Laws;)V"⟩, 6) := ⟨⟨by decide +kernel, by decide +kernel⟩, List.mem_of_getElem? (i := 110) (by decide +kernel), List.mem_of_getElem? (i := 561) (by decide +kernel), List.mem_of_getElem? (i := 562) (by decide +kernel)⟩
theorem lw_p13 : lw_okq (⟨"RouteWall$Expression", "readBehindFactor", "(ILRouteWall$Laws;)Z"⟩, 6) := ⟨⟨by decide +kernel, by decide +kernel⟩, List.mem_of_getElem? (i := 110) (by decide +kernel), List.mem_of_getElem? (i := 566) (by decide +kernel), List.mem_of_getElem? (i := 567) (by decide +kernel)⟩
theorem lw_p14 : lw_okq (⟨"RouteWall$Expression", "putSign", "(ILRouteWall$Laws;)V"⟩, 6) := ⟨⟨by decide +kernel, by decide +kernel⟩, List.mem_of_getElem? (i := 110) (by decide +kernel), List.mem_of_getElem? (i := 570) (by decide +kernel), List.mem_of_getElem? (i := 571) (by decide +kernel)⟩
theorem lw_p15 : lw_okq (⟨"RouteWall$Expression", "countItem", "()V"⟩, 6) := ⟨⟨by decide +kernel, by decide +kernel⟩, List.mem_of_getElem? (i := 110) (by decide +kernel), List.mem_of_getElem? (i := 574) (by decide +kernel), List.mem_of_getElem? (i := 575) (by decide +kernel)⟩
def lw_privs_1 : List (MethodName × Nat) := [(⟨"RouteWall", "putOnTape", "(I)V"⟩, 14), (⟨"RouteWall", "refuse", "(I)I"⟩, 14), (⟨"RouteWall$Tokens", "putWord", "([III)I"⟩, 5), (⟨"RouteWall$Tokens", "put", "(III)V"⟩, 5), (⟨"RouteWall$Tokens", "putNumber", "([III)I"⟩, 5), (⟨"RouteWall$LawReader", "readLaw", "()V"⟩, 8), (⟨"RouteWall$LawReader", "readRound", "()V"⟩, 8), (⟨"RouteWall$LawReader", "refuseIf", "(ZI)V"⟩, 8), (⟨"RouteWall$LawReader", "note", "(I)V"⟩, 8), (⟨"RouteWall$LawReader", "goOn", "()Z"⟩, 8), (⟨"RouteWall$LawReader", "pass", "(I)V"⟩, 8), (⟨"RouteWall$LawReader", "refuseToken", "()V"⟩, 8), (⟨"RouteWall$Expression", "release", "(ILRouteWall$Laws;)V"⟩, 6), (⟨"RouteWall$Expression", "readBehindFactor", "(ILRouteWall$Laws;)Z"⟩, 6), (⟨"RouteWall$Expression", "putSign", "(ILRouteWall$Laws;)V"⟩, 6), (⟨"RouteWall$Expression", "countItem", "()V"⟩, 6)]
theorem lw_r1 : ∀ q ∈ lw_privs_1, lw_okq q := List.forall_mem_cons.mpr ⟨lw_p0, List.forall_mem_cons.mpr ⟨lw_p1, List.forall_mem_cons.mpr ⟨lw_p2, List.forall_mem_cons.mpr ⟨lw_p3, List.forall_mem_cons.mpr ⟨lw_p4, List.forall_mem_cons.mpr ⟨lw_p5, List.forall_mem_cons.mpr ⟨lw_p6, List.forall_mem_cons.mpr ⟨lw_p7, List.forall_mem_cons.mpr ⟨lw_p8, List.forall_mem_cons.mpr ⟨lw_p9, List.forall_mem_cons.mpr ⟨lw_p10, List.forall_mem_cons.mpr ⟨lw_p11, List.forall_mem_cons.mpr ⟨lw_p12, List.forall_mem_cons.mpr ⟨lw_p13, List.forall_mem_cons.mpr ⟨lw_p14, List.forall_mem_cons.mpr ⟨lw_p15, fun _ h => absurd h List.not_mem_nil⟩⟩⟩⟩⟩⟩⟩⟩⟩⟩⟩⟩⟩⟩⟩⟩
theorem lw_p16 : lw_okq (⟨"RouteWall$Expression", "await", "(I)V"⟩, 6) := ⟨⟨by decide +kernel, by decide +kernel⟩, List.mem_of_getElem? (i := 110) (by decide +kernel), List.mem_of_getElem? (i := 578) (by decide +kernel), List.mem_of_getElem? (i := 579) (by decide +kernel)⟩
theorem lw_p17 : lw_okq (⟨"RouteWall$Expression", "closeParen", "(LRouteWall$Laws;)V"⟩, 6) := ⟨⟨by decide +kernel, by decide +kernel⟩, List.mem_of_getElem? (i := 110) (by decide +kernel), List.mem_of_getElem? (i := 582) (by decide +kernel), List.mem_of_getElem? (i := 583) (by decide +kernel)⟩
theorem lw_p18 : lw_okq (⟨"RouteWall$Expression", "refuseToken", "(I)V"⟩, 6) := ⟨⟨by decide +kernel, by decide +kernel⟩, List.mem_of_getElem? (i := 110) (by decide +kernel), List.mem_of_getElem? (i := 586) (by decide +kernel), List.mem_of_getElem? (i := 587) (by decide +kernel)⟩
theorem lw_p19 : lw_okq (⟨"RouteWall$Expression", "releaseNegations", "(LRouteWall$Laws;)V"⟩, 6) := ⟨⟨by decide +kernel, by decide +kernel⟩, List.mem_of_getElem? (i := 110) (by decide +kernel), List.mem_of_getElem? (i := 593) (by decide +kernel), List.mem_of_getElem? (i := 594) (by decide +kernel)⟩
theorem lw_p20 : lw_okq (⟨"RouteWall$Expression", "readFactor", "(LRouteWall$Tokens;LRouteWall$Laws;)Z"⟩, 6) := ⟨⟨by decide +kernel, by decide +kernel⟩, List.mem_of_getElem? (i := 110) (by decide +kernel), List.mem_of_getElem? (i := 597) (by decide +kernel), List.mem_of_getElem? (i := 598) (by decide +kernel)⟩
theorem lw_p21 : lw_okq (⟨"RouteWall$Expression", "nest", "(I)V"⟩, 6) := ⟨⟨by decide +kernel, by decide +kernel⟩, List.mem_of_getElem? (i := 110) (by decide +kernel), List.mem_of_getElem? (i := 602) (by decide +kernel), List.mem_of_getElem? (i := 603) (by decide +kernel)⟩
theorem lw_p22 : lw_okq (⟨"RouteWall$LawReader", "readKeys", "()V"⟩, 8) := ⟨⟨by decide +kernel, by decide +kernel⟩, List.mem_of_getElem? (i := 80) (by decide +kernel), List.mem_of_getElem? (i := 607) (by decide +kernel), List.mem_of_getElem? (i := 608) (by decide +kernel)⟩
theorem lw_p23 : lw_okq (⟨"RouteWall$LawReader", "readKey", "()V"⟩, 8) := ⟨⟨by decide +kernel, by decide +kernel⟩, List.mem_of_getElem? (i := 80) (by decide +kernel), List.mem_of_getElem? (i := 611) (by decide +kernel), List.mem_of_getElem? (i := 612) (by decide +kernel)⟩
theorem lw_p24 : lw_okq (⟨"RouteWall$LawReader", "readTies", "()V"⟩, 8) := ⟨⟨by decide +kernel, by decide +kernel⟩, List.mem_of_getElem? (i := 80) (by decide +kernel), List.mem_of_getElem? (i := 616) (by decide +kernel), List.mem_of_getElem? (i := 617) (by decide +kernel)⟩
theorem lw_p25 : lw_okq (⟨"RouteWall", "answer", "(I)I"⟩, 14) := ⟨⟨by decide +kernel, by decide +kernel⟩, List.mem_of_getElem? (i := 22) (by decide +kernel), List.mem_of_getElem? (i := 652) (by decide +kernel), List.mem_of_getElem? (i := 653) (by decide +kernel)⟩
theorem lw_p26 : lw_okq (⟨"RouteWall", "deny", "(I)Z"⟩, 14) := ⟨⟨by decide +kernel, by decide +kernel⟩, List.mem_of_getElem? (i := 22) (by decide +kernel), List.mem_of_getElem? (i := 681) (by decide +kernel), List.mem_of_getElem? (i := 682) (by decide +kernel)⟩
theorem lw_p27 : lw_okq (⟨"RouteWall", "grant", "()Z"⟩, 14) := ⟨⟨by decide +kernel, by decide +kernel⟩, List.mem_of_getElem? (i := 22) (by decide +kernel), List.mem_of_getElem? (i := 703) (by decide +kernel), List.mem_of_getElem? (i := 704) (by decide +kernel)⟩
theorem lw_p28 : lw_okq (⟨"RouteWall", "passTo", "(I)I"⟩, 14) := ⟨⟨by decide +kernel, by decide +kernel⟩, List.mem_of_getElem? (i := 22) (by decide +kernel), List.mem_of_getElem? (i := 736) (by decide +kernel), List.mem_of_getElem? (i := 737) (by decide +kernel)⟩
theorem lw_p29 : lw_okq (⟨"RouteWall", "whyNotBegin", "(II)I"⟩, 14) := ⟨⟨by decide +kernel, by decide +kernel⟩, List.mem_of_getElem? (i := 22) (by decide +kernel), List.mem_of_getElem? (i := 753) (by decide +kernel), List.mem_of_getElem? (i := 754) (by decide +kernel)⟩
theorem lw_p30 : lw_okq (⟨"RouteWall", "hasSeen", "(II)Z"⟩, 14) := ⟨⟨by decide +kernel, by decide +kernel⟩, List.mem_of_getElem? (i := 22) (by decide +kernel), List.mem_of_getElem? (i := 771) (by decide +kernel), List.mem_of_getElem? (i := 772) (by decide +kernel)⟩
theorem lw_p31 : lw_okq (⟨"RouteWall$Watch", "wasOut", "(IIII)Z"⟩, 3) := ⟨⟨by decide +kernel, by decide +kernel⟩, List.mem_of_getElem? (i := 281) (by decide +kernel), List.mem_of_getElem? (i := 779) (by decide +kernel), List.mem_of_getElem? (i := 780) (by decide +kernel)⟩
def lw_privs_2 : List (MethodName × Nat) := [(⟨"RouteWall$Expression", "await", "(I)V"⟩, 6), (⟨"RouteWall$Expression", "closeParen", "(LRouteWall$Laws;)V"⟩, 6), (⟨"RouteWall$Expression", "refuseToken", "(I)V"⟩, 6), (⟨"RouteWall$Expression", "releaseNegations", "(LRouteWall$Laws;)V"⟩, 6), (⟨"RouteWall$Expression", "readFactor", "(LRouteWall$Tokens;LRouteWall$Laws;)Z"⟩, 6), (⟨"RouteWall$Expression", "nest", "(I)V"⟩, 6), (⟨"RouteWall$LawReader", "readKeys", "()V"⟩, 8), (⟨"RouteWall$LawReader", "readKey", "()V"⟩, 8), (⟨"RouteWall$LawReader", "readTies", "()V"⟩, 8), (⟨"RouteWall", "answer", "(I)I"⟩, 14), (⟨"RouteWall", "deny", "(I)Z"⟩, 14), (⟨"RouteWall", "grant", "()Z"⟩, 14), (⟨"RouteWall", "passTo", "(I)I"⟩, 14), (⟨"RouteWall", "whyNotBegin", "(II)I"⟩, 14), (⟨"RouteWall", "hasSeen", "(II)Z"⟩, 14), (⟨"RouteWall$Watch", "wasOut", "(IIII)Z"⟩, 3)]
theorem lw_r2 : ∀ q ∈ lw_privs_2, lw_okq q := List.forall_mem_cons.mpr ⟨lw_p16, List.forall_mem_cons.mpr ⟨lw_p17, List.forall_mem_cons.mpr ⟨lw_p18, List.forall_mem_cons.mpr ⟨lw_p19, List.forall_mem_cons.mpr ⟨lw_p20, List.forall_mem_cons.mpr ⟨lw_p21, List.forall_mem_cons.mpr ⟨lw_p22, List.forall_mem_cons.mpr ⟨lw_p23, List.forall_mem_cons.mpr ⟨lw_p24, List.forall_mem_cons.mpr ⟨lw_p25, List.forall_mem_cons.mpr ⟨lw_p26, List.forall_mem_cons.mpr ⟨lw_p27, List.forall_mem_cons.mpr ⟨lw_p28, List.forall_mem_cons.mpr ⟨lw_p29, List.forall_mem_cons.mpr ⟨lw_p30, List.forall_mem_cons.mpr ⟨lw_p31, fun _ h => absurd h List.not_mem_nil⟩⟩⟩⟩⟩⟩⟩⟩⟩⟩⟩⟩⟩⟩⟩⟩
theorem lw_p32 : lw_okq (⟨"RouteWall$Watch", "latest", "(I)I"⟩, 3) := ⟨⟨by decide +kernel, by decide +kernel⟩, List.mem_of_getElem? (i := 281) (by decide +kernel), List.mem_of_getElem? (i := 783) (by decide +kernel), List.mem_of_getElem? (i := 784) (by decide +kernel)⟩
theorem lw_p33 : lw_okq (⟨"RouteWall", "restOver", "(I)I"⟩, 14) := ⟨⟨by decide +kernel, by decide +kernel⟩, List.mem_of_getElem? (i := 22) (by decide +kernel), List.mem_of_getElem? (i := 787) (by decide +kernel), List.mem_of_getElem? (i := 788) (by decide +kernel)⟩
theorem lw_p34 : lw_okq (⟨"RouteWall$Results", "hearAppeals", "(I)V"⟩, 15) := ⟨⟨by decide +kernel, by decide +kernel⟩, List.mem_of_getElem? (i := 298) (by decide +kernel), List.mem_of_getElem? (i := 873) (by decide +kernel), List.mem_of_getElem? (i := 874) (by decide +kernel)⟩
theorem lw_p35 : lw_okq (⟨"RouteWall$Results", "lowestAsked", "(I)I"⟩, 15) := ⟨⟨by decide +kernel, by decide +kernel⟩, List.mem_of_getElem? (i := 298) (by decide +kernel), List.mem_of_getElem? (i := 940) (by decide +kernel), List.mem_of_getElem? (i := 941) (by decide +kernel)⟩
theorem lw_p36 : lw_okq (⟨"RouteWall$Results", "manyAhead", "(II)I"⟩, 15) := ⟨⟨by decide +kernel, by decide +kernel⟩, List.mem_of_getElem? (i := 298) (by decide +kernel), List.mem_of_getElem? (i := 946) (by decide +kernel), List.mem_of_getElem? (i := 947) (by decide +kernel)⟩
theorem lw_p37 : lw_okq (⟨"RouteWall$Results", "isAhead", "(III)Z"⟩, 15) := ⟨⟨by decide +kernel, by decide +kernel⟩, List.mem_of_getElem? (i := 298) (by decide +kernel), List.mem_of_getElem? (i := 950) (by decide +kernel), List.mem_of_getElem? (i := 951) (by decide +kernel)⟩
theorem lw_p38 : lw_okq (⟨"RouteWall$Results", "manyStartAhead", "(II)I"⟩, 15) := ⟨⟨by decide +kernel, by decide +kernel⟩, List.mem_of_getElem? (i := 298) (by decide +kernel), List.mem_of_getElem? (i := 979) (by decide +kernel), List.mem_of_getElem? (i := 980) (by decide +kernel)⟩
theorem lw_p39 : lw_okq (⟨"RouteWall$Results", "together", "(II)J"⟩, 15) := ⟨⟨by decide +kernel, by decide +kernel⟩, List.mem_of_getElem? (i := 298) (by decide +kernel), List.mem_of_getElem? (i := 995) (by decide +kernel), List.mem_of_getElem? (i := 996) (by decide +kernel)⟩
theorem lw_p40 : lw_okq (⟨"RouteWallModel", "lay", "(I)V"⟩, 70) := ⟨⟨by decide +kernel, by decide +kernel⟩, List.mem_of_getElem? (i := 1014) (by decide +kernel), List.mem_of_getElem? (i := 1240) (by decide +kernel), List.mem_of_getElem? (i := 1241) (by decide +kernel)⟩
theorem lw_p41 : lw_okq (⟨"RouteWallModel", "refuse", "(I)I"⟩, 70) := ⟨⟨by decide +kernel, by decide +kernel⟩, List.mem_of_getElem? (i := 1014) (by decide +kernel), List.mem_of_getElem? (i := 1248) (by decide +kernel), List.mem_of_getElem? (i := 1249) (by decide +kernel)⟩
theorem lw_p42 : lw_okq (⟨"RouteWallModel", "readText", "()V"⟩, 70) := ⟨⟨by decide +kernel, by decide +kernel⟩, List.mem_of_getElem? (i := 1014) (by decide +kernel), List.mem_of_getElem? (i := 1252) (by decide +kernel), List.mem_of_getElem? (i := 1253) (by decide +kernel)⟩
theorem lw_p43 : lw_okq (⟨"RouteWallModel", "next", "()V"⟩, 70) := ⟨⟨by decide +kernel, by decide +kernel⟩, List.mem_of_getElem? (i := 1014) (by decide +kernel), List.mem_of_getElem? (i := 1256) (by decide +kernel), List.mem_of_getElem? (i := 1257) (by decide +kernel)⟩
theorem lw_p44 : lw_okq (⟨"RouteWallModel", "look", "(I)I"⟩, 70) := ⟨⟨by decide +kernel, by decide +kernel⟩, List.mem_of_getElem? (i := 1014) (by decide +kernel), List.mem_of_getElem? (i := 1260) (by decide +kernel), List.mem_of_getElem? (i := 1261) (by decide +kernel)⟩
theorem lw_p45 : lw_okq (⟨"RouteWallModel", "lawOf", "()I"⟩, 70) := ⟨⟨by decide +kernel, by decide +kernel⟩, List.mem_of_getElem? (i := 1014) (by decide +kernel), List.mem_of_getElem? (i := 1273) (by decide +kernel), List.mem_of_getElem? (i := 1274) (by decide +kernel)⟩
theorem lw_p46 : lw_okq (⟨"RouteWallModel", "isWord", "(J)Z"⟩, 70) := ⟨⟨by decide +kernel, by decide +kernel⟩, List.mem_of_getElem? (i := 1014) (by decide +kernel), List.mem_of_getElem? (i := 1280) (by decide +kernel), List.mem_of_getElem? (i := 1281) (by decide +kernel)⟩
theorem lw_p47 : lw_okq (⟨"RouteWallModel", "wrong", "()V"⟩, 70) := ⟨⟨by decide +kernel, by decide +kernel⟩, List.mem_of_getElem? (i := 1014) (by decide +kernel), List.mem_of_getElem? (i := 1284) (by decide +kernel), List.mem_of_getElem? (i := 1285) (by decide +kernel)⟩
def lw_privs_3 : List (MethodName × Nat) := [(⟨"RouteWall$Watch", "latest", "(I)I"⟩, 3), (⟨"RouteWall", "restOver", "(I)I"⟩, 14), (⟨"RouteWall$Results", "hearAppeals", "(I)V"⟩, 15), (⟨"RouteWall$Results", "lowestAsked", "(I)I"⟩, 15), (⟨"RouteWall$Results", "manyAhead", "(II)I"⟩, 15), (⟨"RouteWall$Results", "isAhead", "(III)Z"⟩, 15), (⟨"RouteWall$Results", "manyStartAhead", "(II)I"⟩, 15), (⟨"RouteWall$Results", "together", "(II)J"⟩, 15), (⟨"RouteWallModel", "lay", "(I)V"⟩, 70), (⟨"RouteWallModel", "refuse", "(I)I"⟩, 70), (⟨"RouteWallModel", "readText", "()V"⟩, 70), (⟨"RouteWallModel", "next", "()V"⟩, 70), (⟨"RouteWallModel", "look", "(I)I"⟩, 70), (⟨"RouteWallModel", "lawOf", "()I"⟩, 70), (⟨"RouteWallModel", "isWord", "(J)Z"⟩, 70), (⟨"RouteWallModel", "wrong", "()V"⟩, 70)]
theorem lw_r3 : ∀ q ∈ lw_privs_3, lw_okq q := List.forall_mem_cons.mpr ⟨lw_p32, List.forall_mem_cons.mpr ⟨lw_p33, List.forall_mem_cons.mpr ⟨lw_p34, List.forall_mem_cons.mpr ⟨lw_p35, List.forall_mem_cons.mpr ⟨lw_p36, List.forall_mem_cons.mpr ⟨lw_p37, List.forall_mem_cons.mpr ⟨lw_p38, List.forall_mem_cons.mpr ⟨lw_p39, List.forall_mem_cons.mpr ⟨lw_p40, List.forall_mem_cons.mpr ⟨lw_p41, List.forall_mem_cons.mpr ⟨lw_p42, List.forall_mem_cons.mpr ⟨lw_p43, List.forall_mem_cons.mpr ⟨lw_p44, List.forall_mem_cons.mpr ⟨lw_p45, List.forall_mem_cons.mpr ⟨lw_p46, List.forall_mem_cons.mpr ⟨lw_p47, fun _ h => absurd h List.not_mem_nil⟩⟩⟩⟩⟩⟩⟩⟩⟩⟩⟩⟩⟩⟩⟩⟩
theorem lw_p48 : lw_okq (⟨"RouteWallModel", "fail", "(II)V"⟩, 70) := ⟨⟨by decide +kernel, by decide +kernel⟩, List.mem_of_getElem? (i := 1014) (by decide +kernel), List.mem_of_getElem? (i := 1288) (by decide +kernel), List.mem_of_getElem? (i := 1289) (by decide +kernel)⟩
theorem lw_p49 : lw_okq (⟨"RouteWallModel", "readLaw", "(I)V"⟩, 70) := ⟨⟨by decide +kernel, by decide +kernel⟩, List.mem_of_getElem? (i := 1014) (by decide +kernel), List.mem_of_getElem? (i := 1292) (by decide +kernel), List.mem_of_getElem? (i := 1293) (by decide +kernel)⟩
theorem lw_p50 : lw_okq (⟨"RouteWallModel", "numberOf", "(II)I"⟩, 70) := ⟨⟨by decide +kernel, by decide +kernel⟩, List.mem_of_getElem? (i := 1014) (by decide +kernel), List.mem_of_getElem? (i := 1296) (by decide +kernel), List.mem_of_getElem? (i := 1297) (by decide +kernel)⟩
theorem lw_p51 : lw_okq (⟨"RouteWallModel", "readExpression", "()V"⟩, 70) := ⟨⟨by decide +kernel, by decide +kernel⟩, List.mem_of_getElem? (i := 1014) (by decide +kernel), List.mem_of_getElem? (i := 1300) (by decide +kernel), List.mem_of_getElem? (i := 1301) (by decide +kernel)⟩
theorem lw_p52 : lw_okq (⟨"RouteWallModel", "readFactor", "()Z"⟩, 70) := ⟨⟨by decide +kernel, by decide +kernel⟩, List.mem_of_getElem? (i := 1014) (by decide +kernel), List.mem_of_getElem? (i := 1304) (by decide +kernel), List.mem_of_getElem? (i := 1305) (by decide +kernel)⟩
theorem lw_p53 : lw_okq (⟨"RouteWallModel", "nameOf", "()I"⟩, 70) := ⟨⟨by decide +kernel, by decide +kernel⟩, List.mem_of_getElem? (i := 1014) (by decide +kernel), List.mem_of_getElem? (i := 1308) (by decide +kernel), List.mem_of_getElem? (i := 1309) (by decide +kernel)⟩
theorem lw_p54 : lw_okq (⟨"RouteWallModel", "counts", "()V"⟩, 70) := ⟨⟨by decide +kernel, by decide +kernel⟩, List.mem_of_getElem? (i := 1014) (by decide +kernel), List.mem_of_getElem? (i := 1312) (by decide +kernel), List.mem_of_getElem? (i := 1313) (by decide +kernel)⟩
theorem lw_p55 : lw_okq (⟨"RouteWallModel", "puts", "(II)V"⟩, 70) := ⟨⟨by decide +kernel, by decide +kernel⟩, List.mem_of_getElem? (i := 1014) (by decide +kernel), List.mem_of_getElem? (i := 1316) (by decide +kernel), List.mem_of_getElem? (i := 1317) (by decide +kernel)⟩
theorem lw_p56 : lw_okq (⟨"RouteWallModel", "isSign", "(I)Z"⟩, 70) := ⟨⟨by decide +kernel, by decide +kernel⟩, List.mem_of_getElem? (i := 1014) (by decide +kernel), List.mem_of_getElem? (i := 1320) (by decide +kernel), List.mem_of_getElem? (i := 1321) (by decide +kernel)⟩
theorem lw_p57 : lw_okq (⟨"RouteWallModel", "deeper", "()V"⟩, 70) := ⟨⟨by decide +kernel, by decide +kernel⟩, List.mem_of_getElem? (i := 1014) (by decide +kernel), List.mem_of_getElem? (i := 1324) (by decide +kernel), List.mem_of_getElem? (i := 1325) (by decide +kernel)⟩
theorem lw_p58 : lw_okq (⟨"RouteWallModel", "waitFor", "(I)V"⟩, 70) := ⟨⟨by decide +kernel, by decide +kernel⟩, List.mem_of_getElem? (i := 1014) (by decide +kernel), List.mem_of_getElem? (i := 1328) (by decide +kernel), List.mem_of_getElem? (i := 1329) (by decide +kernel)⟩
theorem lw_p59 : lw_okq (⟨"RouteWallModel", "wholes", "()V"⟩, 70) := ⟨⟨by decide +kernel, by decide +kernel⟩, List.mem_of_getElem? (i := 1014) (by decide +kernel), List.mem_of_getElem? (i := 1332) (by decide +kernel), List.mem_of_getElem? (i := 1333) (by decide +kernel)⟩
theorem lw_p60 : lw_okq (⟨"RouteWallModel", "reduce", "(I)V"⟩, 70) := ⟨⟨by decide +kernel, by decide +kernel⟩, List.mem_of_getElem? (i := 1014) (by decide +kernel), List.mem_of_getElem? (i := 1339) (by decide +kernel), List.mem_of_getElem? (i := 1340) (by decide +kernel)⟩
theorem lw_p61 : lw_okq (⟨"RouteWallModel", "isOpen", "()Z"⟩, 70) := ⟨⟨by decide +kernel, by decide +kernel⟩, List.mem_of_getElem? (i := 1014) (by decide +kernel), List.mem_of_getElem? (i := 1343) (by decide +kernel), List.mem_of_getElem? (i := 1344) (by decide +kernel)⟩
theorem lw_p62 : lw_okq (⟨"RouteWallModel", "readKeys", "()V"⟩, 70) := ⟨⟨by decide +kernel, by decide +kernel⟩, List.mem_of_getElem? (i := 1014) (by decide +kernel), List.mem_of_getElem? (i := 1347) (by decide +kernel), List.mem_of_getElem? (i := 1348) (by decide +kernel)⟩
theorem lw_p63 : lw_okq (⟨"RouteWallModel", "ends", "()V"⟩, 70) := ⟨⟨by decide +kernel, by decide +kernel⟩, List.mem_of_getElem? (i := 1014) (by decide +kernel), List.mem_of_getElem? (i := 1351) (by decide +kernel), List.mem_of_getElem? (i := 1352) (by decide +kernel)⟩
def lw_privs_4 : List (MethodName × Nat) := [(⟨"RouteWallModel", "fail", "(II)V"⟩, 70), (⟨"RouteWallModel", "readLaw", "(I)V"⟩, 70), (⟨"RouteWallModel", "numberOf", "(II)I"⟩, 70), (⟨"RouteWallModel", "readExpression", "()V"⟩, 70), (⟨"RouteWallModel", "readFactor", "()Z"⟩, 70), (⟨"RouteWallModel", "nameOf", "()I"⟩, 70), (⟨"RouteWallModel", "counts", "()V"⟩, 70), (⟨"RouteWallModel", "puts", "(II)V"⟩, 70), (⟨"RouteWallModel", "isSign", "(I)Z"⟩, 70), (⟨"RouteWallModel", "deeper", "()V"⟩, 70), (⟨"RouteWallModel", "waitFor", "(I)V"⟩, 70), (⟨"RouteWallModel", "wholes", "()V"⟩, 70), (⟨"RouteWallModel", "reduce", "(I)V"⟩, 70), (⟨"RouteWallModel", "isOpen", "()Z"⟩, 70), (⟨"RouteWallModel", "readKeys", "()V"⟩, 70), (⟨"RouteWallModel", "ends", "()V"⟩, 70)]
theorem lw_r4 : ∀ q ∈ lw_privs_4, lw_okq q := List.forall_mem_cons.mpr ⟨lw_p48, List.forall_mem_cons.mpr ⟨lw_p49, List.forall_mem_cons.mpr ⟨lw_p50, List.forall_mem_cons.mpr ⟨lw_p51, List.forall_mem_cons.mpr ⟨lw_p52, List.forall_mem_cons.mpr ⟨lw_p53, List.forall_mem_cons.mpr ⟨lw_p54, List.forall_mem_cons.mpr ⟨lw_p55, List.forall_mem_cons.mpr ⟨lw_p56, List.forall_mem_cons.mpr ⟨lw_p57, List.forall_mem_cons.mpr ⟨lw_p58, List.forall_mem_cons.mpr ⟨lw_p59, List.forall_mem_cons.mpr ⟨lw_p60, List.forall_mem_cons.mpr ⟨lw_p61, List.forall_mem_cons.mpr ⟨lw_p62, List.forall_mem_cons.mpr ⟨lw_p63, fun _ h => absurd h List.not_mem_nil⟩⟩⟩⟩⟩⟩⟩⟩⟩⟩⟩⟩⟩⟩⟩⟩
theorem lw_p64 : lw_okq (⟨"RouteWallModel", "isRoute", "(II)Z"⟩, 70) := ⟨⟨by decide +kernel, by decide +kernel⟩, List.mem_of_getElem? (i := 1014) (by decide +kernel), List.mem_of_getElem? (i := 1367) (by decide +kernel), List.mem_of_getElem? (i := 1368) (by decide +kernel)⟩
theorem lw_p65 : lw_okq (⟨"RouteWallModel", "isRound", "(I)Z"⟩, 70) := ⟨⟨by decide +kernel, by decide +kernel⟩, List.mem_of_getElem? (i := 1014) (by decide +kernel), List.mem_of_getElem? (i := 1371) (by decide +kernel), List.mem_of_getElem? (i := 1372) (by decide +kernel)⟩
theorem lw_p66 : lw_okq (⟨"RouteWallModel", "no", "(I)Z"⟩, 70) := ⟨⟨by decide +kernel, by decide +kernel⟩, List.mem_of_getElem? (i := 1014) (by decide +kernel), List.mem_of_getElem? (i := 1375) (by decide +kernel), List.mem_of_getElem? (i := 1376) (by decide +kernel)⟩
theorem lw_p67 : lw_okq (⟨"RouteWallModel", "isClimber", "(I)Z"⟩, 70) := ⟨⟨by decide +kernel, by decide +kernel⟩, List.mem_of_getElem? (i := 1014) (by decide +kernel), List.mem_of_getElem? (i := 1390) (by decide +kernel), List.mem_of_getElem? (i := 1391) (by decide +kernel)⟩
theorem lw_p68 : lw_okq (⟨"RouteWallModel", "clocked", "(I)I"⟩, 70) := ⟨⟨by decide +kernel, by decide +kernel⟩, List.mem_of_getElem? (i := 1014) (by decide +kernel), List.mem_of_getElem? (i := 1394) (by decide +kernel), List.mem_of_getElem? (i := 1395) (by decide +kernel)⟩
theorem lw_p69 : lw_okq (⟨"RouteWallModel", "goesTo", "(I)V"⟩, 70) := ⟨⟨by decide +kernel, by decide +kernel⟩, List.mem_of_getElem? (i := 1014) (by decide +kernel), List.mem_of_getElem? (i := 1399) (by decide +kernel), List.mem_of_getElem? (i := 1400) (by decide +kernel)⟩
theorem lw_p70 : lw_okq (⟨"RouteWallModel", "openTry", "(I)I"⟩, 70) := ⟨⟨by decide +kernel, by decide +kernel⟩, List.mem_of_getElem? (i := 1014) (by decide +kernel), List.mem_of_getElem? (i := 1403) (by decide +kernel), List.mem_of_getElem? (i := 1404) (by decide +kernel)⟩
theorem lw_p71 : lw_okq (⟨"RouteWallModel", "hasSeen", "(II)Z"⟩, 70) := ⟨⟨by decide +kernel, by decide +kernel⟩, List.mem_of_getElem? (i := 1014) (by decide +kernel), List.mem_of_getElem? (i := 1407) (by decide +kernel), List.mem_of_getElem? (i := 1408) (by decide +kernel)⟩
theorem lw_p72 : lw_okq (⟨"RouteWallModel", "readyAt", "(I)I"⟩, 70) := ⟨⟨by decide +kernel, by decide +kernel⟩, List.mem_of_getElem? (i := 1014) (by decide +kernel), List.mem_of_getElem? (i := 1415) (by decide +kernel), List.mem_of_getElem? (i := 1416) (by decide +kernel)⟩
theorem lw_p73 : lw_okq (⟨"RouteWallModel", "pointsOf", "(IIII)I"⟩, 70) := ⟨⟨by decide +kernel, by decide +kernel⟩, List.mem_of_getElem? (i := 1014) (by decide +kernel), List.mem_of_getElem? (i := 1462) (by decide +kernel), List.mem_of_getElem? (i := 1463) (by decide +kernel)⟩
theorem lw_p74 : lw_okq (⟨"RouteWallModel", "factsOf", "(IIII)V"⟩, 70) := ⟨⟨by decide +kernel, by decide +kernel⟩, List.mem_of_getElem? (i := 1014) (by decide +kernel), List.mem_of_getElem? (i := 1466) (by decide +kernel), List.mem_of_getElem? (i := 1467) (by decide +kernel)⟩
theorem lw_p75 : lw_okq (⟨"RouteWallModel", "holdOf", "(II)I"⟩, 70) := ⟨⟨by decide +kernel, by decide +kernel⟩, List.mem_of_getElem? (i := 1014) (by decide +kernel), List.mem_of_getElem? (i := 1470) (by decide +kernel), List.mem_of_getElem? (i := 1471) (by decide +kernel)⟩
theorem lw_p76 : lw_okq (⟨"RouteWallModel", "isIn", "(II)Z"⟩, 70) := ⟨⟨by decide +kernel, by decide +kernel⟩, List.mem_of_getElem? (i := 1014) (by decide +kernel), List.mem_of_getElem? (i := 1485) (by decide +kernel), List.mem_of_getElem? (i := 1486) (by decide +kernel)⟩
theorem lw_p77 : lw_okq (⟨"RouteWallModel", "keyOf", "(IIII)J"⟩, 70) := ⟨⟨by decide +kernel, by decide +kernel⟩, List.mem_of_getElem? (i := 1014) (by decide +kernel), List.mem_of_getElem? (i := 1489) (by decide +kernel), List.mem_of_getElem? (i := 1490) (by decide +kernel)⟩
theorem lw_p78 : lw_okq (⟨"RouteWallModel", "rankOf", "(III)I"⟩, 70) := ⟨⟨by decide +kernel, by decide +kernel⟩, List.mem_of_getElem? (i := 1014) (by decide +kernel), List.mem_of_getElem? (i := 1497) (by decide +kernel), List.mem_of_getElem? (i := 1498) (by decide +kernel)⟩
theorem lw_p79 : lw_okq (⟨"RouteWallModel", "isAhead", "(IIII)Z"⟩, 70) := ⟨⟨by decide +kernel, by decide +kernel⟩, List.mem_of_getElem? (i := 1014) (by decide +kernel), List.mem_of_getElem? (i := 1501) (by decide +kernel), List.mem_of_getElem? (i := 1502) (by decide +kernel)⟩
def lw_privs_5 : List (MethodName × Nat) := [(⟨"RouteWallModel", "isRoute", "(II)Z"⟩, 70), (⟨"RouteWallModel", "isRound", "(I)Z"⟩, 70), (⟨"RouteWallModel", "no", "(I)Z"⟩, 70), (⟨"RouteWallModel", "isClimber", "(I)Z"⟩, 70), (⟨"RouteWallModel", "clocked", "(I)I"⟩, 70), (⟨"RouteWallModel", "goesTo", "(I)V"⟩, 70), (⟨"RouteWallModel", "openTry", "(I)I"⟩, 70), (⟨"RouteWallModel", "hasSeen", "(II)Z"⟩, 70), (⟨"RouteWallModel", "readyAt", "(I)I"⟩, 70), (⟨"RouteWallModel", "pointsOf", "(IIII)I"⟩, 70), (⟨"RouteWallModel", "factsOf", "(IIII)V"⟩, 70), (⟨"RouteWallModel", "holdOf", "(II)I"⟩, 70), (⟨"RouteWallModel", "isIn", "(II)Z"⟩, 70), (⟨"RouteWallModel", "keyOf", "(IIII)J"⟩, 70), (⟨"RouteWallModel", "rankOf", "(III)I"⟩, 70), (⟨"RouteWallModel", "isAhead", "(IIII)Z"⟩, 70)]
theorem lw_r5 : ∀ q ∈ lw_privs_5, lw_okq q := List.forall_mem_cons.mpr ⟨lw_p64, List.forall_mem_cons.mpr ⟨lw_p65, List.forall_mem_cons.mpr ⟨lw_p66, List.forall_mem_cons.mpr ⟨lw_p67, List.forall_mem_cons.mpr ⟨lw_p68, List.forall_mem_cons.mpr ⟨lw_p69, List.forall_mem_cons.mpr ⟨lw_p70, List.forall_mem_cons.mpr ⟨lw_p71, List.forall_mem_cons.mpr ⟨lw_p72, List.forall_mem_cons.mpr ⟨lw_p73, List.forall_mem_cons.mpr ⟨lw_p74, List.forall_mem_cons.mpr ⟨lw_p75, List.forall_mem_cons.mpr ⟨lw_p76, List.forall_mem_cons.mpr ⟨lw_p77, List.forall_mem_cons.mpr ⟨lw_p78, List.forall_mem_cons.mpr ⟨lw_p79, fun _ h => absurd h List.not_mem_nil⟩⟩⟩⟩⟩⟩⟩⟩⟩⟩⟩⟩⟩⟩⟩⟩
theorem lw_p80 : lw_okq (⟨"RouteWallModel", "partsOf", "(III)I"⟩, 70) := ⟨⟨by decide +kernel, by decide +kernel⟩, List.mem_of_getElem? (i := 1014) (by decide +kernel), List.mem_of_getElem? (i := 1517) (by decide +kernel), List.mem_of_getElem? (i := 1518) (by decide +kernel)⟩
def lw_privs_6 : List (MethodName × Nat) := [(⟨"RouteWallModel", "partsOf", "(III)I"⟩, 70)]
theorem lw_r6 : ∀ q ∈ lw_privs_6, lw_okq q := List.forall_mem_cons.mpr ⟨lw_p80, fun _ h => absurd h List.not_mem_nil⟩
def lw_privs : List (MethodName × Nat) := lw_privs_1 ++ (lw_privs_2 ++ (lw_privs_3 ++ (lw_privs_4 ++ (lw_privs_5 ++ (lw_privs_6)))))
def lw_tbl : List Cond := k2_sels lw_privs ++ tables_1
theorem lw_privs_ok : ∀ q ∈ lw_privs, lw_okq q := by
  show ∀ q ∈ lw_privs_1 ++ (lw_privs_2 ++ (lw_privs_3 ++ (lw_privs_4 ++ (lw_privs_5 ++ (lw_privs_6))))), lw_okq q
  exact List.forall_mem_append.mpr ⟨lw_r1, List.forall_mem_append.mpr ⟨lw_r2, List.forall_mem_append.mpr ⟨lw_r3, List.forall_mem_append.mpr ⟨lw_r4, List.forall_mem_append.mpr ⟨lw_r5, lw_r6⟩⟩⟩⟩⟩
end
section
def RX0 : String := "RouteWall$Appeals"
def TX0 : u_T := fun k => match k with
  | 0 => ("RouteWall$Appeals", "many", "I", false)
  | 1 => ("RouteWall$Appeals", "number", "[I", true)
  | 2 => ("RouteWall$Appeals", "hold", "[I", true)
  | _ => ("RouteWall$Appeals", "day", "[I", true)
def tyX0 : Nat → FieldType := fun k => match k with
  | 0 => .int
  | 1 => .array .int
  | 2 => .array .int
  | _ => .array .int
abbrev wsX00 : List Cond := u_ws RX0 TX0 4
theorem nmX0 : ∀ a, a < 4 → ∀ b, b < 4 → a ≠ b → (TX0 a).2.1 ≠ (TX0 b).2.1 := by decide +kernel
theorem tyX0_ok : ∀ k, k < 4 → parseFieldDescriptor (TX0 k).2.2.1 = some (tyX0 k) := by decide +kernel
abbrev cX0_init : ByteArray := prog_2_method_1_code
def yX0_init : MethodName := ⟨RX0, "<init>", "()V"⟩
abbrev cX0_clear : ByteArray := prog_2_method_2_code
def yX0_clear : MethodName := ⟨RX0, "clear", "()V"⟩
abbrev cX0_put : ByteArray := prog_2_method_3_code
def yX0_put : MethodName := ⟨RX0, "put", "(III)V"⟩
def RX1 : String := "RouteWall$Expression"
def TX1 : u_T := fun k => match k with
  | 0 => ("RouteWall$Expression", "waiting", "[I", true)
  | 1 => ("RouteWall$Expression", "waits", "I", false)
  | 2 => ("RouteWall$Expression", "nested", "I", false)
  | 3 => ("RouteWall$Expression", "parens", "I", false)
  | 4 => ("RouteWall$Expression", "items", "I", false)
  | _ => ("RouteWall$Expression", "fault", "I", false)
def tyX1 : Nat → FieldType := fun k => match k with
  | 0 => .array .int
  | 1 => .int
  | 2 => .int
  | 3 => .int
  | 4 => .int
  | _ => .int
abbrev wsX10 : List Cond := u_ws RX1 TX1 6
theorem nmX1 : ∀ a, a < 6 → ∀ b, b < 6 → a ≠ b → (TX1 a).2.1 ≠ (TX1 b).2.1 := by decide +kernel
theorem tyX1_ok : ∀ k, k < 6 → parseFieldDescriptor (TX1 k).2.2.1 = some (tyX1 k) := by decide +kernel
abbrev cX1_init : ByteArray := prog_3_method_1_code
def yX1_init : MethodName := ⟨RX1, "<init>", "()V"⟩
abbrev cX1_read : ByteArray := prog_3_method_2_code
def yX1_read : MethodName := ⟨RX1, "read", "(LRouteWall$Tokens;LRouteWall$Laws;)I"⟩
abbrev cX1_readFactor : ByteArray := prog_3_method_3_code
def yX1_readFactor : MethodName := ⟨RX1, "readFactor", "(LRouteWall$Tokens;LRouteWall$Laws;)Z"⟩
abbrev cX1_readBehindFactor : ByteArray := prog_3_method_4_code
def yX1_readBehindFactor : MethodName := ⟨RX1, "readBehindFactor", "(ILRouteWall$Laws;)Z"⟩
abbrev cX1_refuseToken : ByteArray := prog_3_method_5_code
def yX1_refuseToken : MethodName := ⟨RX1, "refuseToken", "(I)V"⟩
abbrev cX1_countItem : ByteArray := prog_3_method_6_code
def yX1_countItem : MethodName := ⟨RX1, "countItem", "()V"⟩
abbrev cX1_nest : ByteArray := prog_3_method_7_code
def yX1_nest : MethodName := ⟨RX1, "nest", "(I)V"⟩
abbrev cX1_await : ByteArray := prog_3_method_8_code
def yX1_await : MethodName := ⟨RX1, "await", "(I)V"⟩
abbrev cX1_putSign : ByteArray := prog_3_method_9_code
def yX1_putSign : MethodName := ⟨RX1, "putSign", "(ILRouteWall$Laws;)V"⟩
abbrev cX1_closeParen : ByteArray := prog_3_method_10_code
def yX1_closeParen : MethodName := ⟨RX1, "closeParen", "(LRouteWall$Laws;)V"⟩
abbrev cX1_releaseNegations : ByteArray := prog_3_method_11_code
def yX1_releaseNegations : MethodName := ⟨RX1, "releaseNegations", "(LRouteWall$Laws;)V"⟩
abbrev cX1_release : ByteArray := prog_3_method_12_code
def yX1_release : MethodName := ⟨RX1, "release", "(ILRouteWall$Laws;)V"⟩
def RX2 : String := "RouteWall$Field"
def TX2 : u_T := fun k => match k with
  | 0 => ("RouteWall$Field", "climbers", "I", false)
  | 1 => ("RouteWall$Field", "open", "I", false)
  | 2 => ("RouteWall$Field", "latest", "[I", true)
  | _ => ("RouteWall$Field", "cutDay", "[I", true)
def tyX2 : Nat → FieldType := fun k => match k with
  | 0 => .int
  | 1 => .int
  | 2 => .array .int
  | _ => .array .int
abbrev wsX20 : List Cond := u_ws RX2 TX2 4
theorem nmX2 : ∀ a, a < 4 → ∀ b, b < 4 → a ≠ b → (TX2 a).2.1 ≠ (TX2 b).2.1 := by decide +kernel
theorem tyX2_ok : ∀ k, k < 4 → parseFieldDescriptor (TX2 k).2.2.1 = some (tyX2 k) := by decide +kernel
abbrev cX2_init : ByteArray := prog_4_method_1_code
def yX2_init : MethodName := ⟨RX2, "<init>", "()V"⟩
abbrev cX2_clear : ByteArray := prog_4_method_2_code
def yX2_clear : MethodName := ⟨RX2, "clear", "()V"⟩
abbrev cX2_enter : ByteArray := prog_4_method_3_code
def yX2_enter : MethodName := ⟨RX2, "enter", "()I"⟩
abbrev cX2_knows : ByteArray := prog_4_method_4_code
def yX2_knows : MethodName := ⟨RX2, "knows", "(I)Z"⟩
abbrev cX2_isIn : ByteArray := prog_4_method_5_code
def yX2_isIn : MethodName := ⟨RX2, "isIn", "(II)Z"⟩
abbrev cX2_manyIn : ByteArray := prog_4_method_6_code
def yX2_manyIn : MethodName := ⟨RX2, "manyIn", "(I)I"⟩
abbrev cX2_letCome : ByteArray := prog_4_method_7_code
def yX2_letCome : MethodName := ⟨RX2, "letCome", "([III)I"⟩
abbrev cX2_dayOf : ByteArray := prog_4_method_8_code
def yX2_dayOf : MethodName := ⟨RX2, "dayOf", "(I)I"⟩
def RX3 : String := "RouteWall$LawReader"
def TX3 : u_T := fun k => match k with
  | 0 => ("RouteWall$LawReader", "tokens", "LRouteWall$Tokens;", true)
  | 1 => ("RouteWall$LawReader", "draft", "LRouteWall$Laws;", true)
  | 2 => ("RouteWall$LawReader", "expression", "LRouteWall$Expression;", true)
  | 3 => ("RouteWall$LawReader", "fault", "I", false)
  | 4 => ("RouteWall$LawReader", "faultPlace", "I", false)
  | 5 => ("RouteWall$LawReader", "pointsTold", "Z", false)
  | 6 => ("RouteWall$LawReader", "keysTold", "Z", false)
  | _ => ("RouteWall$LawReader", "tiesTold", "Z", false)
def tyX3 : Nat → FieldType := fun k => match k with
  | 0 => .object "RouteWall$Tokens"
  | 1 => .object "RouteWall$Laws"
  | 2 => .object "RouteWall$Expression"
  | 3 => .int
  | 4 => .int
  | 5 => .boolean
  | 6 => .boolean
  | _ => .boolean
abbrev wsX30 : List Cond := u_ws RX3 TX3 8
theorem nmX3 : ∀ a, a < 8 → ∀ b, b < 8 → a ≠ b → (TX3 a).2.1 ≠ (TX3 b).2.1 := by decide +kernel
theorem tyX3_ok : ∀ k, k < 8 → parseFieldDescriptor (TX3 k).2.2.1 = some (tyX3 k) := by decide +kernel
abbrev cX3_init : ByteArray := prog_5_method_1_code
def yX3_init : MethodName := ⟨RX3, "<init>", "()V"⟩
abbrev cX3_read : ByteArray := prog_5_method_2_code
def yX3_read : MethodName := ⟨RX3, "read", "([II)V"⟩
abbrev cX3_readLaw : ByteArray := prog_5_method_3_code
def yX3_readLaw : MethodName := ⟨RX3, "readLaw", "()V"⟩
abbrev cX3_note : ByteArray := prog_5_method_4_code
def yX3_note : MethodName := ⟨RX3, "note", "(I)V"⟩
abbrev cX3_refuseIf : ByteArray := prog_5_method_5_code
def yX3_refuseIf : MethodName := ⟨RX3, "refuseIf", "(ZI)V"⟩
abbrev cX3_refuseToken : ByteArray := prog_5_method_6_code
def yX3_refuseToken : MethodName := ⟨RX3, "refuseToken", "()V"⟩
abbrev cX3_goOn : ByteArray := prog_5_method_7_code
def yX3_goOn : MethodName := ⟨RX3, "goOn", "()Z"⟩
abbrev cX3_pass : ByteArray := prog_5_method_8_code
def yX3_pass : MethodName := ⟨RX3, "pass", "(I)V"⟩
abbrev cX3_readRound : ByteArray := prog_5_method_9_code
def yX3_readRound : MethodName := ⟨RX3, "readRound", "()V"⟩
abbrev cX3_readKeys : ByteArray := prog_5_method_10_code
def yX3_readKeys : MethodName := ⟨RX3, "readKeys", "()V"⟩
abbrev cX3_readKey : ByteArray := prog_5_method_11_code
def yX3_readKey : MethodName := ⟨RX3, "readKey", "()V"⟩
abbrev cX3_readTies : ByteArray := prog_5_method_12_code
def yX3_readTies : MethodName := ⟨RX3, "readTies", "()V"⟩
def RX4 : String := "RouteWall$Laws"
def TX4 : u_T := fun k => match k with
  | 0 => ("RouteWall$Laws", "rounds", "I", false)
  | 1 => ("RouteWall$Laws", "shape", "[I", true)
  | 2 => ("RouteWall$Laws", "item", "[I", true)
  | 3 => ("RouteWall$Laws", "number", "[I", true)
  | 4 => ("RouteWall$Laws", "items", "I", false)
  | 5 => ("RouteWall$Laws", "keyKind", "[I", true)
  | 6 => ("RouteWall$Laws", "keyDown", "[I", true)
  | 7 => ("RouteWall$Laws", "keys", "I", false)
  | 8 => ("RouteWall$Laws", "back", "Z", false)
  | _ => ("RouteWall$Laws", "stack", "[J", true)
def tyX4 : Nat → FieldType := fun k => match k with
  | 0 => .int
  | 1 => .array .int
  | 2 => .array .int
  | 3 => .array .int
  | 4 => .int
  | 5 => .array .int
  | 6 => .array .int
  | 7 => .int
  | 8 => .boolean
  | _ => .array .long
abbrev wsX40 : List Cond := u_ws RX4 TX4 10
theorem nmX4 : ∀ a, a < 10 → ∀ b, b < 10 → a ≠ b → (TX4 a).2.1 ≠ (TX4 b).2.1 := by decide +kernel
theorem tyX4_ok : ∀ k, k < 10 → parseFieldDescriptor (TX4 k).2.2.1 = some (tyX4 k) := by decide +kernel
abbrev cX4_init : ByteArray := prog_6_method_1_code
def yX4_init : MethodName := ⟨RX4, "<init>", "()V"⟩
abbrev cX4_setUntold : ByteArray := prog_6_method_2_code
def yX4_setUntold : MethodName := ⟨RX4, "setUntold", "()V"⟩
abbrev cX4_take : ByteArray := prog_6_method_3_code
def yX4_take : MethodName := ⟨RX4, "take", "(LRouteWall$Laws;)V"⟩
abbrev cX4_addItem : ByteArray := prog_6_method_4_code
def yX4_addItem : MethodName := ⟨RX4, "addItem", "(II)V"⟩
abbrev cX4_addKey : ByteArray := prog_6_method_5_code
def yX4_addKey : MethodName := ⟨RX4, "addKey", "(IZ)V"⟩
abbrev cX4_hasRound : ByteArray := prog_6_method_6_code
def yX4_hasRound : MethodName := ⟨RX4, "hasRound", "(I)Z"⟩
abbrev cX4_hasRoute : ByteArray := prog_6_method_7_code
def yX4_hasRoute : MethodName := ⟨RX4, "hasRoute", "(II)Z"⟩
abbrev cX4_shapeOf : ByteArray := prog_6_method_8_code
def yX4_shapeOf : MethodName := ⟨RX4, "shapeOf", "(II)I"⟩
abbrev cX4_pointsFor : ByteArray := prog_6_method_9_code
def yX4_pointsFor : MethodName := ⟨RX4, "pointsFor", "([I)I"⟩
abbrev cX4_worked : ByteArray := prog_6_method_10_code
def yX4_worked : MethodName := ⟨RX4, "worked", "(IJJ)J"⟩
abbrev cX4_bounded : ByteArray := prog_6_method_11_code
def yX4_bounded : MethodName := ⟨RX4, "bounded", "(J)J"⟩
def RX5 : String := "RouteWall$Results"
def TX5 : u_T := fun k => match k with
  | 0 => ("RouteWall$Results", "laws", "LRouteWall$Laws;", true)
  | 1 => ("RouteWall$Results", "wall", "LRouteWall$Wall;", true)
  | 2 => ("RouteWall$Results", "field", "LRouteWall$Field;", true)
  | 3 => ("RouteWall$Results", "tries", "LRouteWall$Tries;", true)
  | 4 => ("RouteWall$Results", "appeals", "LRouteWall$Appeals;", true)
  | 5 => ("RouteWall$Results", "known", "[I", true)
  | 6 => ("RouteWall$Results", "knownDay", "[I", true)
  | 7 => ("RouteWall$Results", "counted", "[I", true)
  | 8 => ("RouteWall$Results", "best", "[I", true)
  | 9 => ("RouteWall$Results", "bestNumber", "[I", true)
  | 10 => ("RouteWall$Results", "facts", "[I", true)
  | 11 => ("RouteWall$Results", "points", "[I", true)
  | 12 => ("RouteWall$Results", "totals", "[J", true)
  | 13 => ("RouteWall$Results", "keyRows", "[J", true)
  | _ => ("RouteWall$Results", "ranks", "[I", true)
def tyX5 : Nat → FieldType := fun k => match k with
  | 0 => .object "RouteWall$Laws"
  | 1 => .object "RouteWall$Wall"
  | 2 => .object "RouteWall$Field"
  | 3 => .object "RouteWall$Tries"
  | 4 => .object "RouteWall$Appeals"
  | 5 => .array .int
  | 6 => .array .int
  | 7 => .array .int
  | 8 => .array .int
  | 9 => .array .int
  | 10 => .array .int
  | 11 => .array .int
  | 12 => .array .long
  | 13 => .array .long
  | _ => .array .int
abbrev wsX50 : List Cond := u_ws RX5 TX5 15
theorem nmX5 : ∀ a, a < 15 → ∀ b, b < 15 → a ≠ b → (TX5 a).2.1 ≠ (TX5 b).2.1 := by decide +kernel
theorem tyX5_ok : ∀ k, k < 15 → parseFieldDescriptor (TX5 k).2.2.1 = some (tyX5 k) := by decide +kernel
abbrev cX5_init : ByteArray := prog_7_method_1_code
def yX5_init : MethodName := ⟨RX5, "<init>", "(LRouteWall$Laws;LRouteWall$Wall;LRouteWall$Field;LRouteWall$Tries;LRouteWall$Appeals;)V"⟩
abbrev cX5_cellOf : ByteArray := prog_7_method_2_code
def yX5_cellOf : MethodName := ⟨RX5, "cellOf", "(III)I"⟩
abbrev cX5_keyRow : ByteArray := prog_7_method_3_code
def yX5_keyRow : MethodName := ⟨RX5, "keyRow", "(II)I"⟩
abbrev cX5_survey : ByteArray := prog_7_method_4_code
def yX5_survey : MethodName := ⟨RX5, "survey", "(I)V"⟩
abbrev cX5_hearAppeals : ByteArray := prog_7_method_5_code
def yX5_hearAppeals : MethodName := ⟨RX5, "hearAppeals", "(I)V"⟩
abbrev cX5_workFacts : ByteArray := prog_7_method_6_code
def yX5_workFacts : MethodName := ⟨RX5, "workFacts", "(III)V"⟩
abbrev cX5_workKeys : ByteArray := prog_7_method_7_code
def yX5_workKeys : MethodName := ⟨RX5, "workKeys", "(II)V"⟩
abbrev cX5_keyOf : ByteArray := prog_7_method_8_code
def yX5_keyOf : MethodName := ⟨RX5, "keyOf", "(III)J"⟩
abbrev cX5_workRanks : ByteArray := prog_7_method_9_code
def yX5_workRanks : MethodName := ⟨RX5, "workRanks", "(II)V"⟩
abbrev cX5_manyAhead : ByteArray := prog_7_method_10_code
def yX5_manyAhead : MethodName := ⟨RX5, "manyAhead", "(II)I"⟩
abbrev cX5_lowestAsked : ByteArray := prog_7_method_11_code
def yX5_lowestAsked : MethodName := ⟨RX5, "lowestAsked", "(I)I"⟩
abbrev cX5_isAhead : ByteArray := prog_7_method_12_code
def yX5_isAhead : MethodName := ⟨RX5, "isAhead", "(III)Z"⟩
abbrev cX5_starter : ByteArray := prog_7_method_13_code
def yX5_starter : MethodName := ⟨RX5, "starter", "(II)I"⟩
abbrev cX5_manyStartAhead : ByteArray := prog_7_method_14_code
def yX5_manyStartAhead : MethodName := ⟨RX5, "manyStartAhead", "(II)I"⟩
abbrev cX5_workPoints : ByteArray := prog_7_method_15_code
def yX5_workPoints : MethodName := ⟨RX5, "workPoints", "(II)V"⟩
abbrev cX5_together : ByteArray := prog_7_method_16_code
def yX5_together : MethodName := ⟨RX5, "together", "(II)J"⟩
abbrev cX5_pairsParted : ByteArray := prog_7_method_17_code
def yX5_pairsParted : MethodName := ⟨RX5, "pairsParted", "(II)I"⟩
abbrev cX5_bestSet : ByteArray := prog_7_method_18_code
def yX5_bestSet : MethodName := ⟨RX5, "bestSet", "(III)I"⟩
def RX6 : String := "RouteWall$Tokens"
def TX6 : u_T := fun k => match k with
  | 0 => ("RouteWall$Tokens", "kinds", "[I", true)
  | 1 => ("RouteWall$Tokens", "places", "[I", true)
  | 2 => ("RouteWall$Tokens", "values", "[I", true)
  | 3 => ("RouteWall$Tokens", "many", "I", false)
  | _ => ("RouteWall$Tokens", "at", "I", false)
def tyX6 : Nat → FieldType := fun k => match k with
  | 0 => .array .int
  | 1 => .array .int
  | 2 => .array .int
  | 3 => .int
  | _ => .int
abbrev wsX60 : List Cond := u_ws RX6 TX6 5
theorem nmX6 : ∀ a, a < 5 → ∀ b, b < 5 → a ≠ b → (TX6 a).2.1 ≠ (TX6 b).2.1 := by decide +kernel
theorem tyX6_ok : ∀ k, k < 5 → parseFieldDescriptor (TX6 k).2.2.1 = some (tyX6 k) := by decide +kernel
abbrev cX6_init : ByteArray := prog_8_method_1_code
def yX6_init : MethodName := ⟨RX6, "<init>", "()V"⟩
abbrev cX6_kind : ByteArray := prog_8_method_2_code
def yX6_kind : MethodName := ⟨RX6, "kind", "()I"⟩
abbrev cX6_place : ByteArray := prog_8_method_3_code
def yX6_place : MethodName := ⟨RX6, "place", "()I"⟩
abbrev cX6_value : ByteArray := prog_8_method_4_code
def yX6_value : MethodName := ⟨RX6, "value", "()I"⟩
abbrev cX6_step : ByteArray := prog_8_method_5_code
def yX6_step : MethodName := ⟨RX6, "step", "()V"⟩
abbrev cX6_split : ByteArray := prog_8_method_6_code
def yX6_split : MethodName := ⟨RX6, "split", "([II)V"⟩
abbrev cX6_put : ByteArray := prog_8_method_7_code
def yX6_put : MethodName := ⟨RX6, "put", "(III)V"⟩
abbrev cX6_putWord : ByteArray := prog_8_method_8_code
def yX6_putWord : MethodName := ⟨RX6, "putWord", "([III)I"⟩
abbrev cX6_wordKind : ByteArray := prog_8_method_9_code
def yX6_wordKind : MethodName := ⟨RX6, "wordKind", "([III)I"⟩
abbrev cX6_putNumber : ByteArray := prog_8_method_10_code
def yX6_putNumber : MethodName := ⟨RX6, "putNumber", "([III)I"⟩
abbrev cX6_isLetter : ByteArray := prog_8_method_11_code
def yX6_isLetter : MethodName := ⟨RX6, "isLetter", "(I)Z"⟩
abbrev cX6_isDigit : ByteArray := prog_8_method_12_code
def yX6_isDigit : MethodName := ⟨RX6, "isDigit", "(I)Z"⟩
abbrev cX6_isSign : ByteArray := prog_8_method_13_code
def yX6_isSign : MethodName := ⟨RX6, "isSign", "(I)Z"⟩
def RX7 : String := "RouteWall$Tries"
def TX7 : u_T := fun k => match k with
  | 0 => ("RouteWall$Tries", "many", "I", false)
  | 1 => ("RouteWall$Tries", "climber", "[I", true)
  | 2 => ("RouteWall$Tries", "round", "[I", true)
  | 3 => ("RouteWall$Tries", "route", "[I", true)
  | 4 => ("RouteWall$Tries", "begun", "[I", true)
  | 5 => ("RouteWall$Tries", "ended", "[I", true)
  | 6 => ("RouteWall$Tries", "hold", "[I", true)
  | 7 => ("RouteWall$Tries", "how", "[I", true)
  | _ => ("RouteWall$Tries", "openNext", "[I", true)
def tyX7 : Nat → FieldType := fun k => match k with
  | 0 => .int
  | 1 => .array .int
  | 2 => .array .int
  | 3 => .array .int
  | 4 => .array .int
  | 5 => .array .int
  | 6 => .array .int
  | 7 => .array .int
  | _ => .array .int
abbrev wsX70 : List Cond := u_ws RX7 TX7 9
theorem nmX7 : ∀ a, a < 9 → ∀ b, b < 9 → a ≠ b → (TX7 a).2.1 ≠ (TX7 b).2.1 := by decide +kernel
theorem tyX7_ok : ∀ k, k < 9 → parseFieldDescriptor (TX7 k).2.2.1 = some (tyX7 k) := by decide +kernel
abbrev cX7_init : ByteArray := prog_9_method_1_code
def yX7_init : MethodName := ⟨RX7, "<init>", "()V"⟩
abbrev cX7_clear : ByteArray := prog_9_method_2_code
def yX7_clear : MethodName := ⟨RX7, "clear", "()V"⟩
abbrev cX7_knows : ByteArray := prog_9_method_3_code
def yX7_knows : MethodName := ⟨RX7, "knows", "(I)Z"⟩
abbrev cX7_openOf : ByteArray := prog_9_method_4_code
def yX7_openOf : MethodName := ⟨RX7, "openOf", "(I)I"⟩
abbrev cX7_anyOpen : ByteArray := prog_9_method_5_code
def yX7_anyOpen : MethodName := ⟨RX7, "anyOpen", "()Z"⟩
abbrev cX7_start : ByteArray := prog_9_method_6_code
def yX7_start : MethodName := ⟨RX7, "start", "(IIII)I"⟩
abbrev cX7_finish : ByteArray := prog_9_method_7_code
def yX7_finish : MethodName := ⟨RX7, "finish", "(III)V"⟩
abbrev cX7_endOverdue : ByteArray := prog_9_method_8_code
def yX7_endOverdue : MethodName := ⟨RX7, "endOverdue", "(II)V"⟩
abbrev cX7_isOf : ByteArray := prog_9_method_9_code
def yX7_isOf : MethodName := ⟨RX7, "isOf", "(IIII)Z"⟩
abbrev cX7_mayNotTry : ByteArray := prog_9_method_10_code
def yX7_mayNotTry : MethodName := ⟨RX7, "mayNotTry", "(IIII)Z"⟩
abbrev cX7_lastEnd : ByteArray := prog_9_method_11_code
def yX7_lastEnd : MethodName := ⟨RX7, "lastEnd", "(II)I"⟩
def RX8 : String := "RouteWall$Wall"
def TX8 : u_T := fun k => match k with
  | 0 => ("RouteWall$Wall", "holds", "[I", true)
  | 1 => ("RouteWall$Wall", "begun", "[I", true)
  | _ => ("RouteWall$Wall", "zones", "[I", true)
def tyX8 : Nat → FieldType := fun k => match k with
  | 0 => .array .int
  | 1 => .array .int
  | _ => .array .int
abbrev wsX80 : List Cond := u_ws RX8 TX8 3
theorem nmX8 : ∀ a, a < 3 → ∀ b, b < 3 → a ≠ b → (TX8 a).2.1 ≠ (TX8 b).2.1 := by decide +kernel
theorem tyX8_ok : ∀ k, k < 3 → parseFieldDescriptor (TX8 k).2.2.1 = some (tyX8 k) := by decide +kernel
abbrev cX8_init : ByteArray := prog_10_method_1_code
def yX8_init : MethodName := ⟨RX8, "<init>", "()V"⟩
abbrev cX8_clear : ByteArray := prog_10_method_2_code
def yX8_clear : MethodName := ⟨RX8, "clear", "()V"⟩
abbrev cX8_holdsOf : ByteArray := prog_10_method_3_code
def yX8_holdsOf : MethodName := ⟨RX8, "holdsOf", "(II)I"⟩
abbrev cX8_begunOn : ByteArray := prog_10_method_4_code
def yX8_begunOn : MethodName := ⟨RX8, "begunOn", "(II)I"⟩
abbrev cX8_zoneOf : ByteArray := prog_10_method_5_code
def yX8_zoneOf : MethodName := ⟨RX8, "zoneOf", "(III)I"⟩
abbrev cX8_set : ByteArray := prog_10_method_6_code
def yX8_set : MethodName := ⟨RX8, "set", "(III)V"⟩
abbrev cX8_setZone : ByteArray := prog_10_method_7_code
def yX8_setZone : MethodName := ⟨RX8, "setZone", "(IIII)V"⟩
abbrev cX8_countBegun : ByteArray := prog_10_method_8_code
def yX8_countBegun : MethodName := ⟨RX8, "countBegun", "(II)V"⟩
abbrev cX8_zonesUpTo : ByteArray := prog_10_method_9_code
def yX8_zonesUpTo : MethodName := ⟨RX8, "zonesUpTo", "(III)I"⟩
def RX9 : String := "RouteWall$Watch"
def TX9 : u_T := fun k => match k with
  | 0 => ("RouteWall$Watch", "times", "[I", true)
  | 1 => ("RouteWall$Watch", "wentOut", "[I", true)
  | _ => ("RouteWall$Watch", "cameIn", "[I", true)
def tyX9 : Nat → FieldType := fun k => match k with
  | 0 => .array .int
  | 1 => .array .int
  | _ => .array .int
abbrev wsX90 : List Cond := u_ws RX9 TX9 3
theorem nmX9 : ∀ a, a < 3 → ∀ b, b < 3 → a ≠ b → (TX9 a).2.1 ≠ (TX9 b).2.1 := by decide +kernel
theorem tyX9_ok : ∀ k, k < 3 → parseFieldDescriptor (TX9 k).2.2.1 = some (tyX9 k) := by decide +kernel
abbrev cX9_init : ByteArray := prog_11_method_1_code
def yX9_init : MethodName := ⟨RX9, "<init>", "()V"⟩
abbrev cX9_clear : ByteArray := prog_11_method_2_code
def yX9_clear : MethodName := ⟨RX9, "clear", "()V"⟩
abbrev cX9_latest : ByteArray := prog_11_method_3_code
def yX9_latest : MethodName := ⟨RX9, "latest", "(I)I"⟩
abbrev cX9_isOut : ByteArray := prog_11_method_4_code
def yX9_isOut : MethodName := ⟨RX9, "isOut", "(I)Z"⟩
abbrev cX9_goOut : ByteArray := prog_11_method_5_code
def yX9_goOut : MethodName := ⟨RX9, "goOut", "(II)V"⟩
abbrev cX9_comeIn : ByteArray := prog_11_method_6_code
def yX9_comeIn : MethodName := ⟨RX9, "comeIn", "(II)V"⟩
abbrev cX9_hasSeen : ByteArray := prog_11_method_7_code
def yX9_hasSeen : MethodName := ⟨RX9, "hasSeen", "(LRouteWall$Tries;IIII)Z"⟩
abbrev cX9_wasOut : ByteArray := prog_11_method_8_code
def yX9_wasOut : MethodName := ⟨RX9, "wasOut", "(IIII)Z"⟩
def RX10 : String := "RouteWall"
def TX10 : u_T := fun k => match k with
  | 0 => ("RouteWall", "tape", "[I", true)
  | 1 => ("RouteWall", "taped", "I", false)
  | 2 => ("RouteWall", "laws", "LRouteWall$Laws;", true)
  | 3 => ("RouteWall", "reader", "LRouteWall$LawReader;", true)
  | 4 => ("RouteWall", "wall", "LRouteWall$Wall;", true)
  | 5 => ("RouteWall", "field", "LRouteWall$Field;", true)
  | 6 => ("RouteWall", "tries", "LRouteWall$Tries;", true)
  | 7 => ("RouteWall", "appeals", "LRouteWall$Appeals;", true)
  | 8 => ("RouteWall", "watch", "LRouteWall$Watch;", true)
  | 9 => ("RouteWall", "results", "LRouteWall$Results;", true)
  | 10 => ("RouteWall", "state", "I", false)
  | 11 => ("RouteWall", "time", "I", false)
  | 12 => ("RouteWall", "faultKind", "I", false)
  | _ => ("RouteWall", "faultPlace", "I", false)
def tyX10 : Nat → FieldType := fun k => match k with
  | 0 => .array .int
  | 1 => .int
  | 2 => .object "RouteWall$Laws"
  | 3 => .object "RouteWall$LawReader"
  | 4 => .object "RouteWall$Wall"
  | 5 => .object "RouteWall$Field"
  | 6 => .object "RouteWall$Tries"
  | 7 => .object "RouteWall$Appeals"
  | 8 => .object "RouteWall$Watch"
  | 9 => .object "RouteWall$Results"
  | 10 => .int
  | 11 => .int
  | 12 => .int
  | _ => .int
abbrev wsX100 : List Cond := u_ws RX10 TX10 14
theorem nmX10 : ∀ a, a < 14 → ∀ b, b < 14 → a ≠ b → (TX10 a).2.1 ≠ (TX10 b).2.1 := by decide +kernel
theorem tyX10_ok : ∀ k, k < 14 → parseFieldDescriptor (TX10 k).2.2.1 = some (tyX10 k) := by decide +kernel
abbrev cX10_init : ByteArray := prog_1_method_1_code
def yX10_init : MethodName := ⟨RX10, "<init>", "()V"⟩
abbrev cX10_status : ByteArray := prog_1_method_2_code
def yX10_status : MethodName := ⟨RX10, "status", "()I"⟩
abbrev cX10_feed : ByteArray := prog_1_method_3_code
def yX10_feed : MethodName := ⟨RX10, "feed", "(IIIII)I"⟩
abbrev cX10_load : ByteArray := prog_1_method_4_code
def yX10_load : MethodName := ⟨RX10, "load", "(I)I"⟩
abbrev cX10_fault : ByteArray := prog_1_method_5_code
def yX10_fault : MethodName := ⟨RX10, "fault", "(I)I"⟩
abbrev cX10_climber : ByteArray := prog_1_method_6_code
def yX10_climber : MethodName := ⟨RX10, "climber", "()I"⟩
abbrev cX10_route : ByteArray := prog_1_method_7_code
def yX10_route : MethodName := ⟨RX10, "route", "(IIIIII)Z"⟩
abbrev cX10_told : ByteArray := prog_1_method_8_code
def yX10_told : MethodName := ⟨RX10, "told", "(III)I"⟩
abbrev cX10_begin : ByteArray := prog_1_method_9_code
def yX10_begin : MethodName := ⟨RX10, "begin", "(III)I"⟩
abbrev cX10_reach : ByteArray := prog_1_method_10_code
def yX10_reach : MethodName := ⟨RX10, "reach", "(III)I"⟩
abbrev cX10_fall : ByteArray := prog_1_method_11_code
def yX10_fall : MethodName := ⟨RX10, "fall", "(IIZ)Z"⟩
abbrev cX10_out : ByteArray := prog_1_method_12_code
def yX10_out : MethodName := ⟨RX10, "out", "(IIZ)Z"⟩
abbrev cX10_clock : ByteArray := prog_1_method_13_code
def yX10_clock : MethodName := ⟨RX10, "clock", "(I)Z"⟩
abbrev cX10_now : ByteArray := prog_1_method_14_code
def yX10_now : MethodName := ⟨RX10, "now", "()I"⟩
abbrev cX10_tried : ByteArray := prog_1_method_15_code
def yX10_tried : MethodName := ⟨RX10, "tried", "(II)I"⟩
abbrev cX10_seen : ByteArray := prog_1_method_16_code
def yX10_seen : MethodName := ⟨RX10, "seen", "(II)I"⟩
abbrev cX10_ready : ByteArray := prog_1_method_17_code
def yX10_ready : MethodName := ⟨RX10, "ready", "(I)I"⟩
abbrev cX10_appeal : ByteArray := prog_1_method_18_code
def yX10_appeal : MethodName := ⟨RX10, "appeal", "(III)Z"⟩
abbrev cX10_of : ByteArray := prog_1_method_19_code
def yX10_of : MethodName := ⟨RX10, "of", "(IIIII)I"⟩
abbrev cX10_key : ByteArray := prog_1_method_20_code
def yX10_key : MethodName := ⟨RX10, "key", "(IIII)J"⟩
abbrev cX10_rank : ByteArray := prog_1_method_21_code
def yX10_rank : MethodName := ⟨RX10, "rank", "(III)I"⟩
abbrev cX10_advance : ByteArray := prog_1_method_22_code
def yX10_advance : MethodName := ⟨RX10, "advance", "(II)I"⟩
abbrev cX10_order : ByteArray := prog_1_method_23_code
def yX10_order : MethodName := ⟨RX10, "order", "(II)I"⟩
abbrev cX10_parts : ByteArray := prog_1_method_24_code
def yX10_parts : MethodName := ⟨RX10, "parts", "(III)I"⟩
abbrev cX10_choose : ByteArray := prog_1_method_25_code
def yX10_choose : MethodName := ⟨RX10, "choose", "(III)I"⟩
abbrev cX10_refuse : ByteArray := prog_1_method_26_code
def yX10_refuse : MethodName := ⟨RX10, "refuse", "(I)I"⟩
abbrev cX10_answer : ByteArray := prog_1_method_27_code
def yX10_answer : MethodName := ⟨RX10, "answer", "(I)I"⟩
abbrev cX10_deny : ByteArray := prog_1_method_28_code
def yX10_deny : MethodName := ⟨RX10, "deny", "(I)Z"⟩
abbrev cX10_grant : ByteArray := prog_1_method_29_code
def yX10_grant : MethodName := ⟨RX10, "grant", "()Z"⟩
abbrev cX10_isDay : ByteArray := prog_1_method_30_code
def yX10_isDay : MethodName := ⟨RX10, "isDay", "(I)Z"⟩
abbrev cX10_putOnTape : ByteArray := prog_1_method_31_code
def yX10_putOnTape : MethodName := ⟨RX10, "putOnTape", "(I)V"⟩
abbrev cX10_zonesCanBe : ByteArray := prog_1_method_32_code
def yX10_zonesCanBe : MethodName := ⟨RX10, "zonesCanBe", "(IIII)Z"⟩
abbrev cX10_zoneCanBe : ByteArray := prog_1_method_33_code
def yX10_zoneCanBe : MethodName := ⟨RX10, "zoneCanBe", "(IIIZ)Z"⟩
abbrev cX10_passTo : ByteArray := prog_1_method_34_code
def yX10_passTo : MethodName := ⟨RX10, "passTo", "(I)I"⟩
abbrev cX10_whyNotBegin : ByteArray := prog_1_method_35_code
def yX10_whyNotBegin : MethodName := ⟨RX10, "whyNotBegin", "(II)I"⟩
abbrev cX10_hasSeen : ByteArray := prog_1_method_36_code
def yX10_hasSeen : MethodName := ⟨RX10, "hasSeen", "(II)Z"⟩
abbrev cX10_restOver : ByteArray := prog_1_method_37_code
def yX10_restOver : MethodName := ⟨RX10, "restOver", "(I)I"⟩
def RX11 : String := "RouteWallModel"
def TX11 : u_T := fun k => match k with
  | 0 => ("RouteWallModel", "status", "I", false)
  | 1 => ("RouteWallModel", "thrown", "I", false)
  | 2 => ("RouteWallModel", "tape", "[B", true)
  | 3 => ("RouteWallModel", "taped", "I", false)
  | 4 => ("RouteWallModel", "end", "I", false)
  | 5 => ("RouteWallModel", "faultKind", "I", false)
  | 6 => ("RouteWallModel", "faultAt", "I", false)
  | 7 => ("RouteWallModel", "bad", "I", false)
  | 8 => ("RouteWallModel", "badAt", "I", false)
  | 9 => ("RouteWallModel", "sort", "I", false)
  | 10 => ("RouteWallModel", "at", "I", false)
  | 11 => ("RouteWallModel", "behind", "I", false)
  | 12 => ("RouteWallModel", "number", "I", false)
  | 13 => ("RouteWallModel", "word", "J", false)
  | 14 => ("RouteWallModel", "rounds", "I", false)
  | 15 => ("RouteWallModel", "parts", "I", false)
  | 16 => ("RouteWallModel", "keys", "I", false)
  | 17 => ("RouteWallModel", "newRounds", "I", false)
  | 18 => ("RouteWallModel", "newParts", "I", false)
  | 19 => ("RouteWallModel", "newKeys", "I", false)
  | 20 => ("RouteWallModel", "goesBack", "Z", false)
  | 21 => ("RouteWallModel", "newBack", "Z", false)
  | 22 => ("RouteWallModel", "routes", "[I", true)
  | 23 => ("RouteWallModel", "tries", "[I", true)
  | 24 => ("RouteWallModel", "seconds", "[I", true)
  | 25 => ("RouteWallModel", "rest", "[I", true)
  | 26 => ("RouteWallModel", "newRoutes", "[I", true)
  | 27 => ("RouteWallModel", "newTries", "[I", true)
  | 28 => ("RouteWallModel", "newSeconds", "[I", true)
  | 29 => ("RouteWallModel", "newRest", "[I", true)
  | 30 => ("RouteWallModel", "part", "[I", true)
  | 31 => ("RouteWallModel", "partNumber", "[I", true)
  | 32 => ("RouteWallModel", "newPart", "[I", true)
  | 33 => ("RouteWallModel", "newNumber", "[I", true)
  | 34 => ("RouteWallModel", "key", "[I", true)
  | 35 => ("RouteWallModel", "newKey", "[I", true)
  | 36 => ("RouteWallModel", "isUp", "[Z", true)
  | 37 => ("RouteWallModel", "newUp", "[Z", true)
  | 38 => ("RouteWallModel", "waits", "[I", true)
  | 39 => ("RouteWallModel", "waiting", "I", false)
  | 40 => ("RouteWallModel", "deep", "I", false)
  | 41 => ("RouteWallModel", "holds", "[I", true)
  | 42 => ("RouteWallModel", "zones", "[I", true)
  | 43 => ("RouteWallModel", "begun", "[I", true)
  | 44 => ("RouteWallModel", "climbers", "I", false)
  | 45 => ("RouteWallModel", "open", "I", false)
  | 46 => ("RouteWallModel", "now", "I", false)
  | 47 => ("RouteWallModel", "isIn", "[Z", true)
  | 48 => ("RouteWallModel", "order", "[I", true)
  | 49 => ("RouteWallModel", "orderMany", "[I", true)
  | 50 => ("RouteWallModel", "tried", "I", false)
  | 51 => ("RouteWallModel", "who", "[I", true)
  | 52 => ("RouteWallModel", "where", "[I", true)
  | 53 => ("RouteWallModel", "which", "[I", true)
  | 54 => ("RouteWallModel", "from", "[I", true)
  | 55 => ("RouteWallModel", "to", "[I", true)
  | 56 => ("RouteWallModel", "hold", "[I", true)
  | 57 => ("RouteWallModel", "how", "[I", true)
  | 58 => ("RouteWallModel", "appeals", "I", false)
  | 59 => ("RouteWallModel", "appealTry", "[I", true)
  | 60 => ("RouteWallModel", "appealHold", "[I", true)
  | 61 => ("RouteWallModel", "appealDay", "[I", true)
  | 62 => ("RouteWallModel", "outs", "[I", true)
  | 63 => ("RouteWallModel", "outFrom", "[I", true)
  | 64 => ("RouteWallModel", "outTo", "[I", true)
  | 65 => ("RouteWallModel", "counted", "I", false)
  | 66 => ("RouteWallModel", "facts", "[I", true)
  | 67 => ("RouteWallModel", "pile", "[J", true)
  | 68 => ("RouteWallModel", "ranks", "[I", true)
  | _ => ("RouteWallModel", "sums", "[J", true)
def tyX11 : Nat → FieldType := fun k => match k with
  | 0 => .int
  | 1 => .int
  | 2 => .array .byte
  | 3 => .int
  | 4 => .int
  | 5 => .int
  | 6 => .int
  | 7 => .int
  | 8 => .int
  | 9 => .int
  | 10 => .int
  | 11 => .int
  | 12 => .int
  | 13 => .long
  | 14 => .int
  | 15 => .int
  | 16 => .int
  | 17 => .int
  | 18 => .int
  | 19 => .int
  | 20 => .boolean
  | 21 => .boolean
  | 22 => .array .int
  | 23 => .array .int
  | 24 => .array .int
  | 25 => .array .int
  | 26 => .array .int
  | 27 => .array .int
  | 28 => .array .int
  | 29 => .array .int
  | 30 => .array .int
  | 31 => .array .int
  | 32 => .array .int
  | 33 => .array .int
  | 34 => .array .int
  | 35 => .array .int
  | 36 => .array .boolean
  | 37 => .array .boolean
  | 38 => .array .int
  | 39 => .int
  | 40 => .int
  | 41 => .array .int
  | 42 => .array .int
  | 43 => .array .int
  | 44 => .int
  | 45 => .int
  | 46 => .int
  | 47 => .array .boolean
  | 48 => .array .int
  | 49 => .array .int
  | 50 => .int
  | 51 => .array .int
  | 52 => .array .int
  | 53 => .array .int
  | 54 => .array .int
  | 55 => .array .int
  | 56 => .array .int
  | 57 => .array .int
  | 58 => .int
  | 59 => .array .int
  | 60 => .array .int
  | 61 => .array .int
  | 62 => .array .int
  | 63 => .array .int
  | 64 => .array .int
  | 65 => .int
  | 66 => .array .int
  | 67 => .array .long
  | 68 => .array .int
  | _ => .array .long
abbrev wsX110 : List Cond := u_ws RX11 TX11 70
theorem nmX11 : ∀ a, a < 70 → ∀ b, b < 70 → a ≠ b → (TX11 a).2.1 ≠ (TX11 b).2.1 := by decide +kernel
theorem tyX11_ok : ∀ k, k < 70 → parseFieldDescriptor (TX11 k).2.2.1 = some (tyX11 k) := by decide +kernel
abbrev cX11_init : ByteArray := prog_13_method_1_code
def yX11_init : MethodName := ⟨RX11, "<init>", "()V"⟩
abbrev cX11_status : ByteArray := prog_13_method_3_code
def yX11_status : MethodName := ⟨RX11, "status", "()I"⟩
abbrev cX11_refuse : ByteArray := prog_13_method_4_code
def yX11_refuse : MethodName := ⟨RX11, "refuse", "(I)I"⟩
abbrev cX11_no : ByteArray := prog_13_method_5_code
def yX11_no : MethodName := ⟨RX11, "no", "(I)Z"⟩
abbrev cX11_look : ByteArray := prog_13_method_6_code
def yX11_look : MethodName := ⟨RX11, "look", "(I)I"⟩
abbrev cX11_isLetter : ByteArray := prog_13_method_7_code
def yX11_isLetter : MethodName := ⟨RX11, "isLetter", "(I)Z"⟩
abbrev cX11_isDigit : ByteArray := prog_13_method_8_code
def yX11_isDigit : MethodName := ⟨RX11, "isDigit", "(I)Z"⟩
abbrev cX11_next : ByteArray := prog_13_method_9_code
def yX11_next : MethodName := ⟨RX11, "next", "()V"⟩
abbrev cX11_spelled : ByteArray := prog_13_method_10_code
def yX11_spelled : MethodName := ⟨RX11, "spelled", "(IIIIIII)J"⟩
abbrev cX11_isWord : ByteArray := prog_13_method_11_code
def yX11_isWord : MethodName := ⟨RX11, "isWord", "(J)Z"⟩
abbrev cX11_isSign : ByteArray := prog_13_method_12_code
def yX11_isSign : MethodName := ⟨RX11, "isSign", "(I)Z"⟩
abbrev cX11_fail : ByteArray := prog_13_method_13_code
def yX11_fail : MethodName := ⟨RX11, "fail", "(II)V"⟩
abbrev cX11_wrong : ByteArray := prog_13_method_14_code
def yX11_wrong : MethodName := ⟨RX11, "wrong", "()V"⟩
abbrev cX11_numberOf : ByteArray := prog_13_method_15_code
def yX11_numberOf : MethodName := ⟨RX11, "numberOf", "(II)I"⟩
abbrev cX11_ends : ByteArray := prog_13_method_16_code
def yX11_ends : MethodName := ⟨RX11, "ends", "()V"⟩
abbrev cX11_readText : ByteArray := prog_13_method_17_code
def yX11_readText : MethodName := ⟨RX11, "readText", "()V"⟩
abbrev cX11_lawOf : ByteArray := prog_13_method_18_code
def yX11_lawOf : MethodName := ⟨RX11, "lawOf", "()I"⟩
abbrev cX11_readLaw : ByteArray := prog_13_method_19_code
def yX11_readLaw : MethodName := ⟨RX11, "readLaw", "(I)V"⟩
abbrev cX11_readKeys : ByteArray := prog_13_method_20_code
def yX11_readKeys : MethodName := ⟨RX11, "readKeys", "()V"⟩
abbrev cX11_nameOf : ByteArray := prog_13_method_21_code
def yX11_nameOf : MethodName := ⟨RX11, "nameOf", "()I"⟩
abbrev cX11_counts : ByteArray := prog_13_method_22_code
def yX11_counts : MethodName := ⟨RX11, "counts", "()V"⟩
abbrev cX11_puts : ByteArray := prog_13_method_23_code
def yX11_puts : MethodName := ⟨RX11, "puts", "(II)V"⟩
abbrev cX11_deeper : ByteArray := prog_13_method_24_code
def yX11_deeper : MethodName := ⟨RX11, "deeper", "()V"⟩
abbrev cX11_waitFor : ByteArray := prog_13_method_25_code
def yX11_waitFor : MethodName := ⟨RX11, "waitFor", "(I)V"⟩
abbrev cX11_strong : ByteArray := prog_13_method_26_code
def yX11_strong : MethodName := ⟨RX11, "strong", "(I)I"⟩
abbrev cX11_reduce : ByteArray := prog_13_method_27_code
def yX11_reduce : MethodName := ⟨RX11, "reduce", "(I)V"⟩
abbrev cX11_readExpression : ByteArray := prog_13_method_28_code
def yX11_readExpression : MethodName := ⟨RX11, "readExpression", "()V"⟩
abbrev cX11_isOpen : ByteArray := prog_13_method_29_code
def yX11_isOpen : MethodName := ⟨RX11, "isOpen", "()Z"⟩
abbrev cX11_wholes : ByteArray := prog_13_method_30_code
def yX11_wholes : MethodName := ⟨RX11, "wholes", "()V"⟩
abbrev cX11_readFactor : ByteArray := prog_13_method_31_code
def yX11_readFactor : MethodName := ⟨RX11, "readFactor", "()Z"⟩
abbrev cX11_feed : ByteArray := prog_13_method_32_code
def yX11_feed : MethodName := ⟨RX11, "feed", "(IIIII)I"⟩
abbrev cX11_lay : ByteArray := prog_13_method_33_code
def yX11_lay : MethodName := ⟨RX11, "lay", "(I)V"⟩
abbrev cX11_load : ByteArray := prog_13_method_34_code
def yX11_load : MethodName := ⟨RX11, "load", "(I)I"⟩
abbrev cX11_fault : ByteArray := prog_13_method_35_code
def yX11_fault : MethodName := ⟨RX11, "fault", "(I)I"⟩
abbrev cX11_isRound : ByteArray := prog_13_method_36_code
def yX11_isRound : MethodName := ⟨RX11, "isRound", "(I)Z"⟩
abbrev cX11_isRoute : ByteArray := prog_13_method_37_code
def yX11_isRoute : MethodName := ⟨RX11, "isRoute", "(II)Z"⟩
abbrev cX11_isClimber : ByteArray := prog_13_method_38_code
def yX11_isClimber : MethodName := ⟨RX11, "isClimber", "(I)Z"⟩
abbrev cX11_at : ByteArray := prog_13_method_39_code
def yX11_at : MethodName := ⟨RX11, "at", "(II)I"⟩
abbrev cX11_climber : ByteArray := prog_13_method_40_code
def yX11_climber : MethodName := ⟨RX11, "climber", "()I"⟩
abbrev cX11_route : ByteArray := prog_13_method_41_code
def yX11_route : MethodName := ⟨RX11, "route", "(IIIIII)Z"⟩
abbrev cX11_told : ByteArray := prog_13_method_42_code
def yX11_told : MethodName := ⟨RX11, "told", "(III)I"⟩
abbrev cX11_goesTo : ByteArray := prog_13_method_43_code
def yX11_goesTo : MethodName := ⟨RX11, "goesTo", "(I)V"⟩
abbrev cX11_clocked : ByteArray := prog_13_method_44_code
def yX11_clocked : MethodName := ⟨RX11, "clocked", "(I)I"⟩
abbrev cX11_openTry : ByteArray := prog_13_method_45_code
def yX11_openTry : MethodName := ⟨RX11, "openTry", "(I)I"⟩
abbrev cX11_hasSeen : ByteArray := prog_13_method_46_code
def yX11_hasSeen : MethodName := ⟨RX11, "hasSeen", "(II)Z"⟩
abbrev cX11_readyAt : ByteArray := prog_13_method_47_code
def yX11_readyAt : MethodName := ⟨RX11, "readyAt", "(I)I"⟩
abbrev cX11_begin : ByteArray := prog_13_method_48_code
def yX11_begin : MethodName := ⟨RX11, "begin", "(III)I"⟩
abbrev cX11_reach : ByteArray := prog_13_method_49_code
def yX11_reach : MethodName := ⟨RX11, "reach", "(III)I"⟩
abbrev cX11_fall : ByteArray := prog_13_method_50_code
def yX11_fall : MethodName := ⟨RX11, "fall", "(IIZ)Z"⟩
abbrev cX11_out : ByteArray := prog_13_method_51_code
def yX11_out : MethodName := ⟨RX11, "out", "(IIZ)Z"⟩
abbrev cX11_clock : ByteArray := prog_13_method_52_code
def yX11_clock : MethodName := ⟨RX11, "clock", "(I)Z"⟩
abbrev cX11_now : ByteArray := prog_13_method_53_code
def yX11_now : MethodName := ⟨RX11, "now", "()I"⟩
abbrev cX11_tried : ByteArray := prog_13_method_54_code
def yX11_tried : MethodName := ⟨RX11, "tried", "(II)I"⟩
abbrev cX11_seen : ByteArray := prog_13_method_55_code
def yX11_seen : MethodName := ⟨RX11, "seen", "(II)I"⟩
abbrev cX11_ready : ByteArray := prog_13_method_56_code
def yX11_ready : MethodName := ⟨RX11, "ready", "(I)I"⟩
abbrev cX11_isDay : ByteArray := prog_13_method_57_code
def yX11_isDay : MethodName := ⟨RX11, "isDay", "(I)Z"⟩
abbrev cX11_appeal : ByteArray := prog_13_method_58_code
def yX11_appeal : MethodName := ⟨RX11, "appeal", "(III)Z"⟩
abbrev cX11_holdOf : ByteArray := prog_13_method_59_code
def yX11_holdOf : MethodName := ⟨RX11, "holdOf", "(II)I"⟩
abbrev cX11_factsOf : ByteArray := prog_13_method_60_code
def yX11_factsOf : MethodName := ⟨RX11, "factsOf", "(IIII)V"⟩
abbrev cX11_cut : ByteArray := prog_13_method_61_code
def yX11_cut : MethodName := ⟨RX11, "cut", "(J)J"⟩
abbrev cX11_pointsOf : ByteArray := prog_13_method_62_code
def yX11_pointsOf : MethodName := ⟨RX11, "pointsOf", "(IIII)I"⟩
abbrev cX11_of : ByteArray := prog_13_method_63_code
def yX11_of : MethodName := ⟨RX11, "of", "(IIIII)I"⟩
abbrev cX11_keyOf : ByteArray := prog_13_method_64_code
def yX11_keyOf : MethodName := ⟨RX11, "keyOf", "(IIII)J"⟩
abbrev cX11_isIn : ByteArray := prog_13_method_65_code
def yX11_isIn : MethodName := ⟨RX11, "isIn", "(II)Z"⟩
abbrev cX11_key : ByteArray := prog_13_method_66_code
def yX11_key : MethodName := ⟨RX11, "key", "(IIII)J"⟩
abbrev cX11_isAhead : ByteArray := prog_13_method_67_code
def yX11_isAhead : MethodName := ⟨RX11, "isAhead", "(IIII)Z"⟩
abbrev cX11_rankOf : ByteArray := prog_13_method_68_code
def yX11_rankOf : MethodName := ⟨RX11, "rankOf", "(III)I"⟩
abbrev cX11_rank : ByteArray := prog_13_method_69_code
def yX11_rank : MethodName := ⟨RX11, "rank", "(III)I"⟩
abbrev cX11_advance : ByteArray := prog_13_method_70_code
def yX11_advance : MethodName := ⟨RX11, "advance", "(II)I"⟩
abbrev cX11_order : ByteArray := prog_13_method_71_code
def yX11_order : MethodName := ⟨RX11, "order", "(II)I"⟩
abbrev cX11_partsOf : ByteArray := prog_13_method_72_code
def yX11_partsOf : MethodName := ⟨RX11, "partsOf", "(III)I"⟩
abbrev cX11_parts : ByteArray := prog_13_method_73_code
def yX11_parts : MethodName := ⟨RX11, "parts", "(III)I"⟩
abbrev cX11_choose : ByteArray := prog_13_method_74_code
def yX11_choose : MethodName := ⟨RX11, "choose", "(III)I"⟩
def RJ6 : String := "java/lang/Integer"
def TJ6 : u_T := fun k => match k with
  | _ => ("", "", "", false)
def tyJ6 : Nat → FieldType := fun k => match k with
  | _ => .int
abbrev wsJ60 : List Cond := u_ws RJ6 TJ6 0
theorem nmJ6 : ∀ a, a < 0 → ∀ b, b < 0 → a ≠ b → (TJ6 a).2.1 ≠ (TJ6 b).2.1 := by decide +kernel
theorem tyJ6_ok : ∀ k, k < 0 → parseFieldDescriptor (TJ6 k).2.2.1 = some (tyJ6 k) := by decide +kernel
abbrev cJ6_bitCount_0f7a4 : ByteArray := prog_14_method_49_code
def yJ6_bitCount_0f7a4 : MethodName := ⟨RJ6, "bitCount", "(I)I"⟩
def RJ9 : String := "java/lang/Math"
def TJ9 : u_T := fun k => match k with
  | _ => ("", "", "", false)
def tyJ9 : Nat → FieldType := fun k => match k with
  | _ => .int
abbrev wsJ90 : List Cond := u_ws RJ9 TJ9 0
theorem nmJ9 : ∀ a, a < 0 → ∀ b, b < 0 → a ≠ b → (TJ9 a).2.1 ≠ (TJ9 b).2.1 := by decide +kernel
theorem tyJ9_ok : ∀ k, k < 0 → parseFieldDescriptor (TJ9 k).2.2.1 = some (tyJ9 k) := by decide +kernel
abbrev cJ9_max_7cf53 : ByteArray := prog_15_method_65_code
def yJ9_max_7cf53 : MethodName := ⟨RJ9, "max", "(II)I"⟩
abbrev cJ9_max_f86c9 : ByteArray := prog_15_method_66_code
def yJ9_max_f86c9 : MethodName := ⟨RJ9, "max", "(JJ)J"⟩
abbrev cJ9_min_7cf53 : ByteArray := prog_15_method_69_code
def yJ9_min_7cf53 : MethodName := ⟨RJ9, "min", "(II)I"⟩
abbrev cJ9_min_f86c9 : ByteArray := prog_15_method_70_code
def yJ9_min_f86c9 : MethodName := ⟨RJ9, "min", "(JJ)J"⟩
def RJ0 : String := "java/lang/String"
def TJ0 : u_T := fun k => match k with
  | _ => ("", "", "", false)
def tyJ0 : Nat → FieldType := fun k => match k with
  | _ => .int
abbrev wsJ00 : List Cond := u_ws RJ0 TJ0 0
theorem nmJ0 : ∀ a, a < 0 → ∀ b, b < 0 → a ≠ b → (TJ0 a).2.1 ≠ (TJ0 b).2.1 := by decide +kernel
theorem tyJ0_ok : ∀ k, k < 0 → parseFieldDescriptor (TJ0 k).2.2.1 = some (tyJ0 k) := by decide +kernel
abbrev cJ0_length_8abf5 : ByteArray := prog_16_method_54_code
def yJ0_length_8abf5 : MethodName := ⟨RJ0, "length", "()I"⟩
abbrev cJ0_charAt_5068e : ByteArray := prog_16_method_56_code
def yJ0_charAt_5068e : MethodName := ⟨RJ0, "charAt", "(I)C"⟩
abbrev cJ0_coder_7d493 : ByteArray := prog_16_method_152_code
def yJ0_coder_7d493 : MethodName := ⟨RJ0, "coder", "()B"⟩
abbrev cJ0_isLatin1_aae02 : ByteArray := prog_16_method_154_code
def yJ0_isLatin1_aae02 : MethodName := ⟨RJ0, "isLatin1", "()Z"⟩
abbrev cJ0_checkIndex_df160 : ByteArray := prog_16_method_155_code
def yJ0_checkIndex_df160 : MethodName := ⟨RJ0, "checkIndex", "(II)V"⟩
def RJ1 : String := "java/lang/StringLatin1"
def TJ1 : u_T := fun k => match k with
  | _ => ("", "", "", false)
def tyJ1 : Nat → FieldType := fun k => match k with
  | _ => .int
abbrev wsJ10 : List Cond := u_ws RJ1 TJ1 0
theorem nmJ1 : ∀ a, a < 0 → ∀ b, b < 0 → a ≠ b → (TJ1 a).2.1 ≠ (TJ1 b).2.1 := by decide +kernel
theorem tyJ1_ok : ∀ k, k < 0 → parseFieldDescriptor (TJ1 k).2.2.1 = some (tyJ1 k) := by decide +kernel
abbrev cJ1_charAt_3b067 : ByteArray := prog_17_method_2_code
def yJ1_charAt_3b067 : MethodName := ⟨RJ1, "charAt", "([BI)C"⟩
def RJ2 : String := "java/lang/StringUTF16"
def TJ2 : u_T := fun k => match k with
  | _ => ("", "", "", false)
def tyJ2 : Nat → FieldType := fun k => match k with
  | _ => .int
abbrev wsJ20 : List Cond := u_ws RJ2 TJ2 0
theorem nmJ2 : ∀ a, a < 0 → ∀ b, b < 0 → a ≠ b → (TJ2 a).2.1 ≠ (TJ2 b).2.1 := by decide +kernel
theorem tyJ2_ok : ∀ k, k < 0 → parseFieldDescriptor (TJ2 k).2.2.1 = some (tyJ2 k) := by decide +kernel
abbrev cJ2_getChar_3b067 : ByteArray := prog_18_method_5_code
def yJ2_getChar_3b067 : MethodName := ⟨RJ2, "getChar", "([BI)C"⟩
abbrev cJ2_length_9d52b : ByteArray := prog_18_method_6_code
def yJ2_length_9d52b : MethodName := ⟨RJ2, "length", "([B)I"⟩
abbrev cJ2_charAt_3b067 : ByteArray := prog_18_method_83_code
def yJ2_charAt_3b067 : MethodName := ⟨RJ2, "charAt", "([BI)C"⟩
abbrev cJ2_checkIndex_2214a : ByteArray := prog_18_method_91_code
def yJ2_checkIndex_2214a : MethodName := ⟨RJ2, "checkIndex", "(I[B)V"⟩
def RJ10 : String := "java/lang/System"
def TJ10 : u_T := fun k => match k with
  | _ => ("", "", "", false)
def tyJ10 : Nat → FieldType := fun k => match k with
  | _ => .int
abbrev wsJ100 : List Cond := u_ws RJ10 TJ10 0
theorem nmJ10 : ∀ a, a < 0 → ∀ b, b < 0 → a ≠ b → (TJ10 a).2.1 ≠ (TJ10 b).2.1 := by decide +kernel
theorem tyJ10_ok : ∀ k, k < 0 → parseFieldDescriptor (TJ10 k).2.2.1 = some (tyJ10 k) := by decide +kernel
def RJ7 : String := "java/util/Arrays"
def TJ7 : u_T := fun k => match k with
  | _ => ("", "", "", false)
def tyJ7 : Nat → FieldType := fun k => match k with
  | _ => .int
abbrev wsJ70 : List Cond := u_ws RJ7 TJ7 0
theorem nmJ7 : ∀ a, a < 0 → ∀ b, b < 0 → a ≠ b → (TJ7 a).2.1 ≠ (TJ7 b).2.1 := by decide +kernel
theorem tyJ7_ok : ∀ k, k < 0 → parseFieldDescriptor (TJ7 k).2.2.1 = some (tyJ7 k) := by decide +kernel
abbrev cJ7_fill_d0a16 : ByteArray := prog_20_method_101_code
def yJ7_fill_d0a16 : MethodName := ⟨RJ7, "fill", "([JJ)V"⟩
abbrev cJ7_fill_53178 : ByteArray := prog_20_method_103_code
def yJ7_fill_53178 : MethodName := ⟨RJ7, "fill", "([II)V"⟩
def RJ3 : String := "jdk/internal/util/Preconditions"
def TJ3 : u_T := fun k => match k with
  | _ => ("", "", "", false)
def tyJ3 : Nat → FieldType := fun k => match k with
  | _ => .int
abbrev wsJ30 : List Cond := u_ws RJ3 TJ3 0
theorem nmJ3 : ∀ a, a < 0 → ∀ b, b < 0 → a ≠ b → (TJ3 a).2.1 ≠ (TJ3 b).2.1 := by decide +kernel
theorem tyJ3_ok : ∀ k, k < 0 → parseFieldDescriptor (TJ3 k).2.2.1 = some (tyJ3 k) := by decide +kernel
abbrev cJ3_checkIndex_8e157 : ByteArray := prog_21_method_11_code
def yJ3_checkIndex_8e157 : MethodName := ⟨RJ3, "checkIndex", "(IILjava/util/function/BiFunction;)I"⟩
def RL : String := "RouteWallLaw"
abbrev cL_law : ByteArray := code
def yL_law : MethodName := ⟨RL, "law", "([I)Z"⟩
abbrev vwCl : List vw_C := [(RX0, TX0, 4), (RX1, TX1, 6), (RX2, TX2, 4), (RX3, TX3, 8), (RX4, TX4, 10), (RX5, TX5, 15), (RX6, TX6, 5), (RX7, TX7, 9), (RX8, TX8, 3), (RX9, TX9, 3), (RX10, TX10, 14), (RX11, TX11, 70)]
end
section
theorem goodIn_r {big : List Cond} (ws : List Cond) (ps : List Nat) (hp : ws = ps.filterMap (fun i => big[i]?)) (h : ws.all goodWord = true) : GoodIn big ws := by
  intro w hw
  have h1 := List.all_eq_true.mp h w hw
  rw [hp] at hw
  obtain ⟨i, -, hi⟩ := List.mem_filterMap.mp hw
  have hm : w ∈ big := by first | exact List.mem_of_getElem? hi | exact List.getElem?_mem hi
  exact ⟨hm, good_of_word h1⟩
theorem goodIn_app {big a b : List Cond} (ha : GoodIn big a) (hb : GoodIn big b) : GoodIn big (a ++ b) := fun w h => (List.mem_append.mp h).elim (ha w) (hb w)
theorem goodIn_ca {big a b : List Cond} {c : Cond} (ha : GoodIn big (c :: a)) (hb : GoodIn big b) : GoodIn big (c :: (a ++ b)) := fun w h => (List.mem_cons.mp h).elim (fun e => ha w (List.mem_cons.mpr (Or.inl e))) (fun h => (List.mem_append.mp h).elim (fun h => ha w (List.mem_cons.mpr (Or.inr h))) (hb w))
theorem goodIn_sub {big ws : List Cond} (hm : ∀ w ∈ ws, w ∈ big) (h : ws.all goodWord = true) : GoodIn big ws := fun w hw => ⟨hm w hw, good_of_word (List.all_eq_true.mp h w hw)⟩
/-! ===== END ===== -/
/-! the words of the tables that a call may carry, and each of them by its place -/
def gWs : List Cond := lw_tbl.filter goodWord
theorem gWs_in {w : Cond} (h : w ∈ lw_tbl) (hg : goodWord w = true) : w ∈ gWs := List.mem_filter.mpr ⟨h, hg⟩
theorem gWs_tbl {w : Cond} (h : w ∈ gWs) : w ∈ lw_tbl := (List.mem_filter.mp h).1
theorem gWs_good {w : Cond} (h : w ∈ gWs) : (w.onTables && w.keeps) = true ∨ ∃ ty, w = .arrayClass ty := good_of_word (List.mem_filter.mp h).2
theorem gT_1 {w : Cond} (h : w ∈ tables_1_1) : w ∈ lw_tbl := List.mem_append_right _ (List.mem_append_left _ h)
theorem gT_2 {w : Cond} (h : w ∈ tables_1_2) : w ∈ lw_tbl := List.mem_append_right _ (List.mem_append_right _ (List.mem_append_left _ h))
theorem gT_3 {w : Cond} (h : w ∈ tables_1_3) : w ∈ lw_tbl := List.mem_append_right _ (List.mem_append_right _ (List.mem_append_right _ (List.mem_append_left _ h)))
theorem gT_4 {w : Cond} (h : w ∈ tables_1_4) : w ∈ lw_tbl := List.mem_append_right _ (List.mem_append_right _ (List.mem_append_right _ (List.mem_append_right _ (List.mem_append_left _ h))))
theorem gT_5 {w : Cond} (h : w ∈ tables_1_5) : w ∈ lw_tbl := List.mem_append_right _ (List.mem_append_right _ (List.mem_append_right _ (List.mem_append_right _ (List.mem_append_right _ (List.mem_append_left _ h)))))
theorem gT_6 {w : Cond} (h : w ∈ tables_1_6) : w ∈ lw_tbl := List.mem_append_right _ (List.mem_append_right _ (List.mem_append_right _ (List.mem_append_right _ (List.mem_append_right _ (List.mem_append_right _ (List.mem_append_left _ h))))))
theorem gT_7 {w : Cond} (h : w ∈ tables_1_7) : w ∈ lw_tbl := List.mem_append_right _ (List.mem_append_right _ (List.mem_append_right _ (List.mem_append_right _ (List.mem_append_right _ (List.mem_append_right _ (List.mem_append_right _ (h)))))))
theorem gT_0 {w : Cond} (h : w ∈ k2_sels lw_privs) : w ∈ lw_tbl := List.mem_append_left _ h
theorem mN_L : Cond.initialized RL ∈ gWs := gWs_in (gT_1 (List.mem_of_getElem? (i := 0) rfl)) rfl
theorem mN_X10 : Cond.initialized RX10 ∈ gWs := gWs_in (gT_1 (List.mem_of_getElem? (i := 1) rfl)) rfl
theorem mN_X4 : Cond.initialized RX4 ∈ gWs := gWs_in (gT_1 (List.mem_of_getElem? (i := 2) rfl)) rfl
theorem mN_X3 : Cond.initialized RX3 ∈ gWs := gWs_in (gT_1 (List.mem_of_getElem? (i := 3) rfl)) rfl
theorem mN_X6 : Cond.initialized RX6 ∈ gWs := gWs_in (gT_1 (List.mem_of_getElem? (i := 4) rfl)) rfl
theorem mN_X1 : Cond.initialized RX1 ∈ gWs := gWs_in (gT_1 (List.mem_of_getElem? (i := 5) rfl)) rfl
theorem mN_X8 : Cond.initialized RX8 ∈ gWs := gWs_in (gT_1 (List.mem_of_getElem? (i := 6) rfl)) rfl
theorem mN_X2 : Cond.initialized RX2 ∈ gWs := gWs_in (gT_1 (List.mem_of_getElem? (i := 7) rfl)) rfl
theorem mN_X7 : Cond.initialized RX7 ∈ gWs := gWs_in (gT_1 (List.mem_of_getElem? (i := 8) rfl)) rfl
theorem mN_X0 : Cond.initialized RX0 ∈ gWs := gWs_in (gT_1 (List.mem_of_getElem? (i := 9) rfl)) rfl
theorem mN_X9 : Cond.initialized RX9 ∈ gWs := gWs_in (gT_1 (List.mem_of_getElem? (i := 10) rfl)) rfl
theorem mN_X5 : Cond.initialized RX5 ∈ gWs := gWs_in (gT_1 (List.mem_of_getElem? (i := 11) rfl)) rfl
theorem mN_X11 : Cond.initialized RX11 ∈ gWs := gWs_in (gT_1 (List.mem_of_getElem? (i := 12) rfl)) rfl
theorem mN_J0 : Cond.initialized RJ0 ∈ gWs := gWs_in (gT_1 (List.mem_of_getElem? (i := 13) rfl)) rfl
theorem mN_J1 : Cond.initialized RJ1 ∈ gWs := gWs_in (gT_1 (List.mem_of_getElem? (i := 14) rfl)) rfl
theorem mN_J3 : Cond.initialized RJ3 ∈ gWs := gWs_in (gT_1 (List.mem_of_getElem? (i := 15) rfl)) rfl
theorem mN_J2 : Cond.initialized RJ2 ∈ gWs := gWs_in (gT_1 (List.mem_of_getElem? (i := 16) rfl)) rfl
theorem mN_J9 : Cond.initialized RJ9 ∈ gWs := gWs_in (gT_1 (List.mem_of_getElem? (i := 17) rfl)) rfl
theorem mN_J10 : Cond.initialized RJ10 ∈ gWs := gWs_in (gT_1 (List.mem_of_getElem? (i := 18) rfl)) rfl
theorem mN_J7 : Cond.initialized RJ7 ∈ gWs := gWs_in (gT_1 (List.mem_of_getElem? (i := 19) rfl)) rfl
theorem mN_J6 : Cond.initialized RJ6 ∈ gWs := gWs_in (gT_1 (List.mem_of_getElem? (i := 20) rfl)) rfl
theorem mK_L_7 : Cond.classLink RL 7 RX10 ∈ gWs := gWs_in (gT_1 (List.mem_of_getElem? (i := 21) rfl)) rfl
theorem mT_X10 : Cond.instantiable RX10 14 ∈ gWs := gWs_in (gT_1 (List.mem_of_getElem? (i := 22) rfl)) rfl
theorem mM_L_9 : Cond.methodLink RL 9 yX10_init ∈ gWs := gWs_in (gT_1 (List.mem_of_getElem? (i := 23) rfl)) rfl
theorem mI_X10_init : Cond.instanceMethod yX10_init ∈ gWs := gWs_in (gT_1 (List.mem_of_getElem? (i := 24) rfl)) rfl
theorem mC_X10_init : Cond.code yX10_init cX10_init 1 none ∈ gWs := gWs_in (gT_1 (List.mem_of_getElem? (i := 25) rfl)) rfl
theorem mM_X10_1 : Cond.methodLink RX10 1 objectInit ∈ gWs := gWs_in (gT_1 (List.mem_of_getElem? (i := 26) rfl)) rfl
theorem mI_objectInit : Cond.instanceMethod objectInit ∈ gWs := gWs_in (gT_1 (List.mem_of_getElem? (i := 27) rfl)) rfl
theorem mC_objectInit : Cond.code objectInit object_method_1_code 1 none ∈ gWs := gWs_in (gT_1 (List.mem_of_getElem? (i := 28) rfl)) rfl
theorem mK_X10_13 : Cond.classLink RX10 13 RX4 ∈ gWs := gWs_in (gT_1 (List.mem_of_getElem? (i := 29) rfl)) rfl
theorem mT_X4 : Cond.instantiable RX4 10 ∈ gWs := gWs_in (gT_1 (List.mem_of_getElem? (i := 30) rfl)) rfl
theorem mI_X4_init : Cond.instanceMethod yX4_init ∈ gWs := gWs_in (gT_1 (List.mem_of_getElem? (i := 32) rfl)) rfl
theorem mC_X4_init : Cond.code yX4_init cX4_init 1 none ∈ gWs := gWs_in (gT_1 (List.mem_of_getElem? (i := 33) rfl)) rfl
theorem mM_X4_3 : Cond.methodLink RX4 3 objectInit ∈ gWs := gWs_in (gT_1 (List.mem_of_getElem? (i := 34) rfl)) rfl
theorem mF_X4_31 : Cond.fieldLink RX4 31 "RouteWall$Laws" "rounds" "I" ∈ gWs := gWs_in (gT_1 (List.mem_of_getElem? (i := 35) rfl)) rfl
theorem mF_X10_117 : Cond.fieldLink RX10 117 "RouteWall$Laws" "rounds" "I" ∈ gWs := gWs_in (gT_1 (List.mem_of_getElem? (i := 36) rfl)) rfl
theorem mF_X3_100 : Cond.fieldLink RX3 100 "RouteWall$Laws" "rounds" "I" ∈ gWs := gWs_in (gT_1 (List.mem_of_getElem? (i := 37) rfl)) rfl
theorem mF_X4_9 : Cond.fieldLink RX4 9 "RouteWall$Laws" "shape" "[I" ∈ gWs := gWs_in (gT_1 (List.mem_of_getElem? (i := 38) rfl)) rfl
theorem mF_X3_113 : Cond.fieldLink RX3 113 "RouteWall$Laws" "shape" "[I" ∈ gWs := gWs_in (gT_1 (List.mem_of_getElem? (i := 39) rfl)) rfl
theorem mF_X4_15 : Cond.fieldLink RX4 15 "RouteWall$Laws" "item" "[I" ∈ gWs := gWs_in (gT_1 (List.mem_of_getElem? (i := 40) rfl)) rfl
theorem mF_X4_18 : Cond.fieldLink RX4 18 "RouteWall$Laws" "number" "[I" ∈ gWs := gWs_in (gT_1 (List.mem_of_getElem? (i := 41) rfl)) rfl
theorem mF_X1_15 : Cond.fieldLink RX1 15 "RouteWall$Laws" "items" "I" ∈ gWs := gWs_in (gT_1 (List.mem_of_getElem? (i := 42) rfl)) rfl
theorem mF_X4_35 : Cond.fieldLink RX4 35 "RouteWall$Laws" "items" "I" ∈ gWs := gWs_in (gT_1 (List.mem_of_getElem? (i := 43) rfl)) rfl
theorem mF_X4_21 : Cond.fieldLink RX4 21 "RouteWall$Laws" "keyKind" "[I" ∈ gWs := gWs_in (gT_1 (List.mem_of_getElem? (i := 44) rfl)) rfl
theorem mF_X5_151 : Cond.fieldLink RX5 151 "RouteWall$Laws" "keyKind" "[I" ∈ gWs := gWs_in (gT_1 (List.mem_of_getElem? (i := 45) rfl)) rfl
theorem mF_X4_24 : Cond.fieldLink RX4 24 "RouteWall$Laws" "keyDown" "[I" ∈ gWs := gWs_in (gT_1 (List.mem_of_getElem? (i := 46) rfl)) rfl
theorem mF_X5_189 : Cond.fieldLink RX5 189 "RouteWall$Laws" "keyDown" "[I" ∈ gWs := gWs_in (gT_1 (List.mem_of_getElem? (i := 47) rfl)) rfl
theorem mF_X4_42 : Cond.fieldLink RX4 42 "RouteWall$Laws" "keys" "I" ∈ gWs := gWs_in (gT_1 (List.mem_of_getElem? (i := 48) rfl)) rfl
theorem mF_X5_145 : Cond.fieldLink RX5 145 "RouteWall$Laws" "keys" "I" ∈ gWs := gWs_in (gT_1 (List.mem_of_getElem? (i := 49) rfl)) rfl
theorem mF_X3_116 : Cond.fieldLink RX3 116 "RouteWall$Laws" "keys" "I" ∈ gWs := gWs_in (gT_1 (List.mem_of_getElem? (i := 50) rfl)) rfl
theorem mF_X10_271 : Cond.fieldLink RX10 271 "RouteWall$Laws" "keys" "I" ∈ gWs := gWs_in (gT_1 (List.mem_of_getElem? (i := 51) rfl)) rfl
theorem mF_X4_49 : Cond.fieldLink RX4 49 "RouteWall$Laws" "back" "Z" ∈ gWs := gWs_in (gT_1 (List.mem_of_getElem? (i := 52) rfl)) rfl
theorem mF_X5_181 : Cond.fieldLink RX5 181 "RouteWall$Laws" "back" "Z" ∈ gWs := gWs_in (gT_1 (List.mem_of_getElem? (i := 53) rfl)) rfl
theorem mF_X3_126 : Cond.fieldLink RX3 126 "RouteWall$Laws" "back" "Z" ∈ gWs := gWs_in (gT_1 (List.mem_of_getElem? (i := 54) rfl)) rfl
theorem mF_X4_27 : Cond.fieldLink RX4 27 "RouteWall$Laws" "stack" "[J" ∈ gWs := gWs_in (gT_1 (List.mem_of_getElem? (i := 55) rfl)) rfl
theorem mA_int : Cond.arrayClass .int ∈ gWs := gWs_in (gT_1 (List.mem_of_getElem? (i := 77) rfl)) rfl
theorem mA_long : Cond.arrayClass .long ∈ gWs := gWs_in (gT_1 (List.mem_of_getElem? (i := 78) rfl)) rfl
theorem mK_X10_20 : Cond.classLink RX10 20 RX3 ∈ gWs := gWs_in (gT_1 (List.mem_of_getElem? (i := 79) rfl)) rfl
theorem mT_X3 : Cond.instantiable RX3 8 ∈ gWs := gWs_in (gT_1 (List.mem_of_getElem? (i := 80) rfl)) rfl
theorem mI_X3_init : Cond.instanceMethod yX3_init ∈ gWs := gWs_in (gT_1 (List.mem_of_getElem? (i := 82) rfl)) rfl
theorem mC_X3_init : Cond.code yX3_init cX3_init 1 none ∈ gWs := gWs_in (gT_1 (List.mem_of_getElem? (i := 83) rfl)) rfl
theorem mM_X3_3 : Cond.methodLink RX3 3 objectInit ∈ gWs := gWs_in (gT_1 (List.mem_of_getElem? (i := 84) rfl)) rfl
theorem mK_X3_9 : Cond.classLink RX3 9 RX6 ∈ gWs := gWs_in (gT_1 (List.mem_of_getElem? (i := 85) rfl)) rfl
theorem mT_X6 : Cond.instantiable RX6 5 ∈ gWs := gWs_in (gT_1 (List.mem_of_getElem? (i := 86) rfl)) rfl
theorem mI_X6_init : Cond.instanceMethod yX6_init ∈ gWs := gWs_in (gT_1 (List.mem_of_getElem? (i := 88) rfl)) rfl
theorem mC_X6_init : Cond.code yX6_init cX6_init 1 none ∈ gWs := gWs_in (gT_1 (List.mem_of_getElem? (i := 89) rfl)) rfl
theorem mM_X6_3 : Cond.methodLink RX6 3 objectInit ∈ gWs := gWs_in (gT_1 (List.mem_of_getElem? (i := 90) rfl)) rfl
theorem mF_X6_9 : Cond.fieldLink RX6 9 "RouteWall$Tokens" "kinds" "[I" ∈ gWs := gWs_in (gT_1 (List.mem_of_getElem? (i := 91) rfl)) rfl
theorem mF_X6_15 : Cond.fieldLink RX6 15 "RouteWall$Tokens" "places" "[I" ∈ gWs := gWs_in (gT_1 (List.mem_of_getElem? (i := 92) rfl)) rfl
theorem mF_X6_18 : Cond.fieldLink RX6 18 "RouteWall$Tokens" "values" "[I" ∈ gWs := gWs_in (gT_1 (List.mem_of_getElem? (i := 93) rfl)) rfl
theorem mF_X6_25 : Cond.fieldLink RX6 25 "RouteWall$Tokens" "many" "I" ∈ gWs := gWs_in (gT_1 (List.mem_of_getElem? (i := 94) rfl)) rfl
theorem mF_X6_21 : Cond.fieldLink RX6 21 "RouteWall$Tokens" "at" "I" ∈ gWs := gWs_in (gT_1 (List.mem_of_getElem? (i := 95) rfl)) rfl
theorem mK_X3_18 : Cond.classLink RX3 18 RX4 ∈ gWs := gWs_in (gT_1 (List.mem_of_getElem? (i := 107) rfl)) rfl
theorem mK_X3_25 : Cond.classLink RX3 25 RX1 ∈ gWs := gWs_in (gT_1 (List.mem_of_getElem? (i := 109) rfl)) rfl
theorem mT_X1 : Cond.instantiable RX1 6 ∈ gWs := gWs_in (gT_1 (List.mem_of_getElem? (i := 110) rfl)) rfl
theorem mI_X1_init : Cond.instanceMethod yX1_init ∈ gWs := gWs_in (gT_1 (List.mem_of_getElem? (i := 112) rfl)) rfl
theorem mC_X1_init : Cond.code yX1_init cX1_init 1 none ∈ gWs := gWs_in (gT_1 (List.mem_of_getElem? (i := 113) rfl)) rfl
theorem mM_X1_3 : Cond.methodLink RX1 3 objectInit ∈ gWs := gWs_in (gT_1 (List.mem_of_getElem? (i := 114) rfl)) rfl
theorem mF_X1_9 : Cond.fieldLink RX1 9 "RouteWall$Expression" "waiting" "[I" ∈ gWs := gWs_in (gT_1 (List.mem_of_getElem? (i := 115) rfl)) rfl
theorem mF_X1_21 : Cond.fieldLink RX1 21 "RouteWall$Expression" "waits" "I" ∈ gWs := gWs_in (gT_1 (List.mem_of_getElem? (i := 116) rfl)) rfl
theorem mF_X1_24 : Cond.fieldLink RX1 24 "RouteWall$Expression" "nested" "I" ∈ gWs := gWs_in (gT_1 (List.mem_of_getElem? (i := 117) rfl)) rfl
theorem mF_X1_27 : Cond.fieldLink RX1 27 "RouteWall$Expression" "parens" "I" ∈ gWs := gWs_in (gT_1 (List.mem_of_getElem? (i := 118) rfl)) rfl
theorem mF_X1_30 : Cond.fieldLink RX1 30 "RouteWall$Expression" "items" "I" ∈ gWs := gWs_in (gT_1 (List.mem_of_getElem? (i := 119) rfl)) rfl
theorem mF_X1_31 : Cond.fieldLink RX1 31 "RouteWall$Expression" "fault" "I" ∈ gWs := gWs_in (gT_1 (List.mem_of_getElem? (i := 120) rfl)) rfl
theorem mF_X3_12 : Cond.fieldLink RX3 12 "RouteWall$LawReader" "tokens" "LRouteWall$Tokens;" ∈ gWs := gWs_in (gT_1 (List.mem_of_getElem? (i := 134) rfl)) rfl
theorem mF_X3_21 : Cond.fieldLink RX3 21 "RouteWall$LawReader" "draft" "LRouteWall$Laws;" ∈ gWs := gWs_in (gT_1 (List.mem_of_getElem? (i := 135) rfl)) rfl
theorem mF_X10_100 : Cond.fieldLink RX10 100 "RouteWall$LawReader" "draft" "LRouteWall$Laws;" ∈ gWs := gWs_in (gT_1 (List.mem_of_getElem? (i := 136) rfl)) rfl
theorem mF_X3_28 : Cond.fieldLink RX3 28 "RouteWall$LawReader" "expression" "LRouteWall$Expression;" ∈ gWs := gWs_in (gT_1 (List.mem_of_getElem? (i := 137) rfl)) rfl
theorem mF_X3_32 : Cond.fieldLink RX3 32 "RouteWall$LawReader" "fault" "I" ∈ gWs := gWs_in (gT_1 (List.mem_of_getElem? (i := 138) rfl)) rfl
theorem mF_X10_96 : Cond.fieldLink RX10 96 "RouteWall$LawReader" "fault" "I" ∈ gWs := gWs_in (gT_1 (List.mem_of_getElem? (i := 139) rfl)) rfl
theorem mF_X3_36 : Cond.fieldLink RX3 36 "RouteWall$LawReader" "faultPlace" "I" ∈ gWs := gWs_in (gT_1 (List.mem_of_getElem? (i := 140) rfl)) rfl
theorem mF_X10_99 : Cond.fieldLink RX10 99 "RouteWall$LawReader" "faultPlace" "I" ∈ gWs := gWs_in (gT_1 (List.mem_of_getElem? (i := 141) rfl)) rfl
theorem mF_X3_39 : Cond.fieldLink RX3 39 "RouteWall$LawReader" "pointsTold" "Z" ∈ gWs := gWs_in (gT_1 (List.mem_of_getElem? (i := 142) rfl)) rfl
theorem mF_X3_43 : Cond.fieldLink RX3 43 "RouteWall$LawReader" "keysTold" "Z" ∈ gWs := gWs_in (gT_1 (List.mem_of_getElem? (i := 143) rfl)) rfl
theorem mF_X3_46 : Cond.fieldLink RX3 46 "RouteWall$LawReader" "tiesTold" "Z" ∈ gWs := gWs_in (gT_1 (List.mem_of_getElem? (i := 144) rfl)) rfl
theorem mK_X10_27 : Cond.classLink RX10 27 RX8 ∈ gWs := gWs_in (gT_1 (List.mem_of_getElem? (i := 162) rfl)) rfl
theorem mT_X8 : Cond.instantiable RX8 3 ∈ gWs := gWs_in (gT_1 (List.mem_of_getElem? (i := 163) rfl)) rfl
theorem mI_X8_init : Cond.instanceMethod yX8_init ∈ gWs := gWs_in (gT_1 (List.mem_of_getElem? (i := 165) rfl)) rfl
theorem mC_X8_init : Cond.code yX8_init cX8_init 1 none ∈ gWs := gWs_in (gT_1 (List.mem_of_getElem? (i := 166) rfl)) rfl
theorem mM_X8_3 : Cond.methodLink RX8 3 objectInit ∈ gWs := gWs_in (gT_1 (List.mem_of_getElem? (i := 167) rfl)) rfl
theorem mF_X8_9 : Cond.fieldLink RX8 9 "RouteWall$Wall" "holds" "[I" ∈ gWs := gWs_in (gT_1 (List.mem_of_getElem? (i := 168) rfl)) rfl
theorem mF_X8_15 : Cond.fieldLink RX8 15 "RouteWall$Wall" "begun" "[I" ∈ gWs := gWs_in (gT_1 (List.mem_of_getElem? (i := 169) rfl)) rfl
theorem mF_X8_18 : Cond.fieldLink RX8 18 "RouteWall$Wall" "zones" "[I" ∈ gWs := gWs_in (gT_1 (List.mem_of_getElem? (i := 170) rfl)) rfl
theorem mK_X10_34 : Cond.classLink RX10 34 RX2 ∈ gWs := gWs_in (gT_1 (List.mem_of_getElem? (i := 178) rfl)) rfl
theorem mT_X2 : Cond.instantiable RX2 4 ∈ gWs := gWs_in (gT_1 (List.mem_of_getElem? (i := 179) rfl)) rfl
theorem mI_X2_init : Cond.instanceMethod yX2_init ∈ gWs := gWs_in (gT_1 (List.mem_of_getElem? (i := 181) rfl)) rfl
theorem mC_X2_init : Cond.code yX2_init cX2_init 1 none ∈ gWs := gWs_in (gT_1 (List.mem_of_getElem? (i := 182) rfl)) rfl
theorem mM_X2_3 : Cond.methodLink RX2 3 objectInit ∈ gWs := gWs_in (gT_1 (List.mem_of_getElem? (i := 183) rfl)) rfl
theorem mF_X2_18 : Cond.fieldLink RX2 18 "RouteWall$Field" "climbers" "I" ∈ gWs := gWs_in (gT_1 (List.mem_of_getElem? (i := 184) rfl)) rfl
theorem mF_X10_123 : Cond.fieldLink RX10 123 "RouteWall$Field" "climbers" "I" ∈ gWs := gWs_in (gT_1 (List.mem_of_getElem? (i := 185) rfl)) rfl
theorem mF_X5_157 : Cond.fieldLink RX5 157 "RouteWall$Field" "climbers" "I" ∈ gWs := gWs_in (gT_1 (List.mem_of_getElem? (i := 186) rfl)) rfl
theorem mF_X2_22 : Cond.fieldLink RX2 22 "RouteWall$Field" "open" "I" ∈ gWs := gWs_in (gT_1 (List.mem_of_getElem? (i := 187) rfl)) rfl
theorem mF_X10_129 : Cond.fieldLink RX10 129 "RouteWall$Field" "open" "I" ∈ gWs := gWs_in (gT_1 (List.mem_of_getElem? (i := 188) rfl)) rfl
theorem mF_X2_9 : Cond.fieldLink RX2 9 "RouteWall$Field" "latest" "[I" ∈ gWs := gWs_in (gT_1 (List.mem_of_getElem? (i := 189) rfl)) rfl
theorem mF_X2_15 : Cond.fieldLink RX2 15 "RouteWall$Field" "cutDay" "[I" ∈ gWs := gWs_in (gT_1 (List.mem_of_getElem? (i := 190) rfl)) rfl
theorem mK_X10_41 : Cond.classLink RX10 41 RX7 ∈ gWs := gWs_in (gT_1 (List.mem_of_getElem? (i := 200) rfl)) rfl
theorem mT_X7 : Cond.instantiable RX7 9 ∈ gWs := gWs_in (gT_1 (List.mem_of_getElem? (i := 201) rfl)) rfl
theorem mI_X7_init : Cond.instanceMethod yX7_init ∈ gWs := gWs_in (gT_1 (List.mem_of_getElem? (i := 203) rfl)) rfl
theorem mC_X7_init : Cond.code yX7_init cX7_init 1 none ∈ gWs := gWs_in (gT_1 (List.mem_of_getElem? (i := 204) rfl)) rfl
theorem mM_X7_3 : Cond.methodLink RX7 3 objectInit ∈ gWs := gWs_in (gT_1 (List.mem_of_getElem? (i := 205) rfl)) rfl
theorem mF_X7_36 : Cond.fieldLink RX7 36 "RouteWall$Tries" "many" "I" ∈ gWs := gWs_in (gT_1 (List.mem_of_getElem? (i := 206) rfl)) rfl
theorem mF_X5_73 : Cond.fieldLink RX5 73 "RouteWall$Tries" "many" "I" ∈ gWs := gWs_in (gT_1 (List.mem_of_getElem? (i := 207) rfl)) rfl
theorem mF_X10_126 : Cond.fieldLink RX10 126 "RouteWall$Tries" "many" "I" ∈ gWs := gWs_in (gT_1 (List.mem_of_getElem? (i := 208) rfl)) rfl
theorem mF_X9_31 : Cond.fieldLink RX9 31 "RouteWall$Tries" "many" "I" ∈ gWs := gWs_in (gT_1 (List.mem_of_getElem? (i := 209) rfl)) rfl
theorem mF_X7_9 : Cond.fieldLink RX7 9 "RouteWall$Tries" "climber" "[I" ∈ gWs := gWs_in (gT_1 (List.mem_of_getElem? (i := 210) rfl)) rfl
theorem mF_X5_85 : Cond.fieldLink RX5 85 "RouteWall$Tries" "climber" "[I" ∈ gWs := gWs_in (gT_1 (List.mem_of_getElem? (i := 211) rfl)) rfl
theorem mF_X9_43 : Cond.fieldLink RX9 43 "RouteWall$Tries" "climber" "[I" ∈ gWs := gWs_in (gT_1 (List.mem_of_getElem? (i := 212) rfl)) rfl
theorem mF_X10_225 : Cond.fieldLink RX10 225 "RouteWall$Tries" "climber" "[I" ∈ gWs := gWs_in (gT_1 (List.mem_of_getElem? (i := 213) rfl)) rfl
theorem mF_X7_15 : Cond.fieldLink RX7 15 "RouteWall$Tries" "round" "[I" ∈ gWs := gWs_in (gT_1 (List.mem_of_getElem? (i := 214) rfl)) rfl
theorem mF_X5_82 : Cond.fieldLink RX5 82 "RouteWall$Tries" "round" "[I" ∈ gWs := gWs_in (gT_1 (List.mem_of_getElem? (i := 215) rfl)) rfl
theorem mF_X9_37 : Cond.fieldLink RX9 37 "RouteWall$Tries" "round" "[I" ∈ gWs := gWs_in (gT_1 (List.mem_of_getElem? (i := 216) rfl)) rfl
theorem mF_X10_200 : Cond.fieldLink RX10 200 "RouteWall$Tries" "round" "[I" ∈ gWs := gWs_in (gT_1 (List.mem_of_getElem? (i := 217) rfl)) rfl
theorem mF_X7_18 : Cond.fieldLink RX7 18 "RouteWall$Tries" "route" "[I" ∈ gWs := gWs_in (gT_1 (List.mem_of_getElem? (i := 218) rfl)) rfl
theorem mF_X5_88 : Cond.fieldLink RX5 88 "RouteWall$Tries" "route" "[I" ∈ gWs := gWs_in (gT_1 (List.mem_of_getElem? (i := 219) rfl)) rfl
theorem mF_X9_40 : Cond.fieldLink RX9 40 "RouteWall$Tries" "route" "[I" ∈ gWs := gWs_in (gT_1 (List.mem_of_getElem? (i := 220) rfl)) rfl
theorem mF_X10_203 : Cond.fieldLink RX10 203 "RouteWall$Tries" "route" "[I" ∈ gWs := gWs_in (gT_1 (List.mem_of_getElem? (i := 221) rfl)) rfl
theorem mF_X7_21 : Cond.fieldLink RX7 21 "RouteWall$Tries" "begun" "[I" ∈ gWs := gWs_in (gT_1 (List.mem_of_getElem? (i := 222) rfl)) rfl
theorem mF_X5_120 : Cond.fieldLink RX5 120 "RouteWall$Tries" "begun" "[I" ∈ gWs := gWs_in (gT_1 (List.mem_of_getElem? (i := 223) rfl)) rfl
theorem mF_X9_46 : Cond.fieldLink RX9 46 "RouteWall$Tries" "begun" "[I" ∈ gWs := gWs_in (gT_1 (List.mem_of_getElem? (i := 224) rfl)) rfl
theorem mF_X10_228 : Cond.fieldLink RX10 228 "RouteWall$Tries" "begun" "[I" ∈ gWs := gWs_in (gT_1 (List.mem_of_getElem? (i := 225) rfl)) rfl
theorem mF_X7_24 : Cond.fieldLink RX7 24 "RouteWall$Tries" "ended" "[I" ∈ gWs := gWs_in (gT_1 (List.mem_of_getElem? (i := 226) rfl)) rfl
theorem mF_X5_117 : Cond.fieldLink RX5 117 "RouteWall$Tries" "ended" "[I" ∈ gWs := gWs_in (gT_1 (List.mem_of_getElem? (i := 227) rfl)) rfl
theorem mF_X9_49 : Cond.fieldLink RX9 49 "RouteWall$Tries" "ended" "[I" ∈ gWs := gWs_in (gT_1 (List.mem_of_getElem? (i := 228) rfl)) rfl
theorem mF_X10_231 : Cond.fieldLink RX10 231 "RouteWall$Tries" "ended" "[I" ∈ gWs := gWs_in (gT_1 (List.mem_of_getElem? (i := 229) rfl)) rfl
theorem mF_X7_27 : Cond.fieldLink RX7 27 "RouteWall$Tries" "hold" "[I" ∈ gWs := gWs_in (gT_1 (List.mem_of_getElem? (i := 230) rfl)) rfl
theorem mF_X5_95 : Cond.fieldLink RX5 95 "RouteWall$Tries" "hold" "[I" ∈ gWs := gWs_in (gT_1 (List.mem_of_getElem? (i := 231) rfl)) rfl
theorem mF_X10_206 : Cond.fieldLink RX10 206 "RouteWall$Tries" "hold" "[I" ∈ gWs := gWs_in (gT_1 (List.mem_of_getElem? (i := 232) rfl)) rfl
theorem mF_X7_30 : Cond.fieldLink RX7 30 "RouteWall$Tries" "how" "[I" ∈ gWs := gWs_in (gT_1 (List.mem_of_getElem? (i := 233) rfl)) rfl
theorem mF_X5_79 : Cond.fieldLink RX5 79 "RouteWall$Tries" "how" "[I" ∈ gWs := gWs_in (gT_1 (List.mem_of_getElem? (i := 234) rfl)) rfl
theorem mF_X10_234 : Cond.fieldLink RX10 234 "RouteWall$Tries" "how" "[I" ∈ gWs := gWs_in (gT_1 (List.mem_of_getElem? (i := 235) rfl)) rfl
theorem mF_X7_33 : Cond.fieldLink RX7 33 "RouteWall$Tries" "openNext" "[I" ∈ gWs := gWs_in (gT_1 (List.mem_of_getElem? (i := 236) rfl)) rfl
theorem mK_X10_48 : Cond.classLink RX10 48 RX0 ∈ gWs := gWs_in (gT_2 (List.mem_of_getElem? (i := 16) rfl)) rfl
theorem mT_X0 : Cond.instantiable RX0 4 ∈ gWs := gWs_in (gT_2 (List.mem_of_getElem? (i := 17) rfl)) rfl
theorem mI_X0_init : Cond.instanceMethod yX0_init ∈ gWs := gWs_in (gT_2 (List.mem_of_getElem? (i := 19) rfl)) rfl
theorem mC_X0_init : Cond.code yX0_init cX0_init 1 none ∈ gWs := gWs_in (gT_2 (List.mem_of_getElem? (i := 20) rfl)) rfl
theorem mM_X0_3 : Cond.methodLink RX0 3 objectInit ∈ gWs := gWs_in (gT_2 (List.mem_of_getElem? (i := 21) rfl)) rfl
theorem mF_X0_21 : Cond.fieldLink RX0 21 "RouteWall$Appeals" "many" "I" ∈ gWs := gWs_in (gT_2 (List.mem_of_getElem? (i := 22) rfl)) rfl
theorem mF_X5_98 : Cond.fieldLink RX5 98 "RouteWall$Appeals" "many" "I" ∈ gWs := gWs_in (gT_2 (List.mem_of_getElem? (i := 23) rfl)) rfl
theorem mF_X10_251 : Cond.fieldLink RX10 251 "RouteWall$Appeals" "many" "I" ∈ gWs := gWs_in (gT_2 (List.mem_of_getElem? (i := 24) rfl)) rfl
theorem mF_X0_9 : Cond.fieldLink RX0 9 "RouteWall$Appeals" "number" "[I" ∈ gWs := gWs_in (gT_2 (List.mem_of_getElem? (i := 25) rfl)) rfl
theorem mF_X5_101 : Cond.fieldLink RX5 101 "RouteWall$Appeals" "number" "[I" ∈ gWs := gWs_in (gT_2 (List.mem_of_getElem? (i := 26) rfl)) rfl
theorem mF_X0_15 : Cond.fieldLink RX0 15 "RouteWall$Appeals" "hold" "[I" ∈ gWs := gWs_in (gT_2 (List.mem_of_getElem? (i := 27) rfl)) rfl
theorem mF_X5_107 : Cond.fieldLink RX5 107 "RouteWall$Appeals" "hold" "[I" ∈ gWs := gWs_in (gT_2 (List.mem_of_getElem? (i := 28) rfl)) rfl
theorem mF_X0_18 : Cond.fieldLink RX0 18 "RouteWall$Appeals" "day" "[I" ∈ gWs := gWs_in (gT_2 (List.mem_of_getElem? (i := 29) rfl)) rfl
theorem mF_X5_104 : Cond.fieldLink RX5 104 "RouteWall$Appeals" "day" "[I" ∈ gWs := gWs_in (gT_2 (List.mem_of_getElem? (i := 30) rfl)) rfl
theorem mK_X10_55 : Cond.classLink RX10 55 RX9 ∈ gWs := gWs_in (gT_2 (List.mem_of_getElem? (i := 40) rfl)) rfl
theorem mT_X9 : Cond.instantiable RX9 3 ∈ gWs := gWs_in (gT_2 (List.mem_of_getElem? (i := 41) rfl)) rfl
theorem mI_X9_init : Cond.instanceMethod yX9_init ∈ gWs := gWs_in (gT_2 (List.mem_of_getElem? (i := 43) rfl)) rfl
theorem mC_X9_init : Cond.code yX9_init cX9_init 1 none ∈ gWs := gWs_in (gT_2 (List.mem_of_getElem? (i := 44) rfl)) rfl
theorem mM_X9_3 : Cond.methodLink RX9 3 objectInit ∈ gWs := gWs_in (gT_2 (List.mem_of_getElem? (i := 45) rfl)) rfl
theorem mF_X9_9 : Cond.fieldLink RX9 9 "RouteWall$Watch" "times" "[I" ∈ gWs := gWs_in (gT_2 (List.mem_of_getElem? (i := 46) rfl)) rfl
theorem mF_X10_218 : Cond.fieldLink RX10 218 "RouteWall$Watch" "times" "[I" ∈ gWs := gWs_in (gT_2 (List.mem_of_getElem? (i := 47) rfl)) rfl
theorem mF_X9_15 : Cond.fieldLink RX9 15 "RouteWall$Watch" "wentOut" "[I" ∈ gWs := gWs_in (gT_2 (List.mem_of_getElem? (i := 48) rfl)) rfl
theorem mF_X9_18 : Cond.fieldLink RX9 18 "RouteWall$Watch" "cameIn" "[I" ∈ gWs := gWs_in (gT_2 (List.mem_of_getElem? (i := 49) rfl)) rfl
theorem mK_X10_62 : Cond.classLink RX10 62 RX5 ∈ gWs := gWs_in (gT_2 (List.mem_of_getElem? (i := 57) rfl)) rfl
theorem mT_X5 : Cond.instantiable RX5 15 ∈ gWs := gWs_in (gT_2 (List.mem_of_getElem? (i := 58) rfl)) rfl
theorem mM_X10_64 : Cond.methodLink RX10 64 yX5_init ∈ gWs := gWs_in (gT_2 (List.mem_of_getElem? (i := 59) rfl)) rfl
theorem mI_X5_init : Cond.instanceMethod yX5_init ∈ gWs := gWs_in (gT_2 (List.mem_of_getElem? (i := 60) rfl)) rfl
theorem mC_X5_init : Cond.code yX5_init cX5_init 6 none ∈ gWs := gWs_in (gT_2 (List.mem_of_getElem? (i := 61) rfl)) rfl
theorem mM_X5_3 : Cond.methodLink RX5 3 objectInit ∈ gWs := gWs_in (gT_2 (List.mem_of_getElem? (i := 62) rfl)) rfl
theorem mF_X5_43 : Cond.fieldLink RX5 43 "RouteWall$Results" "laws" "LRouteWall$Laws;" ∈ gWs := gWs_in (gT_2 (List.mem_of_getElem? (i := 63) rfl)) rfl
theorem mF_X5_47 : Cond.fieldLink RX5 47 "RouteWall$Results" "wall" "LRouteWall$Wall;" ∈ gWs := gWs_in (gT_2 (List.mem_of_getElem? (i := 64) rfl)) rfl
theorem mF_X5_51 : Cond.fieldLink RX5 51 "RouteWall$Results" "field" "LRouteWall$Field;" ∈ gWs := gWs_in (gT_2 (List.mem_of_getElem? (i := 65) rfl)) rfl
theorem mF_X5_55 : Cond.fieldLink RX5 55 "RouteWall$Results" "tries" "LRouteWall$Tries;" ∈ gWs := gWs_in (gT_2 (List.mem_of_getElem? (i := 66) rfl)) rfl
theorem mF_X5_59 : Cond.fieldLink RX5 59 "RouteWall$Results" "appeals" "LRouteWall$Appeals;" ∈ gWs := gWs_in (gT_2 (List.mem_of_getElem? (i := 67) rfl)) rfl
theorem mF_X5_9 : Cond.fieldLink RX5 9 "RouteWall$Results" "known" "[I" ∈ gWs := gWs_in (gT_2 (List.mem_of_getElem? (i := 68) rfl)) rfl
theorem mF_X5_15 : Cond.fieldLink RX5 15 "RouteWall$Results" "knownDay" "[I" ∈ gWs := gWs_in (gT_2 (List.mem_of_getElem? (i := 69) rfl)) rfl
theorem mF_X5_18 : Cond.fieldLink RX5 18 "RouteWall$Results" "counted" "[I" ∈ gWs := gWs_in (gT_2 (List.mem_of_getElem? (i := 70) rfl)) rfl
theorem mF_X5_21 : Cond.fieldLink RX5 21 "RouteWall$Results" "best" "[I" ∈ gWs := gWs_in (gT_2 (List.mem_of_getElem? (i := 71) rfl)) rfl
theorem mF_X5_24 : Cond.fieldLink RX5 24 "RouteWall$Results" "bestNumber" "[I" ∈ gWs := gWs_in (gT_2 (List.mem_of_getElem? (i := 72) rfl)) rfl
theorem mF_X5_27 : Cond.fieldLink RX5 27 "RouteWall$Results" "facts" "[I" ∈ gWs := gWs_in (gT_2 (List.mem_of_getElem? (i := 73) rfl)) rfl
theorem mF_X10_261 : Cond.fieldLink RX10 261 "RouteWall$Results" "facts" "[I" ∈ gWs := gWs_in (gT_2 (List.mem_of_getElem? (i := 74) rfl)) rfl
theorem mF_X5_30 : Cond.fieldLink RX5 30 "RouteWall$Results" "points" "[I" ∈ gWs := gWs_in (gT_2 (List.mem_of_getElem? (i := 75) rfl)) rfl
theorem mF_X5_33 : Cond.fieldLink RX5 33 "RouteWall$Results" "totals" "[J" ∈ gWs := gWs_in (gT_2 (List.mem_of_getElem? (i := 76) rfl)) rfl
theorem mF_X5_37 : Cond.fieldLink RX5 37 "RouteWall$Results" "keyRows" "[J" ∈ gWs := gWs_in (gT_2 (List.mem_of_getElem? (i := 77) rfl)) rfl
theorem mF_X5_40 : Cond.fieldLink RX5 40 "RouteWall$Results" "ranks" "[I" ∈ gWs := gWs_in (gT_2 (List.mem_of_getElem? (i := 78) rfl)) rfl
theorem mF_X10_284 : Cond.fieldLink RX10 284 "RouteWall$Results" "ranks" "[I" ∈ gWs := gWs_in (gT_2 (List.mem_of_getElem? (i := 79) rfl)) rfl
theorem mF_X10_9 : Cond.fieldLink RX10 9 "RouteWall" "tape" "[I" ∈ gWs := gWs_in (gT_2 (List.mem_of_getElem? (i := 111) rfl)) rfl
theorem mF_X10_81 : Cond.fieldLink RX10 81 "RouteWall" "taped" "I" ∈ gWs := gWs_in (gT_2 (List.mem_of_getElem? (i := 112) rfl)) rfl
theorem mF_X10_16 : Cond.fieldLink RX10 16 "RouteWall" "laws" "LRouteWall$Laws;" ∈ gWs := gWs_in (gT_2 (List.mem_of_getElem? (i := 113) rfl)) rfl
theorem mF_X10_23 : Cond.fieldLink RX10 23 "RouteWall" "reader" "LRouteWall$LawReader;" ∈ gWs := gWs_in (gT_2 (List.mem_of_getElem? (i := 114) rfl)) rfl
theorem mF_X10_30 : Cond.fieldLink RX10 30 "RouteWall" "wall" "LRouteWall$Wall;" ∈ gWs := gWs_in (gT_2 (List.mem_of_getElem? (i := 115) rfl)) rfl
theorem mF_X10_37 : Cond.fieldLink RX10 37 "RouteWall" "field" "LRouteWall$Field;" ∈ gWs := gWs_in (gT_2 (List.mem_of_getElem? (i := 116) rfl)) rfl
theorem mF_X10_44 : Cond.fieldLink RX10 44 "RouteWall" "tries" "LRouteWall$Tries;" ∈ gWs := gWs_in (gT_2 (List.mem_of_getElem? (i := 117) rfl)) rfl
theorem mF_X10_51 : Cond.fieldLink RX10 51 "RouteWall" "appeals" "LRouteWall$Appeals;" ∈ gWs := gWs_in (gT_2 (List.mem_of_getElem? (i := 118) rfl)) rfl
theorem mF_X10_58 : Cond.fieldLink RX10 58 "RouteWall" "watch" "LRouteWall$Watch;" ∈ gWs := gWs_in (gT_2 (List.mem_of_getElem? (i := 119) rfl)) rfl
theorem mF_X10_67 : Cond.fieldLink RX10 67 "RouteWall" "results" "LRouteWall$Results;" ∈ gWs := gWs_in (gT_2 (List.mem_of_getElem? (i := 120) rfl)) rfl
theorem mF_X10_71 : Cond.fieldLink RX10 71 "RouteWall" "state" "I" ∈ gWs := gWs_in (gT_2 (List.mem_of_getElem? (i := 121) rfl)) rfl
theorem mF_X10_114 : Cond.fieldLink RX10 114 "RouteWall" "time" "I" ∈ gWs := gWs_in (gT_2 (List.mem_of_getElem? (i := 122) rfl)) rfl
theorem mF_X10_75 : Cond.fieldLink RX10 75 "RouteWall" "faultKind" "I" ∈ gWs := gWs_in (gT_2 (List.mem_of_getElem? (i := 123) rfl)) rfl
theorem mF_X10_78 : Cond.fieldLink RX10 78 "RouteWall" "faultPlace" "I" ∈ gWs := gWs_in (gT_2 (List.mem_of_getElem? (i := 124) rfl)) rfl
theorem mM_L_13 : Cond.methodLink RL 13 yX10_status ∈ gWs := gWs_in (gT_2 (List.mem_of_getElem? (i := 154) rfl)) rfl
theorem mI_X10_status : Cond.instanceMethod yX10_status ∈ gWs := gWs_in (gT_2 (List.mem_of_getElem? (i := 155) rfl)) rfl
theorem mE_X10_status : Cond.selects RX10 yX10_status yX10_status ∈ gWs := gWs_in (gT_2 (List.mem_of_getElem? (i := 156) rfl)) rfl
theorem mC_X10_status : Cond.code yX10_status cX10_status 1 (some .int) ∈ gWs := gWs_in (gT_2 (List.mem_of_getElem? (i := 157) rfl)) rfl
theorem mM_L_18 : Cond.methodLink RL 18 yX10_feed ∈ gWs := gWs_in (gT_2 (List.mem_of_getElem? (i := 158) rfl)) rfl
theorem mI_X10_feed : Cond.instanceMethod yX10_feed ∈ gWs := gWs_in (gT_2 (List.mem_of_getElem? (i := 159) rfl)) rfl
theorem mE_X10_feed : Cond.selects RX10 yX10_feed yX10_feed ∈ gWs := gWs_in (gT_2 (List.mem_of_getElem? (i := 160) rfl)) rfl
theorem mC_X10_feed : Cond.code yX10_feed cX10_feed 6 (some .int) ∈ gWs := gWs_in (gT_2 (List.mem_of_getElem? (i := 161) rfl)) rfl
theorem mM_X10_84 : Cond.methodLink RX10 84 yX10_putOnTape ∈ gWs := gWs_in (gT_2 (List.mem_of_getElem? (i := 162) rfl)) rfl
theorem mI_X10_putOnTape : Cond.instanceMethod yX10_putOnTape ∈ gWs := gWs_in (gT_2 (List.mem_of_getElem? (i := 164) rfl)) rfl
theorem mC_X10_putOnTape : Cond.code yX10_putOnTape cX10_putOnTape 3 none ∈ gWs := gWs_in (gT_2 (List.mem_of_getElem? (i := 165) rfl)) rfl
theorem mM_L_23 : Cond.methodLink RL 23 yX10_load ∈ gWs := gWs_in (gT_2 (List.mem_of_getElem? (i := 166) rfl)) rfl
theorem mI_X10_load : Cond.instanceMethod yX10_load ∈ gWs := gWs_in (gT_2 (List.mem_of_getElem? (i := 167) rfl)) rfl
theorem mE_X10_load : Cond.selects RX10 yX10_load yX10_load ∈ gWs := gWs_in (gT_2 (List.mem_of_getElem? (i := 168) rfl)) rfl
theorem mC_X10_load : Cond.code yX10_load cX10_load 2 (some .int) ∈ gWs := gWs_in (gT_2 (List.mem_of_getElem? (i := 169) rfl)) rfl
theorem mM_X10_88 : Cond.methodLink RX10 88 yX10_refuse ∈ gWs := gWs_in (gT_2 (List.mem_of_getElem? (i := 170) rfl)) rfl
theorem mI_X10_refuse : Cond.instanceMethod yX10_refuse ∈ gWs := gWs_in (gT_2 (List.mem_of_getElem? (i := 172) rfl)) rfl
theorem mC_X10_refuse : Cond.code yX10_refuse cX10_refuse 2 (some .int) ∈ gWs := gWs_in (gT_2 (List.mem_of_getElem? (i := 173) rfl)) rfl
theorem mM_X10_92 : Cond.methodLink RX10 92 yX3_read ∈ gWs := gWs_in (gT_2 (List.mem_of_getElem? (i := 174) rfl)) rfl
theorem mI_X3_read : Cond.instanceMethod yX3_read ∈ gWs := gWs_in (gT_2 (List.mem_of_getElem? (i := 175) rfl)) rfl
theorem mE_X3_read : Cond.selects RX3 yX3_read yX3_read ∈ gWs := gWs_in (gT_2 (List.mem_of_getElem? (i := 176) rfl)) rfl
theorem mC_X3_read : Cond.code yX3_read cX3_read 4 none ∈ gWs := gWs_in (gT_2 (List.mem_of_getElem? (i := 177) rfl)) rfl
theorem mM_X3_49 : Cond.methodLink RX3 49 yX4_setUntold ∈ gWs := gWs_in (gT_2 (List.mem_of_getElem? (i := 178) rfl)) rfl
theorem mI_X4_setUntold : Cond.instanceMethod yX4_setUntold ∈ gWs := gWs_in (gT_2 (List.mem_of_getElem? (i := 179) rfl)) rfl
theorem mE_X4_setUntold : Cond.selects RX4 yX4_setUntold yX4_setUntold ∈ gWs := gWs_in (gT_2 (List.mem_of_getElem? (i := 180) rfl)) rfl
theorem mC_X4_setUntold : Cond.code yX4_setUntold cX4_setUntold 1 none ∈ gWs := gWs_in (gT_2 (List.mem_of_getElem? (i := 181) rfl)) rfl
theorem mM_X4_38 : Cond.methodLink RX4 38 yX4_addItem ∈ gWs := gWs_in (gT_2 (List.mem_of_getElem? (i := 182) rfl)) rfl
theorem mI_X4_addItem : Cond.instanceMethod yX4_addItem ∈ gWs := gWs_in (gT_2 (List.mem_of_getElem? (i := 183) rfl)) rfl
theorem mE_X4_addItem : Cond.selects RX4 yX4_addItem yX4_addItem ∈ gWs := gWs_in (gT_2 (List.mem_of_getElem? (i := 184) rfl)) rfl
theorem mC_X4_addItem : Cond.code yX4_addItem cX4_addItem 3 none ∈ gWs := gWs_in (gT_2 (List.mem_of_getElem? (i := 185) rfl)) rfl
theorem mM_X4_45 : Cond.methodLink RX4 45 yX4_addKey ∈ gWs := gWs_in (gT_2 (List.mem_of_getElem? (i := 186) rfl)) rfl
theorem mI_X4_addKey : Cond.instanceMethod yX4_addKey ∈ gWs := gWs_in (gT_2 (List.mem_of_getElem? (i := 187) rfl)) rfl
theorem mE_X4_addKey : Cond.selects RX4 yX4_addKey yX4_addKey ∈ gWs := gWs_in (gT_2 (List.mem_of_getElem? (i := 188) rfl)) rfl
theorem mC_X4_addKey : Cond.code yX4_addKey cX4_addKey 3 none ∈ gWs := gWs_in (gT_2 (List.mem_of_getElem? (i := 189) rfl)) rfl
theorem mM_X3_52 : Cond.methodLink RX3 52 yX6_split ∈ gWs := gWs_in (gT_2 (List.mem_of_getElem? (i := 190) rfl)) rfl
theorem mI_X6_split : Cond.instanceMethod yX6_split ∈ gWs := gWs_in (gT_2 (List.mem_of_getElem? (i := 191) rfl)) rfl
theorem mE_X6_split : Cond.selects RX6 yX6_split yX6_split ∈ gWs := gWs_in (gT_2 (List.mem_of_getElem? (i := 192) rfl)) rfl
theorem mC_X6_split : Cond.code yX6_split cX6_split 6 none ∈ gWs := gWs_in (gT_2 (List.mem_of_getElem? (i := 193) rfl)) rfl
theorem mM_X6_28 : Cond.methodLink RX6 28 yX6_isLetter ∈ gWs := gWs_in (gT_2 (List.mem_of_getElem? (i := 194) rfl)) rfl
theorem mS_X6_isLetter : Cond.static yX6_isLetter ∈ gWs := gWs_in (gT_2 (List.mem_of_getElem? (i := 195) rfl)) rfl
theorem mC_X6_isLetter : Cond.code yX6_isLetter cX6_isLetter 1 (some .boolean) ∈ gWs := gWs_in (gT_2 (List.mem_of_getElem? (i := 196) rfl)) rfl
theorem mM_X6_32 : Cond.methodLink RX6 32 yX6_putWord ∈ gWs := gWs_in (gT_2 (List.mem_of_getElem? (i := 197) rfl)) rfl
theorem mI_X6_putWord : Cond.instanceMethod yX6_putWord ∈ gWs := gWs_in (gT_2 (List.mem_of_getElem? (i := 199) rfl)) rfl
theorem mC_X6_putWord : Cond.code yX6_putWord cX6_putWord 5 (some .int) ∈ gWs := gWs_in (gT_2 (List.mem_of_getElem? (i := 200) rfl)) rfl
theorem mM_X6_49 : Cond.methodLink RX6 49 yX6_wordKind ∈ gWs := gWs_in (gT_2 (List.mem_of_getElem? (i := 201) rfl)) rfl
theorem mS_X6_wordKind : Cond.static yX6_wordKind ∈ gWs := gWs_in (gT_2 (List.mem_of_getElem? (i := 202) rfl)) rfl
theorem mC_X6_wordKind : Cond.code yX6_wordKind cX6_wordKind 8 (some .int) ∈ gWs := gWs_in (gT_2 (List.mem_of_getElem? (i := 203) rfl)) rfl
theorem mM_X6_54 : Cond.methodLink RX6 54 yJ0_length_8abf5 ∈ gWs := gWs_in (gT_2 (List.mem_of_getElem? (i := 205) rfl)) rfl
theorem mI_J0_length_8abf5 : Cond.instanceMethod yJ0_length_8abf5 ∈ gWs := gWs_in (gT_2 (List.mem_of_getElem? (i := 206) rfl)) rfl
theorem mE_J0_length_8abf5 : Cond.selects RJ0 yJ0_length_8abf5 yJ0_length_8abf5 ∈ gWs := gWs_in (gT_2 (List.mem_of_getElem? (i := 207) rfl)) rfl
theorem mC_J0_length_8abf5 : Cond.code yJ0_length_8abf5 cJ0_length_8abf5 1 (some .int) ∈ gWs := gWs_in (gT_2 (List.mem_of_getElem? (i := 208) rfl)) rfl
theorem mM_J0_335 : Cond.methodLink RJ0 335 yJ0_coder_7d493 ∈ gWs := gWs_in (gT_2 (List.mem_of_getElem? (i := 209) rfl)) rfl
theorem mI_J0_coder_7d493 : Cond.instanceMethod yJ0_coder_7d493 ∈ gWs := gWs_in (gT_2 (List.mem_of_getElem? (i := 210) rfl)) rfl
theorem mE_J0_coder_7d493 : Cond.selects RJ0 yJ0_coder_7d493 yJ0_coder_7d493 ∈ gWs := gWs_in (gT_2 (List.mem_of_getElem? (i := 211) rfl)) rfl
theorem mC_J0_coder_7d493 : Cond.code yJ0_coder_7d493 cJ0_coder_7d493 1 (some .byte) ∈ gWs := gWs_in (gT_2 (List.mem_of_getElem? (i := 212) rfl)) rfl
theorem mF_J0_38 : Cond.fieldLink RJ0 38 "java/lang/String" "COMPACT_STRINGS" "Z" ∈ gWs := gWs_in (gT_2 (List.mem_of_getElem? (i := 213) rfl)) rfl
theorem mM_X6_60 : Cond.methodLink RX6 60 yJ0_charAt_5068e ∈ gWs := gWs_in (gT_2 (List.mem_of_getElem? (i := 215) rfl)) rfl
theorem mI_J0_charAt_5068e : Cond.instanceMethod yJ0_charAt_5068e ∈ gWs := gWs_in (gT_2 (List.mem_of_getElem? (i := 216) rfl)) rfl
theorem mE_J0_charAt_5068e : Cond.selects RJ0 yJ0_charAt_5068e yJ0_charAt_5068e ∈ gWs := gWs_in (gT_2 (List.mem_of_getElem? (i := 217) rfl)) rfl
theorem mC_J0_charAt_5068e : Cond.code yJ0_charAt_5068e cJ0_charAt_5068e 2 (some .char) ∈ gWs := gWs_in (gT_2 (List.mem_of_getElem? (i := 218) rfl)) rfl
theorem mM_J0_492 : Cond.methodLink RJ0 492 yJ0_isLatin1_aae02 ∈ gWs := gWs_in (gT_2 (List.mem_of_getElem? (i := 219) rfl)) rfl
theorem mI_J0_isLatin1_aae02 : Cond.instanceMethod yJ0_isLatin1_aae02 ∈ gWs := gWs_in (gT_2 (List.mem_of_getElem? (i := 220) rfl)) rfl
theorem mE_J0_isLatin1_aae02 : Cond.selects RJ0 yJ0_isLatin1_aae02 yJ0_isLatin1_aae02 ∈ gWs := gWs_in (gT_2 (List.mem_of_getElem? (i := 221) rfl)) rfl
theorem mC_J0_isLatin1_aae02 : Cond.code yJ0_isLatin1_aae02 cJ0_isLatin1_aae02 1 (some .boolean) ∈ gWs := gWs_in (gT_2 (List.mem_of_getElem? (i := 222) rfl)) rfl
theorem mM_J0_495 : Cond.methodLink RJ0 495 yJ1_charAt_3b067 ∈ gWs := gWs_in (gT_2 (List.mem_of_getElem? (i := 223) rfl)) rfl
theorem mS_J1_charAt_3b067 : Cond.static yJ1_charAt_3b067 ∈ gWs := gWs_in (gT_2 (List.mem_of_getElem? (i := 224) rfl)) rfl
theorem mC_J1_charAt_3b067 : Cond.code yJ1_charAt_3b067 cJ1_charAt_3b067 2 (some .char) ∈ gWs := gWs_in (gT_2 (List.mem_of_getElem? (i := 225) rfl)) rfl
theorem mM_J1_9 : Cond.methodLink RJ1 9 yJ0_checkIndex_df160 ∈ gWs := gWs_in (gT_2 (List.mem_of_getElem? (i := 226) rfl)) rfl
theorem mS_J0_checkIndex_df160 : Cond.static yJ0_checkIndex_df160 ∈ gWs := gWs_in (gT_2 (List.mem_of_getElem? (i := 227) rfl)) rfl
theorem mC_J0_checkIndex_df160 : Cond.code yJ0_checkIndex_df160 cJ0_checkIndex_df160 2 none ∈ gWs := gWs_in (gT_2 (List.mem_of_getElem? (i := 228) rfl)) rfl
theorem mF_J0_1053 : Cond.fieldLink RJ0 1053 "jdk/internal/util/Preconditions" "SIOOBE_FORMATTER" "Ljava/util/function/BiFunction;" ∈ gWs := gWs_in (gT_2 (List.mem_of_getElem? (i := 229) rfl)) rfl
theorem mM_J0_1059 : Cond.methodLink RJ0 1059 yJ3_checkIndex_8e157 ∈ gWs := gWs_in (gT_2 (List.mem_of_getElem? (i := 231) rfl)) rfl
theorem mS_J3_checkIndex_8e157 : Cond.static yJ3_checkIndex_8e157 ∈ gWs := gWs_in (gT_2 (List.mem_of_getElem? (i := 232) rfl)) rfl
theorem mC_J3_checkIndex_8e157 : Cond.code yJ3_checkIndex_8e157 cJ3_checkIndex_8e157 3 (some .int) ∈ gWs := gWs_in (gT_2 (List.mem_of_getElem? (i := 233) rfl)) rfl
theorem mM_J0_498 : Cond.methodLink RJ0 498 yJ2_charAt_3b067 ∈ gWs := gWs_in (gT_2 (List.mem_of_getElem? (i := 234) rfl)) rfl
theorem mS_J2_charAt_3b067 : Cond.static yJ2_charAt_3b067 ∈ gWs := gWs_in (gT_2 (List.mem_of_getElem? (i := 235) rfl)) rfl
theorem mC_J2_charAt_3b067 : Cond.code yJ2_charAt_3b067 cJ2_charAt_3b067 2 (some .char) ∈ gWs := gWs_in (gT_2 (List.mem_of_getElem? (i := 236) rfl)) rfl
theorem mM_J2_67 : Cond.methodLink RJ2 67 yJ2_checkIndex_2214a ∈ gWs := gWs_in (gT_2 (List.mem_of_getElem? (i := 237) rfl)) rfl
theorem mS_J2_checkIndex_2214a : Cond.static yJ2_checkIndex_2214a ∈ gWs := gWs_in (gT_2 (List.mem_of_getElem? (i := 238) rfl)) rfl
theorem mC_J2_checkIndex_2214a : Cond.code yJ2_checkIndex_2214a cJ2_checkIndex_2214a 2 none ∈ gWs := gWs_in (gT_2 (List.mem_of_getElem? (i := 239) rfl)) rfl
theorem mM_J2_48 : Cond.methodLink RJ2 48 yJ2_length_9d52b ∈ gWs := gWs_in (gT_3 (List.mem_of_getElem? (i := 0) rfl)) rfl
theorem mS_J2_length_9d52b : Cond.static yJ2_length_9d52b ∈ gWs := gWs_in (gT_3 (List.mem_of_getElem? (i := 1) rfl)) rfl
theorem mC_J2_length_9d52b : Cond.code yJ2_length_9d52b cJ2_length_9d52b 1 (some .int) ∈ gWs := gWs_in (gT_3 (List.mem_of_getElem? (i := 2) rfl)) rfl
theorem mM_J2_414 : Cond.methodLink RJ2 414 yJ0_checkIndex_df160 ∈ gWs := gWs_in (gT_3 (List.mem_of_getElem? (i := 3) rfl)) rfl
theorem mM_J2_71 : Cond.methodLink RJ2 71 yJ2_getChar_3b067 ∈ gWs := gWs_in (gT_3 (List.mem_of_getElem? (i := 4) rfl)) rfl
theorem mS_J2_getChar_3b067 : Cond.static yJ2_getChar_3b067 ∈ gWs := gWs_in (gT_3 (List.mem_of_getElem? (i := 5) rfl)) rfl
theorem mC_J2_getChar_3b067 : Cond.code yJ2_getChar_3b067 cJ2_getChar_3b067 2 (some .char) ∈ gWs := gWs_in (gT_3 (List.mem_of_getElem? (i := 6) rfl)) rfl
theorem mF_J2_44 : Cond.fieldLink RJ2 44 "java/lang/StringUTF16" "$assertionsDisabled" "Z" ∈ gWs := gWs_in (gT_3 (List.mem_of_getElem? (i := 7) rfl)) rfl
theorem mF_J2_59 : Cond.fieldLink RJ2 59 "java/lang/StringUTF16" "HI_BYTE_SHIFT" "I" ∈ gWs := gWs_in (gT_3 (List.mem_of_getElem? (i := 9) rfl)) rfl
theorem mF_J2_63 : Cond.fieldLink RJ2 63 "java/lang/StringUTF16" "LO_BYTE_SHIFT" "I" ∈ gWs := gWs_in (gT_3 (List.mem_of_getElem? (i := 11) rfl)) rfl
theorem mM_X6_45 : Cond.methodLink RX6 45 yX6_put ∈ gWs := gWs_in (gT_3 (List.mem_of_getElem? (i := 13) rfl)) rfl
theorem mI_X6_put : Cond.instanceMethod yX6_put ∈ gWs := gWs_in (gT_3 (List.mem_of_getElem? (i := 15) rfl)) rfl
theorem mC_X6_put : Cond.code yX6_put cX6_put 4 none ∈ gWs := gWs_in (gT_3 (List.mem_of_getElem? (i := 16) rfl)) rfl
theorem mM_X6_36 : Cond.methodLink RX6 36 yX6_isDigit ∈ gWs := gWs_in (gT_3 (List.mem_of_getElem? (i := 17) rfl)) rfl
theorem mS_X6_isDigit : Cond.static yX6_isDigit ∈ gWs := gWs_in (gT_3 (List.mem_of_getElem? (i := 18) rfl)) rfl
theorem mC_X6_isDigit : Cond.code yX6_isDigit cX6_isDigit 1 (some .boolean) ∈ gWs := gWs_in (gT_3 (List.mem_of_getElem? (i := 19) rfl)) rfl
theorem mM_X6_39 : Cond.methodLink RX6 39 yX6_putNumber ∈ gWs := gWs_in (gT_3 (List.mem_of_getElem? (i := 20) rfl)) rfl
theorem mI_X6_putNumber : Cond.instanceMethod yX6_putNumber ∈ gWs := gWs_in (gT_3 (List.mem_of_getElem? (i := 22) rfl)) rfl
theorem mC_X6_putNumber : Cond.code yX6_putNumber cX6_putNumber 6 (some .int) ∈ gWs := gWs_in (gT_3 (List.mem_of_getElem? (i := 23) rfl)) rfl
theorem mM_X6_42 : Cond.methodLink RX6 42 yX6_isSign ∈ gWs := gWs_in (gT_3 (List.mem_of_getElem? (i := 24) rfl)) rfl
theorem mS_X6_isSign : Cond.static yX6_isSign ∈ gWs := gWs_in (gT_3 (List.mem_of_getElem? (i := 25) rfl)) rfl
theorem mC_X6_isSign : Cond.code yX6_isSign cX6_isSign 1 (some .boolean) ∈ gWs := gWs_in (gT_3 (List.mem_of_getElem? (i := 26) rfl)) rfl
theorem mM_X3_56 : Cond.methodLink RX3 56 yX6_kind ∈ gWs := gWs_in (gT_3 (List.mem_of_getElem? (i := 27) rfl)) rfl
theorem mI_X6_kind : Cond.instanceMethod yX6_kind ∈ gWs := gWs_in (gT_3 (List.mem_of_getElem? (i := 28) rfl)) rfl
theorem mE_X6_kind : Cond.selects RX6 yX6_kind yX6_kind ∈ gWs := gWs_in (gT_3 (List.mem_of_getElem? (i := 29) rfl)) rfl
theorem mC_X6_kind : Cond.code yX6_kind cX6_kind 1 (some .int) ∈ gWs := gWs_in (gT_3 (List.mem_of_getElem? (i := 30) rfl)) rfl
theorem mM_X3_60 : Cond.methodLink RX3 60 yX3_readLaw ∈ gWs := gWs_in (gT_3 (List.mem_of_getElem? (i := 31) rfl)) rfl
theorem mI_X3_readLaw : Cond.instanceMethod yX3_readLaw ∈ gWs := gWs_in (gT_3 (List.mem_of_getElem? (i := 33) rfl)) rfl
theorem mC_X3_readLaw : Cond.code yX3_readLaw cX3_readLaw 1 none ∈ gWs := gWs_in (gT_3 (List.mem_of_getElem? (i := 34) rfl)) rfl
theorem mM_X3_63 : Cond.methodLink RX3 63 yX3_readRound ∈ gWs := gWs_in (gT_3 (List.mem_of_getElem? (i := 35) rfl)) rfl
theorem mI_X3_readRound : Cond.instanceMethod yX3_readRound ∈ gWs := gWs_in (gT_3 (List.mem_of_getElem? (i := 37) rfl)) rfl
theorem mC_X3_readRound : Cond.code yX3_readRound cX3_readRound 3 none ∈ gWs := gWs_in (gT_3 (List.mem_of_getElem? (i := 38) rfl)) rfl
theorem mM_X3_66 : Cond.methodLink RX3 66 yX3_refuseIf ∈ gWs := gWs_in (gT_3 (List.mem_of_getElem? (i := 39) rfl)) rfl
theorem mI_X3_refuseIf : Cond.instanceMethod yX3_refuseIf ∈ gWs := gWs_in (gT_3 (List.mem_of_getElem? (i := 41) rfl)) rfl
theorem mC_X3_refuseIf : Cond.code yX3_refuseIf cX3_refuseIf 3 none ∈ gWs := gWs_in (gT_3 (List.mem_of_getElem? (i := 42) rfl)) rfl
theorem mM_X3_78 : Cond.methodLink RX3 78 yX3_note ∈ gWs := gWs_in (gT_3 (List.mem_of_getElem? (i := 43) rfl)) rfl
theorem mI_X3_note : Cond.instanceMethod yX3_note ∈ gWs := gWs_in (gT_3 (List.mem_of_getElem? (i := 45) rfl)) rfl
theorem mC_X3_note : Cond.code yX3_note cX3_note 2 none ∈ gWs := gWs_in (gT_3 (List.mem_of_getElem? (i := 46) rfl)) rfl
theorem mM_X3_94 : Cond.methodLink RX3 94 yX6_place ∈ gWs := gWs_in (gT_3 (List.mem_of_getElem? (i := 47) rfl)) rfl
theorem mI_X6_place : Cond.instanceMethod yX6_place ∈ gWs := gWs_in (gT_3 (List.mem_of_getElem? (i := 48) rfl)) rfl
theorem mE_X6_place : Cond.selects RX6 yX6_place yX6_place ∈ gWs := gWs_in (gT_3 (List.mem_of_getElem? (i := 49) rfl)) rfl
theorem mC_X6_place : Cond.code yX6_place cX6_place 1 (some .int) ∈ gWs := gWs_in (gT_3 (List.mem_of_getElem? (i := 50) rfl)) rfl
theorem mM_X3_70 : Cond.methodLink RX3 70 yX3_goOn ∈ gWs := gWs_in (gT_3 (List.mem_of_getElem? (i := 51) rfl)) rfl
theorem mI_X3_goOn : Cond.instanceMethod yX3_goOn ∈ gWs := gWs_in (gT_3 (List.mem_of_getElem? (i := 53) rfl)) rfl
theorem mC_X3_goOn : Cond.code yX3_goOn cX3_goOn 1 (some .boolean) ∈ gWs := gWs_in (gT_3 (List.mem_of_getElem? (i := 54) rfl)) rfl
theorem mM_X3_97 : Cond.methodLink RX3 97 yX6_step ∈ gWs := gWs_in (gT_3 (List.mem_of_getElem? (i := 55) rfl)) rfl
theorem mI_X6_step : Cond.instanceMethod yX6_step ∈ gWs := gWs_in (gT_3 (List.mem_of_getElem? (i := 56) rfl)) rfl
theorem mE_X6_step : Cond.selects RX6 yX6_step yX6_step ∈ gWs := gWs_in (gT_3 (List.mem_of_getElem? (i := 57) rfl)) rfl
theorem mC_X6_step : Cond.code yX6_step cX6_step 1 none ∈ gWs := gWs_in (gT_3 (List.mem_of_getElem? (i := 58) rfl)) rfl
theorem mM_X3_103 : Cond.methodLink RX3 103 yX6_value ∈ gWs := gWs_in (gT_3 (List.mem_of_getElem? (i := 59) rfl)) rfl
theorem mI_X6_value : Cond.instanceMethod yX6_value ∈ gWs := gWs_in (gT_3 (List.mem_of_getElem? (i := 60) rfl)) rfl
theorem mE_X6_value : Cond.selects RX6 yX6_value yX6_value ∈ gWs := gWs_in (gT_3 (List.mem_of_getElem? (i := 61) rfl)) rfl
theorem mC_X6_value : Cond.code yX6_value cX6_value 1 (some .int) ∈ gWs := gWs_in (gT_3 (List.mem_of_getElem? (i := 62) rfl)) rfl
theorem mM_X3_91 : Cond.methodLink RX3 91 yX3_pass ∈ gWs := gWs_in (gT_3 (List.mem_of_getElem? (i := 67) rfl)) rfl
theorem mI_X3_pass : Cond.instanceMethod yX3_pass ∈ gWs := gWs_in (gT_3 (List.mem_of_getElem? (i := 69) rfl)) rfl
theorem mC_X3_pass : Cond.code yX3_pass cX3_pass 2 none ∈ gWs := gWs_in (gT_3 (List.mem_of_getElem? (i := 70) rfl)) rfl
theorem mM_X3_88 : Cond.methodLink RX3 88 yX3_refuseToken ∈ gWs := gWs_in (gT_3 (List.mem_of_getElem? (i := 71) rfl)) rfl
theorem mI_X3_refuseToken : Cond.instanceMethod yX3_refuseToken ∈ gWs := gWs_in (gT_3 (List.mem_of_getElem? (i := 73) rfl)) rfl
theorem mC_X3_refuseToken : Cond.code yX3_refuseToken cX3_refuseToken 1 none ∈ gWs := gWs_in (gT_3 (List.mem_of_getElem? (i := 74) rfl)) rfl
theorem mM_X3_74 : Cond.methodLink RX3 74 yX1_read ∈ gWs := gWs_in (gT_3 (List.mem_of_getElem? (i := 75) rfl)) rfl
theorem mI_X1_read : Cond.instanceMethod yX1_read ∈ gWs := gWs_in (gT_3 (List.mem_of_getElem? (i := 76) rfl)) rfl
theorem mE_X1_read : Cond.selects RX1 yX1_read yX1_read ∈ gWs := gWs_in (gT_3 (List.mem_of_getElem? (i := 77) rfl)) rfl
theorem mC_X1_read : Cond.code yX1_read cX1_read 5 (some .int) ∈ gWs := gWs_in (gT_3 (List.mem_of_getElem? (i := 78) rfl)) rfl
theorem mM_X1_34 : Cond.methodLink RX1 34 yX6_kind ∈ gWs := gWs_in (gT_3 (List.mem_of_getElem? (i := 79) rfl)) rfl
theorem mM_X1_40 : Cond.methodLink RX1 40 yX1_release ∈ gWs := gWs_in (gT_3 (List.mem_of_getElem? (i := 80) rfl)) rfl
theorem mI_X1_release : Cond.instanceMethod yX1_release ∈ gWs := gWs_in (gT_3 (List.mem_of_getElem? (i := 82) rfl)) rfl
theorem mC_X1_release : Cond.code yX1_release cX1_release 3 none ∈ gWs := gWs_in (gT_3 (List.mem_of_getElem? (i := 83) rfl)) rfl
theorem mM_X1_61 : Cond.methodLink RX1 61 yX4_addItem ∈ gWs := gWs_in (gT_3 (List.mem_of_getElem? (i := 84) rfl)) rfl
theorem mM_X1_44 : Cond.methodLink RX1 44 yX1_readBehindFactor ∈ gWs := gWs_in (gT_3 (List.mem_of_getElem? (i := 85) rfl)) rfl
theorem mI_X1_readBehindFactor : Cond.instanceMethod yX1_readBehindFactor ∈ gWs := gWs_in (gT_3 (List.mem_of_getElem? (i := 87) rfl)) rfl
theorem mC_X1_readBehindFactor : Cond.code yX1_readBehindFactor cX1_readBehindFactor 3 (some .boolean) ∈ gWs := gWs_in (gT_3 (List.mem_of_getElem? (i := 88) rfl)) rfl
theorem mM_X1_76 : Cond.methodLink RX1 76 yX1_putSign ∈ gWs := gWs_in (gT_3 (List.mem_of_getElem? (i := 89) rfl)) rfl
theorem mI_X1_putSign : Cond.instanceMethod yX1_putSign ∈ gWs := gWs_in (gT_3 (List.mem_of_getElem? (i := 91) rfl)) rfl
theorem mC_X1_putSign : Cond.code yX1_putSign cX1_putSign 3 none ∈ gWs := gWs_in (gT_3 (List.mem_of_getElem? (i := 92) rfl)) rfl
theorem mM_X1_55 : Cond.methodLink RX1 55 yX1_countItem ∈ gWs := gWs_in (gT_3 (List.mem_of_getElem? (i := 93) rfl)) rfl
theorem mI_X1_countItem : Cond.instanceMethod yX1_countItem ∈ gWs := gWs_in (gT_3 (List.mem_of_getElem? (i := 95) rfl)) rfl
theorem mC_X1_countItem : Cond.code yX1_countItem cX1_countItem 1 none ∈ gWs := gWs_in (gT_3 (List.mem_of_getElem? (i := 96) rfl)) rfl
theorem mM_X1_82 : Cond.methodLink RX1 82 yX1_await ∈ gWs := gWs_in (gT_3 (List.mem_of_getElem? (i := 97) rfl)) rfl
theorem mI_X1_await : Cond.instanceMethod yX1_await ∈ gWs := gWs_in (gT_3 (List.mem_of_getElem? (i := 99) rfl)) rfl
theorem mC_X1_await : Cond.code yX1_await cX1_await 2 none ∈ gWs := gWs_in (gT_3 (List.mem_of_getElem? (i := 100) rfl)) rfl
theorem mM_X1_79 : Cond.methodLink RX1 79 yX1_closeParen ∈ gWs := gWs_in (gT_3 (List.mem_of_getElem? (i := 101) rfl)) rfl
theorem mI_X1_closeParen : Cond.instanceMethod yX1_closeParen ∈ gWs := gWs_in (gT_3 (List.mem_of_getElem? (i := 103) rfl)) rfl
theorem mC_X1_closeParen : Cond.code yX1_closeParen cX1_closeParen 2 none ∈ gWs := gWs_in (gT_3 (List.mem_of_getElem? (i := 104) rfl)) rfl
theorem mM_X1_73 : Cond.methodLink RX1 73 yX1_refuseToken ∈ gWs := gWs_in (gT_3 (List.mem_of_getElem? (i := 105) rfl)) rfl
theorem mI_X1_refuseToken : Cond.instanceMethod yX1_refuseToken ∈ gWs := gWs_in (gT_3 (List.mem_of_getElem? (i := 107) rfl)) rfl
theorem mC_X1_refuseToken : Cond.code yX1_refuseToken cX1_refuseToken 2 none ∈ gWs := gWs_in (gT_3 (List.mem_of_getElem? (i := 108) rfl)) rfl
theorem mM_X1_85 : Cond.methodLink RX1 85 yJ9_max_7cf53 ∈ gWs := gWs_in (gT_3 (List.mem_of_getElem? (i := 109) rfl)) rfl
theorem mS_J9_max_7cf53 : Cond.static yJ9_max_7cf53 ∈ gWs := gWs_in (gT_3 (List.mem_of_getElem? (i := 110) rfl)) rfl
theorem mC_J9_max_7cf53 : Cond.code yJ9_max_7cf53 cJ9_max_7cf53 2 (some .int) ∈ gWs := gWs_in (gT_3 (List.mem_of_getElem? (i := 111) rfl)) rfl
theorem mM_X1_65 : Cond.methodLink RX1 65 yX1_releaseNegations ∈ gWs := gWs_in (gT_3 (List.mem_of_getElem? (i := 112) rfl)) rfl
theorem mI_X1_releaseNegations : Cond.instanceMethod yX1_releaseNegations ∈ gWs := gWs_in (gT_3 (List.mem_of_getElem? (i := 114) rfl)) rfl
theorem mC_X1_releaseNegations : Cond.code yX1_releaseNegations cX1_releaseNegations 2 none ∈ gWs := gWs_in (gT_3 (List.mem_of_getElem? (i := 115) rfl)) rfl
theorem mM_X1_48 : Cond.methodLink RX1 48 yX1_readFactor ∈ gWs := gWs_in (gT_3 (List.mem_of_getElem? (i := 116) rfl)) rfl
theorem mI_X1_readFactor : Cond.instanceMethod yX1_readFactor ∈ gWs := gWs_in (gT_3 (List.mem_of_getElem? (i := 118) rfl)) rfl
theorem mC_X1_readFactor : Cond.code yX1_readFactor cX1_readFactor 5 (some .boolean) ∈ gWs := gWs_in (gT_3 (List.mem_of_getElem? (i := 119) rfl)) rfl
theorem mM_X1_58 : Cond.methodLink RX1 58 yX6_value ∈ gWs := gWs_in (gT_3 (List.mem_of_getElem? (i := 120) rfl)) rfl
theorem mM_X1_69 : Cond.methodLink RX1 69 yX1_nest ∈ gWs := gWs_in (gT_3 (List.mem_of_getElem? (i := 121) rfl)) rfl
theorem mI_X1_nest : Cond.instanceMethod yX1_nest ∈ gWs := gWs_in (gT_3 (List.mem_of_getElem? (i := 123) rfl)) rfl
theorem mC_X1_nest : Cond.code yX1_nest cX1_nest 2 none ∈ gWs := gWs_in (gT_3 (List.mem_of_getElem? (i := 124) rfl)) rfl
theorem mM_X1_52 : Cond.methodLink RX1 52 yX6_step ∈ gWs := gWs_in (gT_3 (List.mem_of_getElem? (i := 125) rfl)) rfl
theorem mM_X3_82 : Cond.methodLink RX3 82 yX3_readKeys ∈ gWs := gWs_in (gT_3 (List.mem_of_getElem? (i := 126) rfl)) rfl
theorem mI_X3_readKeys : Cond.instanceMethod yX3_readKeys ∈ gWs := gWs_in (gT_3 (List.mem_of_getElem? (i := 128) rfl)) rfl
theorem mC_X3_readKeys : Cond.code yX3_readKeys cX3_readKeys 2 none ∈ gWs := gWs_in (gT_3 (List.mem_of_getElem? (i := 129) rfl)) rfl
theorem mM_X3_119 : Cond.methodLink RX3 119 yX3_readKey ∈ gWs := gWs_in (gT_3 (List.mem_of_getElem? (i := 130) rfl)) rfl
theorem mI_X3_readKey : Cond.instanceMethod yX3_readKey ∈ gWs := gWs_in (gT_3 (List.mem_of_getElem? (i := 132) rfl)) rfl
theorem mC_X3_readKey : Cond.code yX3_readKey cX3_readKey 3 none ∈ gWs := gWs_in (gT_3 (List.mem_of_getElem? (i := 133) rfl)) rfl
theorem mM_X3_122 : Cond.methodLink RX3 122 yX4_addKey ∈ gWs := gWs_in (gT_3 (List.mem_of_getElem? (i := 134) rfl)) rfl
theorem mM_X3_85 : Cond.methodLink RX3 85 yX3_readTies ∈ gWs := gWs_in (gT_3 (List.mem_of_getElem? (i := 135) rfl)) rfl
theorem mI_X3_readTies : Cond.instanceMethod yX3_readTies ∈ gWs := gWs_in (gT_3 (List.mem_of_getElem? (i := 137) rfl)) rfl
theorem mC_X3_readTies : Cond.code yX3_readTies cX3_readTies 1 none ∈ gWs := gWs_in (gT_3 (List.mem_of_getElem? (i := 138) rfl)) rfl
theorem mM_X10_103 : Cond.methodLink RX10 103 yX4_take ∈ gWs := gWs_in (gT_3 (List.mem_of_getElem? (i := 139) rfl)) rfl
theorem mI_X4_take : Cond.instanceMethod yX4_take ∈ gWs := gWs_in (gT_3 (List.mem_of_getElem? (i := 140) rfl)) rfl
theorem mE_X4_take : Cond.selects RX4 yX4_take yX4_take ∈ gWs := gWs_in (gT_3 (List.mem_of_getElem? (i := 141) rfl)) rfl
theorem mC_X4_take : Cond.code yX4_take cX4_take 2 none ∈ gWs := gWs_in (gT_3 (List.mem_of_getElem? (i := 142) rfl)) rfl
theorem mM_X4_53 : Cond.methodLink RX4 53 ⟨"java/lang/System", "arraycopy", "(Ljava/lang/Object;ILjava/lang/Object;II)V"⟩ ∈ gWs := gWs_in (gT_3 (List.mem_of_getElem? (i := 143) rfl)) rfl
theorem mS_java_lang_System_arraycopy__Ljava_lang_Object_ILjava_lang_Object_II_V : Cond.static ⟨"java/lang/System", "arraycopy", "(Ljava/lang/Object;ILjava/lang/Object;II)V"⟩ ∈ gWs := gWs_in (gT_3 (List.mem_of_getElem? (i := 144) rfl)) rfl
theorem mV_java_lang_System_arraycopy__Ljava_lang_Object_ILjava_lang_Object_II_V : Cond.native ⟨"java/lang/System", "arraycopy", "(Ljava/lang/Object;ILjava/lang/Object;II)V"⟩ ∈ gWs := gWs_in (gT_3 (List.mem_of_getElem? (i := 145) rfl)) rfl
theorem mM_X10_107 : Cond.methodLink RX10 107 yX8_clear ∈ gWs := gWs_in (gT_3 (List.mem_of_getElem? (i := 146) rfl)) rfl
theorem mI_X8_clear : Cond.instanceMethod yX8_clear ∈ gWs := gWs_in (gT_3 (List.mem_of_getElem? (i := 147) rfl)) rfl
theorem mE_X8_clear : Cond.selects RX8 yX8_clear yX8_clear ∈ gWs := gWs_in (gT_3 (List.mem_of_getElem? (i := 148) rfl)) rfl
theorem mC_X8_clear : Cond.code yX8_clear cX8_clear 1 none ∈ gWs := gWs_in (gT_3 (List.mem_of_getElem? (i := 149) rfl)) rfl
theorem mM_X8_21 : Cond.methodLink RX8 21 yJ7_fill_53178 ∈ gWs := gWs_in (gT_3 (List.mem_of_getElem? (i := 150) rfl)) rfl
theorem mS_J7_fill_53178 : Cond.static yJ7_fill_53178 ∈ gWs := gWs_in (gT_3 (List.mem_of_getElem? (i := 151) rfl)) rfl
theorem mC_J7_fill_53178 : Cond.code yJ7_fill_53178 cJ7_fill_53178 4 none ∈ gWs := gWs_in (gT_3 (List.mem_of_getElem? (i := 152) rfl)) rfl
theorem mM_X10_110 : Cond.methodLink RX10 110 yX2_clear ∈ gWs := gWs_in (gT_3 (List.mem_of_getElem? (i := 153) rfl)) rfl
theorem mI_X2_clear : Cond.instanceMethod yX2_clear ∈ gWs := gWs_in (gT_3 (List.mem_of_getElem? (i := 154) rfl)) rfl
theorem mE_X2_clear : Cond.selects RX2 yX2_clear yX2_clear ∈ gWs := gWs_in (gT_3 (List.mem_of_getElem? (i := 155) rfl)) rfl
theorem mC_X2_clear : Cond.code yX2_clear cX2_clear 1 none ∈ gWs := gWs_in (gT_3 (List.mem_of_getElem? (i := 156) rfl)) rfl
theorem mM_X10_111 : Cond.methodLink RX10 111 yX7_clear ∈ gWs := gWs_in (gT_3 (List.mem_of_getElem? (i := 157) rfl)) rfl
theorem mI_X7_clear : Cond.instanceMethod yX7_clear ∈ gWs := gWs_in (gT_3 (List.mem_of_getElem? (i := 158) rfl)) rfl
theorem mE_X7_clear : Cond.selects RX7 yX7_clear yX7_clear ∈ gWs := gWs_in (gT_3 (List.mem_of_getElem? (i := 159) rfl)) rfl
theorem mC_X7_clear : Cond.code yX7_clear cX7_clear 1 none ∈ gWs := gWs_in (gT_3 (List.mem_of_getElem? (i := 160) rfl)) rfl
theorem mM_X7_40 : Cond.methodLink RX7 40 yJ7_fill_53178 ∈ gWs := gWs_in (gT_3 (List.mem_of_getElem? (i := 161) rfl)) rfl
theorem mM_X10_112 : Cond.methodLink RX10 112 yX0_clear ∈ gWs := gWs_in (gT_3 (List.mem_of_getElem? (i := 162) rfl)) rfl
theorem mI_X0_clear : Cond.instanceMethod yX0_clear ∈ gWs := gWs_in (gT_3 (List.mem_of_getElem? (i := 163) rfl)) rfl
theorem mE_X0_clear : Cond.selects RX0 yX0_clear yX0_clear ∈ gWs := gWs_in (gT_3 (List.mem_of_getElem? (i := 164) rfl)) rfl
theorem mC_X0_clear : Cond.code yX0_clear cX0_clear 1 none ∈ gWs := gWs_in (gT_3 (List.mem_of_getElem? (i := 165) rfl)) rfl
theorem mM_X10_113 : Cond.methodLink RX10 113 yX9_clear ∈ gWs := gWs_in (gT_3 (List.mem_of_getElem? (i := 166) rfl)) rfl
theorem mI_X9_clear : Cond.instanceMethod yX9_clear ∈ gWs := gWs_in (gT_3 (List.mem_of_getElem? (i := 167) rfl)) rfl
theorem mE_X9_clear : Cond.selects RX9 yX9_clear yX9_clear ∈ gWs := gWs_in (gT_3 (List.mem_of_getElem? (i := 168) rfl)) rfl
theorem mC_X9_clear : Cond.code yX9_clear cX9_clear 1 none ∈ gWs := gWs_in (gT_3 (List.mem_of_getElem? (i := 169) rfl)) rfl
theorem mM_X9_21 : Cond.methodLink RX9 21 yJ7_fill_53178 ∈ gWs := gWs_in (gT_3 (List.mem_of_getElem? (i := 170) rfl)) rfl
theorem mM_X10_120 : Cond.methodLink RX10 120 yX10_answer ∈ gWs := gWs_in (gT_3 (List.mem_of_getElem? (i := 171) rfl)) rfl
theorem mI_X10_answer : Cond.instanceMethod yX10_answer ∈ gWs := gWs_in (gT_3 (List.mem_of_getElem? (i := 173) rfl)) rfl
theorem mC_X10_answer : Cond.code yX10_answer cX10_answer 2 (some .int) ∈ gWs := gWs_in (gT_3 (List.mem_of_getElem? (i := 174) rfl)) rfl
theorem mA_byte : Cond.arrayClass .byte ∈ gWs := gWs_in (gT_3 (List.mem_of_getElem? (i := 175) rfl)) rfl
theorem mM_L_28 : Cond.methodLink RL 28 yX10_fault ∈ gWs := gWs_in (gT_3 (List.mem_of_getElem? (i := 176) rfl)) rfl
theorem mI_X10_fault : Cond.instanceMethod yX10_fault ∈ gWs := gWs_in (gT_3 (List.mem_of_getElem? (i := 177) rfl)) rfl
theorem mE_X10_fault : Cond.selects RX10 yX10_fault yX10_fault ∈ gWs := gWs_in (gT_3 (List.mem_of_getElem? (i := 178) rfl)) rfl
theorem mC_X10_fault : Cond.code yX10_fault cX10_fault 2 (some .int) ∈ gWs := gWs_in (gT_3 (List.mem_of_getElem? (i := 179) rfl)) rfl
theorem mM_L_32 : Cond.methodLink RL 32 yX10_climber ∈ gWs := gWs_in (gT_3 (List.mem_of_getElem? (i := 180) rfl)) rfl
theorem mI_X10_climber : Cond.instanceMethod yX10_climber ∈ gWs := gWs_in (gT_3 (List.mem_of_getElem? (i := 181) rfl)) rfl
theorem mE_X10_climber : Cond.selects RX10 yX10_climber yX10_climber ∈ gWs := gWs_in (gT_3 (List.mem_of_getElem? (i := 182) rfl)) rfl
theorem mC_X10_climber : Cond.code yX10_climber cX10_climber 1 (some .int) ∈ gWs := gWs_in (gT_3 (List.mem_of_getElem? (i := 183) rfl)) rfl
theorem mM_X10_132 : Cond.methodLink RX10 132 yX2_enter ∈ gWs := gWs_in (gT_3 (List.mem_of_getElem? (i := 184) rfl)) rfl
theorem mI_X2_enter : Cond.instanceMethod yX2_enter ∈ gWs := gWs_in (gT_3 (List.mem_of_getElem? (i := 185) rfl)) rfl
theorem mE_X2_enter : Cond.selects RX2 yX2_enter yX2_enter ∈ gWs := gWs_in (gT_3 (List.mem_of_getElem? (i := 186) rfl)) rfl
theorem mC_X2_enter : Cond.code yX2_enter cX2_enter 1 (some .int) ∈ gWs := gWs_in (gT_3 (List.mem_of_getElem? (i := 187) rfl)) rfl
theorem mM_L_36 : Cond.methodLink RL 36 yX10_route ∈ gWs := gWs_in (gT_3 (List.mem_of_getElem? (i := 188) rfl)) rfl
theorem mI_X10_route : Cond.instanceMethod yX10_route ∈ gWs := gWs_in (gT_3 (List.mem_of_getElem? (i := 189) rfl)) rfl
theorem mE_X10_route : Cond.selects RX10 yX10_route yX10_route ∈ gWs := gWs_in (gT_3 (List.mem_of_getElem? (i := 190) rfl)) rfl
theorem mC_X10_route : Cond.code yX10_route cX10_route 7 (some .boolean) ∈ gWs := gWs_in (gT_3 (List.mem_of_getElem? (i := 191) rfl)) rfl
theorem mM_X10_136 : Cond.methodLink RX10 136 yX4_hasRoute ∈ gWs := gWs_in (gT_3 (List.mem_of_getElem? (i := 192) rfl)) rfl
theorem mI_X4_hasRoute : Cond.instanceMethod yX4_hasRoute ∈ gWs := gWs_in (gT_3 (List.mem_of_getElem? (i := 193) rfl)) rfl
theorem mE_X4_hasRoute : Cond.selects RX4 yX4_hasRoute yX4_hasRoute ∈ gWs := gWs_in (gT_3 (List.mem_of_getElem? (i := 194) rfl)) rfl
theorem mC_X4_hasRoute : Cond.code yX4_hasRoute cX4_hasRoute 3 (some .boolean) ∈ gWs := gWs_in (gT_3 (List.mem_of_getElem? (i := 195) rfl)) rfl
theorem mM_X4_59 : Cond.methodLink RX4 59 yX4_hasRound ∈ gWs := gWs_in (gT_3 (List.mem_of_getElem? (i := 196) rfl)) rfl
theorem mI_X4_hasRound : Cond.instanceMethod yX4_hasRound ∈ gWs := gWs_in (gT_3 (List.mem_of_getElem? (i := 197) rfl)) rfl
theorem mE_X4_hasRound : Cond.selects RX4 yX4_hasRound yX4_hasRound ∈ gWs := gWs_in (gT_3 (List.mem_of_getElem? (i := 198) rfl)) rfl
theorem mC_X4_hasRound : Cond.code yX4_hasRound cX4_hasRound 2 (some .boolean) ∈ gWs := gWs_in (gT_3 (List.mem_of_getElem? (i := 199) rfl)) rfl
theorem mM_X10_140 : Cond.methodLink RX10 140 yX10_deny ∈ gWs := gWs_in (gT_3 (List.mem_of_getElem? (i := 200) rfl)) rfl
theorem mI_X10_deny : Cond.instanceMethod yX10_deny ∈ gWs := gWs_in (gT_3 (List.mem_of_getElem? (i := 202) rfl)) rfl
theorem mC_X10_deny : Cond.code yX10_deny cX10_deny 2 (some .boolean) ∈ gWs := gWs_in (gT_3 (List.mem_of_getElem? (i := 203) rfl)) rfl
theorem mM_X10_144 : Cond.methodLink RX10 144 yX10_zonesCanBe ∈ gWs := gWs_in (gT_3 (List.mem_of_getElem? (i := 204) rfl)) rfl
theorem mS_X10_zonesCanBe : Cond.static yX10_zonesCanBe ∈ gWs := gWs_in (gT_3 (List.mem_of_getElem? (i := 205) rfl)) rfl
theorem mC_X10_zonesCanBe : Cond.code yX10_zonesCanBe cX10_zonesCanBe 4 (some .boolean) ∈ gWs := gWs_in (gT_3 (List.mem_of_getElem? (i := 206) rfl)) rfl
theorem mM_X10_309 : Cond.methodLink RX10 309 yX10_zoneCanBe ∈ gWs := gWs_in (gT_3 (List.mem_of_getElem? (i := 207) rfl)) rfl
theorem mS_X10_zoneCanBe : Cond.static yX10_zoneCanBe ∈ gWs := gWs_in (gT_3 (List.mem_of_getElem? (i := 208) rfl)) rfl
theorem mC_X10_zoneCanBe : Cond.code yX10_zoneCanBe cX10_zoneCanBe 4 (some .boolean) ∈ gWs := gWs_in (gT_3 (List.mem_of_getElem? (i := 209) rfl)) rfl
theorem mM_X10_148 : Cond.methodLink RX10 148 yX8_begunOn ∈ gWs := gWs_in (gT_3 (List.mem_of_getElem? (i := 210) rfl)) rfl
theorem mI_X8_begunOn : Cond.instanceMethod yX8_begunOn ∈ gWs := gWs_in (gT_3 (List.mem_of_getElem? (i := 211) rfl)) rfl
theorem mE_X8_begunOn : Cond.selects RX8 yX8_begunOn yX8_begunOn ∈ gWs := gWs_in (gT_3 (List.mem_of_getElem? (i := 212) rfl)) rfl
theorem mC_X8_begunOn : Cond.code yX8_begunOn cX8_begunOn 3 (some .int) ∈ gWs := gWs_in (gT_3 (List.mem_of_getElem? (i := 213) rfl)) rfl
theorem mM_X10_152 : Cond.methodLink RX10 152 yX8_set ∈ gWs := gWs_in (gT_3 (List.mem_of_getElem? (i := 214) rfl)) rfl
theorem mI_X8_set : Cond.instanceMethod yX8_set ∈ gWs := gWs_in (gT_3 (List.mem_of_getElem? (i := 215) rfl)) rfl
theorem mE_X8_set : Cond.selects RX8 yX8_set yX8_set ∈ gWs := gWs_in (gT_3 (List.mem_of_getElem? (i := 216) rfl)) rfl
theorem mC_X8_set : Cond.code yX8_set cX8_set 4 none ∈ gWs := gWs_in (gT_3 (List.mem_of_getElem? (i := 217) rfl)) rfl
theorem mM_X10_156 : Cond.methodLink RX10 156 yX8_setZone ∈ gWs := gWs_in (gT_3 (List.mem_of_getElem? (i := 218) rfl)) rfl
theorem mI_X8_setZone : Cond.instanceMethod yX8_setZone ∈ gWs := gWs_in (gT_3 (List.mem_of_getElem? (i := 219) rfl)) rfl
theorem mE_X8_setZone : Cond.selects RX8 yX8_setZone yX8_setZone ∈ gWs := gWs_in (gT_3 (List.mem_of_getElem? (i := 220) rfl)) rfl
theorem mC_X8_setZone : Cond.code yX8_setZone cX8_setZone 5 none ∈ gWs := gWs_in (gT_3 (List.mem_of_getElem? (i := 221) rfl)) rfl
theorem mM_X10_160 : Cond.methodLink RX10 160 yX10_grant ∈ gWs := gWs_in (gT_3 (List.mem_of_getElem? (i := 222) rfl)) rfl
theorem mI_X10_grant : Cond.instanceMethod yX10_grant ∈ gWs := gWs_in (gT_3 (List.mem_of_getElem? (i := 224) rfl)) rfl
theorem mC_X10_grant : Cond.code yX10_grant cX10_grant 1 (some .boolean) ∈ gWs := gWs_in (gT_3 (List.mem_of_getElem? (i := 225) rfl)) rfl
theorem mM_L_41 : Cond.methodLink RL 41 yX10_told ∈ gWs := gWs_in (gT_3 (List.mem_of_getElem? (i := 226) rfl)) rfl
theorem mI_X10_told : Cond.instanceMethod yX10_told ∈ gWs := gWs_in (gT_3 (List.mem_of_getElem? (i := 227) rfl)) rfl
theorem mE_X10_told : Cond.selects RX10 yX10_told yX10_told ∈ gWs := gWs_in (gT_3 (List.mem_of_getElem? (i := 228) rfl)) rfl
theorem mC_X10_told : Cond.code yX10_told cX10_told 5 (some .int) ∈ gWs := gWs_in (gT_3 (List.mem_of_getElem? (i := 229) rfl)) rfl
theorem mM_X10_164 : Cond.methodLink RX10 164 yX4_hasRound ∈ gWs := gWs_in (gT_3 (List.mem_of_getElem? (i := 230) rfl)) rfl
theorem mM_X10_167 : Cond.methodLink RX10 167 yX2_manyIn ∈ gWs := gWs_in (gT_3 (List.mem_of_getElem? (i := 231) rfl)) rfl
theorem mI_X2_manyIn : Cond.instanceMethod yX2_manyIn ∈ gWs := gWs_in (gT_3 (List.mem_of_getElem? (i := 232) rfl)) rfl
theorem mE_X2_manyIn : Cond.selects RX2 yX2_manyIn yX2_manyIn ∈ gWs := gWs_in (gT_3 (List.mem_of_getElem? (i := 233) rfl)) rfl
theorem mC_X2_manyIn : Cond.code yX2_manyIn cX2_manyIn 4 (some .int) ∈ gWs := gWs_in (gT_3 (List.mem_of_getElem? (i := 234) rfl)) rfl
theorem mM_X10_170 : Cond.methodLink RX10 170 yX4_shapeOf ∈ gWs := gWs_in (gT_3 (List.mem_of_getElem? (i := 235) rfl)) rfl
theorem mI_X4_shapeOf : Cond.instanceMethod yX4_shapeOf ∈ gWs := gWs_in (gT_3 (List.mem_of_getElem? (i := 236) rfl)) rfl
theorem mE_X4_shapeOf : Cond.selects RX4 yX4_shapeOf yX4_shapeOf ∈ gWs := gWs_in (gT_3 (List.mem_of_getElem? (i := 237) rfl)) rfl
theorem mC_X4_shapeOf : Cond.code yX4_shapeOf cX4_shapeOf 3 (some .int) ∈ gWs := gWs_in (gT_3 (List.mem_of_getElem? (i := 238) rfl)) rfl
theorem mM_X10_173 : Cond.methodLink RX10 173 yX8_holdsOf ∈ gWs := gWs_in (gT_3 (List.mem_of_getElem? (i := 239) rfl)) rfl
theorem mI_X8_holdsOf : Cond.instanceMethod yX8_holdsOf ∈ gWs := gWs_in (gT_4 (List.mem_of_getElem? (i := 0) rfl)) rfl
theorem mE_X8_holdsOf : Cond.selects RX8 yX8_holdsOf yX8_holdsOf ∈ gWs := gWs_in (gT_4 (List.mem_of_getElem? (i := 1) rfl)) rfl
theorem mC_X8_holdsOf : Cond.code yX8_holdsOf cX8_holdsOf 3 (some .int) ∈ gWs := gWs_in (gT_4 (List.mem_of_getElem? (i := 2) rfl)) rfl
theorem mM_X10_176 : Cond.methodLink RX10 176 yX8_zoneOf ∈ gWs := gWs_in (gT_4 (List.mem_of_getElem? (i := 3) rfl)) rfl
theorem mI_X8_zoneOf : Cond.instanceMethod yX8_zoneOf ∈ gWs := gWs_in (gT_4 (List.mem_of_getElem? (i := 4) rfl)) rfl
theorem mE_X8_zoneOf : Cond.selects RX8 yX8_zoneOf yX8_zoneOf ∈ gWs := gWs_in (gT_4 (List.mem_of_getElem? (i := 5) rfl)) rfl
theorem mC_X8_zoneOf : Cond.code yX8_zoneOf cX8_zoneOf 4 (some .int) ∈ gWs := gWs_in (gT_4 (List.mem_of_getElem? (i := 6) rfl)) rfl
theorem mM_L_46 : Cond.methodLink RL 46 yX10_begin ∈ gWs := gWs_in (gT_4 (List.mem_of_getElem? (i := 7) rfl)) rfl
theorem mI_X10_begin : Cond.instanceMethod yX10_begin ∈ gWs := gWs_in (gT_4 (List.mem_of_getElem? (i := 8) rfl)) rfl
theorem mE_X10_begin : Cond.selects RX10 yX10_begin yX10_begin ∈ gWs := gWs_in (gT_4 (List.mem_of_getElem? (i := 9) rfl)) rfl
theorem mC_X10_begin : Cond.code yX10_begin cX10_begin 5 (some .int) ∈ gWs := gWs_in (gT_4 (List.mem_of_getElem? (i := 10) rfl)) rfl
theorem mM_X10_180 : Cond.methodLink RX10 180 yX2_knows ∈ gWs := gWs_in (gT_4 (List.mem_of_getElem? (i := 11) rfl)) rfl
theorem mI_X2_knows : Cond.instanceMethod yX2_knows ∈ gWs := gWs_in (gT_4 (List.mem_of_getElem? (i := 12) rfl)) rfl
theorem mE_X2_knows : Cond.selects RX2 yX2_knows yX2_knows ∈ gWs := gWs_in (gT_4 (List.mem_of_getElem? (i := 13) rfl)) rfl
theorem mC_X2_knows : Cond.code yX2_knows cX2_knows 2 (some .boolean) ∈ gWs := gWs_in (gT_4 (List.mem_of_getElem? (i := 14) rfl)) rfl
theorem mM_X10_183 : Cond.methodLink RX10 183 yX10_passTo ∈ gWs := gWs_in (gT_4 (List.mem_of_getElem? (i := 15) rfl)) rfl
theorem mI_X10_passTo : Cond.instanceMethod yX10_passTo ∈ gWs := gWs_in (gT_4 (List.mem_of_getElem? (i := 17) rfl)) rfl
theorem mC_X10_passTo : Cond.code yX10_passTo cX10_passTo 2 (some .int) ∈ gWs := gWs_in (gT_4 (List.mem_of_getElem? (i := 18) rfl)) rfl
theorem mD_X10_313 : Cond.constant RX10 313 (1000000) ∈ gWs := gWs_in (gT_4 (List.mem_of_getElem? (i := 19) rfl)) rfl
theorem mM_X10_314 : Cond.methodLink RX10 314 yX7_endOverdue ∈ gWs := gWs_in (gT_4 (List.mem_of_getElem? (i := 20) rfl)) rfl
theorem mI_X7_endOverdue : Cond.instanceMethod yX7_endOverdue ∈ gWs := gWs_in (gT_4 (List.mem_of_getElem? (i := 21) rfl)) rfl
theorem mE_X7_endOverdue : Cond.selects RX7 yX7_endOverdue yX7_endOverdue ∈ gWs := gWs_in (gT_4 (List.mem_of_getElem? (i := 22) rfl)) rfl
theorem mC_X7_endOverdue : Cond.code yX7_endOverdue cX7_endOverdue 5 none ∈ gWs := gWs_in (gT_4 (List.mem_of_getElem? (i := 23) rfl)) rfl
theorem mM_X7_46 : Cond.methodLink RX7 46 yX7_openOf ∈ gWs := gWs_in (gT_4 (List.mem_of_getElem? (i := 24) rfl)) rfl
theorem mI_X7_openOf : Cond.instanceMethod yX7_openOf ∈ gWs := gWs_in (gT_4 (List.mem_of_getElem? (i := 25) rfl)) rfl
theorem mE_X7_openOf : Cond.selects RX7 yX7_openOf yX7_openOf ∈ gWs := gWs_in (gT_4 (List.mem_of_getElem? (i := 26) rfl)) rfl
theorem mC_X7_openOf : Cond.code yX7_openOf cX7_openOf 2 (some .int) ∈ gWs := gWs_in (gT_4 (List.mem_of_getElem? (i := 27) rfl)) rfl
theorem mM_X7_50 : Cond.methodLink RX7 50 yX7_finish ∈ gWs := gWs_in (gT_4 (List.mem_of_getElem? (i := 28) rfl)) rfl
theorem mI_X7_finish : Cond.instanceMethod yX7_finish ∈ gWs := gWs_in (gT_4 (List.mem_of_getElem? (i := 29) rfl)) rfl
theorem mE_X7_finish : Cond.selects RX7 yX7_finish yX7_finish ∈ gWs := gWs_in (gT_4 (List.mem_of_getElem? (i := 30) rfl)) rfl
theorem mC_X7_finish : Cond.code yX7_finish cX7_finish 4 none ∈ gWs := gWs_in (gT_4 (List.mem_of_getElem? (i := 31) rfl)) rfl
theorem mM_X10_186 : Cond.methodLink RX10 186 yX10_whyNotBegin ∈ gWs := gWs_in (gT_4 (List.mem_of_getElem? (i := 32) rfl)) rfl
theorem mI_X10_whyNotBegin : Cond.instanceMethod yX10_whyNotBegin ∈ gWs := gWs_in (gT_4 (List.mem_of_getElem? (i := 34) rfl)) rfl
theorem mC_X10_whyNotBegin : Cond.code yX10_whyNotBegin cX10_whyNotBegin 4 (some .int) ∈ gWs := gWs_in (gT_4 (List.mem_of_getElem? (i := 35) rfl)) rfl
theorem mM_X10_268 : Cond.methodLink RX10 268 yX2_isIn ∈ gWs := gWs_in (gT_4 (List.mem_of_getElem? (i := 36) rfl)) rfl
theorem mI_X2_isIn : Cond.instanceMethod yX2_isIn ∈ gWs := gWs_in (gT_4 (List.mem_of_getElem? (i := 37) rfl)) rfl
theorem mE_X2_isIn : Cond.selects RX2 yX2_isIn yX2_isIn ∈ gWs := gWs_in (gT_4 (List.mem_of_getElem? (i := 38) rfl)) rfl
theorem mC_X2_isIn : Cond.code yX2_isIn cX2_isIn 3 (some .boolean) ∈ gWs := gWs_in (gT_4 (List.mem_of_getElem? (i := 39) rfl)) rfl
theorem mM_X2_25 : Cond.methodLink RX2 25 yX2_knows ∈ gWs := gWs_in (gT_4 (List.mem_of_getElem? (i := 40) rfl)) rfl
theorem mM_X10_197 : Cond.methodLink RX10 197 yX7_openOf ∈ gWs := gWs_in (gT_4 (List.mem_of_getElem? (i := 41) rfl)) rfl
theorem mM_X10_317 : Cond.methodLink RX10 317 yX7_mayNotTry ∈ gWs := gWs_in (gT_4 (List.mem_of_getElem? (i := 42) rfl)) rfl
theorem mI_X7_mayNotTry : Cond.instanceMethod yX7_mayNotTry ∈ gWs := gWs_in (gT_4 (List.mem_of_getElem? (i := 43) rfl)) rfl
theorem mE_X7_mayNotTry : Cond.selects RX7 yX7_mayNotTry yX7_mayNotTry ∈ gWs := gWs_in (gT_4 (List.mem_of_getElem? (i := 44) rfl)) rfl
theorem mC_X7_mayNotTry : Cond.code yX7_mayNotTry cX7_mayNotTry 7 (some .boolean) ∈ gWs := gWs_in (gT_4 (List.mem_of_getElem? (i := 45) rfl)) rfl
theorem mM_X7_54 : Cond.methodLink RX7 54 yX7_isOf ∈ gWs := gWs_in (gT_4 (List.mem_of_getElem? (i := 46) rfl)) rfl
theorem mI_X7_isOf : Cond.instanceMethod yX7_isOf ∈ gWs := gWs_in (gT_4 (List.mem_of_getElem? (i := 47) rfl)) rfl
theorem mE_X7_isOf : Cond.selects RX7 yX7_isOf yX7_isOf ∈ gWs := gWs_in (gT_4 (List.mem_of_getElem? (i := 48) rfl)) rfl
theorem mC_X7_isOf : Cond.code yX7_isOf cX7_isOf 5 (some .boolean) ∈ gWs := gWs_in (gT_4 (List.mem_of_getElem? (i := 49) rfl)) rfl
theorem mM_X10_237 : Cond.methodLink RX10 237 yX10_hasSeen ∈ gWs := gWs_in (gT_4 (List.mem_of_getElem? (i := 50) rfl)) rfl
theorem mI_X10_hasSeen : Cond.instanceMethod yX10_hasSeen ∈ gWs := gWs_in (gT_4 (List.mem_of_getElem? (i := 52) rfl)) rfl
theorem mC_X10_hasSeen : Cond.code yX10_hasSeen cX10_hasSeen 3 (some .boolean) ∈ gWs := gWs_in (gT_4 (List.mem_of_getElem? (i := 53) rfl)) rfl
theorem mM_X10_320 : Cond.methodLink RX10 320 yX9_hasSeen ∈ gWs := gWs_in (gT_4 (List.mem_of_getElem? (i := 54) rfl)) rfl
theorem mI_X9_hasSeen : Cond.instanceMethod yX9_hasSeen ∈ gWs := gWs_in (gT_4 (List.mem_of_getElem? (i := 55) rfl)) rfl
theorem mE_X9_hasSeen : Cond.selects RX9 yX9_hasSeen yX9_hasSeen ∈ gWs := gWs_in (gT_4 (List.mem_of_getElem? (i := 56) rfl)) rfl
theorem mC_X9_hasSeen : Cond.code yX9_hasSeen cX9_hasSeen 7 (some .boolean) ∈ gWs := gWs_in (gT_4 (List.mem_of_getElem? (i := 57) rfl)) rfl
theorem mM_X9_52 : Cond.methodLink RX9 52 yX9_wasOut ∈ gWs := gWs_in (gT_4 (List.mem_of_getElem? (i := 58) rfl)) rfl
theorem mI_X9_wasOut : Cond.instanceMethod yX9_wasOut ∈ gWs := gWs_in (gT_4 (List.mem_of_getElem? (i := 60) rfl)) rfl
theorem mC_X9_wasOut : Cond.code yX9_wasOut cX9_wasOut 7 (some .boolean) ∈ gWs := gWs_in (gT_4 (List.mem_of_getElem? (i := 61) rfl)) rfl
theorem mM_X9_27 : Cond.methodLink RX9 27 yX9_latest ∈ gWs := gWs_in (gT_4 (List.mem_of_getElem? (i := 62) rfl)) rfl
theorem mI_X9_latest : Cond.instanceMethod yX9_latest ∈ gWs := gWs_in (gT_4 (List.mem_of_getElem? (i := 64) rfl)) rfl
theorem mC_X9_latest : Cond.code yX9_latest cX9_latest 2 (some .int) ∈ gWs := gWs_in (gT_4 (List.mem_of_getElem? (i := 65) rfl)) rfl
theorem mM_X10_240 : Cond.methodLink RX10 240 yX10_restOver ∈ gWs := gWs_in (gT_4 (List.mem_of_getElem? (i := 66) rfl)) rfl
theorem mI_X10_restOver : Cond.instanceMethod yX10_restOver ∈ gWs := gWs_in (gT_4 (List.mem_of_getElem? (i := 68) rfl)) rfl
theorem mC_X10_restOver : Cond.code yX10_restOver cX10_restOver 3 (some .int) ∈ gWs := gWs_in (gT_4 (List.mem_of_getElem? (i := 69) rfl)) rfl
theorem mM_X10_323 : Cond.methodLink RX10 323 yX7_lastEnd ∈ gWs := gWs_in (gT_4 (List.mem_of_getElem? (i := 70) rfl)) rfl
theorem mI_X7_lastEnd : Cond.instanceMethod yX7_lastEnd ∈ gWs := gWs_in (gT_4 (List.mem_of_getElem? (i := 71) rfl)) rfl
theorem mE_X7_lastEnd : Cond.selects RX7 yX7_lastEnd yX7_lastEnd ∈ gWs := gWs_in (gT_4 (List.mem_of_getElem? (i := 72) rfl)) rfl
theorem mC_X7_lastEnd : Cond.code yX7_lastEnd cX7_lastEnd 5 (some .int) ∈ gWs := gWs_in (gT_4 (List.mem_of_getElem? (i := 73) rfl)) rfl
theorem mM_X7_58 : Cond.methodLink RX7 58 yJ9_max_7cf53 ∈ gWs := gWs_in (gT_4 (List.mem_of_getElem? (i := 74) rfl)) rfl
theorem mM_X10_189 : Cond.methodLink RX10 189 yX8_countBegun ∈ gWs := gWs_in (gT_4 (List.mem_of_getElem? (i := 75) rfl)) rfl
theorem mI_X8_countBegun : Cond.instanceMethod yX8_countBegun ∈ gWs := gWs_in (gT_4 (List.mem_of_getElem? (i := 76) rfl)) rfl
theorem mE_X8_countBegun : Cond.selects RX8 yX8_countBegun yX8_countBegun ∈ gWs := gWs_in (gT_4 (List.mem_of_getElem? (i := 77) rfl)) rfl
theorem mC_X8_countBegun : Cond.code yX8_countBegun cX8_countBegun 3 none ∈ gWs := gWs_in (gT_4 (List.mem_of_getElem? (i := 78) rfl)) rfl
theorem mM_X10_193 : Cond.methodLink RX10 193 yX7_start ∈ gWs := gWs_in (gT_4 (List.mem_of_getElem? (i := 79) rfl)) rfl
theorem mI_X7_start : Cond.instanceMethod yX7_start ∈ gWs := gWs_in (gT_4 (List.mem_of_getElem? (i := 80) rfl)) rfl
theorem mE_X7_start : Cond.selects RX7 yX7_start yX7_start ∈ gWs := gWs_in (gT_4 (List.mem_of_getElem? (i := 81) rfl)) rfl
theorem mC_X7_start : Cond.code yX7_start cX7_start 6 (some .int) ∈ gWs := gWs_in (gT_4 (List.mem_of_getElem? (i := 82) rfl)) rfl
theorem mM_L_50 : Cond.methodLink RL 50 yX10_reach ∈ gWs := gWs_in (gT_4 (List.mem_of_getElem? (i := 83) rfl)) rfl
theorem mI_X10_reach : Cond.instanceMethod yX10_reach ∈ gWs := gWs_in (gT_4 (List.mem_of_getElem? (i := 84) rfl)) rfl
theorem mE_X10_reach : Cond.selects RX10 yX10_reach yX10_reach ∈ gWs := gWs_in (gT_4 (List.mem_of_getElem? (i := 85) rfl)) rfl
theorem mC_X10_reach : Cond.code yX10_reach cX10_reach 7 (some .int) ∈ gWs := gWs_in (gT_4 (List.mem_of_getElem? (i := 86) rfl)) rfl
theorem mM_X10_209 : Cond.methodLink RX10 209 yX7_finish ∈ gWs := gWs_in (gT_4 (List.mem_of_getElem? (i := 87) rfl)) rfl
theorem mM_L_54 : Cond.methodLink RL 54 yX10_fall ∈ gWs := gWs_in (gT_4 (List.mem_of_getElem? (i := 88) rfl)) rfl
theorem mI_X10_fall : Cond.instanceMethod yX10_fall ∈ gWs := gWs_in (gT_4 (List.mem_of_getElem? (i := 89) rfl)) rfl
theorem mE_X10_fall : Cond.selects RX10 yX10_fall yX10_fall ∈ gWs := gWs_in (gT_4 (List.mem_of_getElem? (i := 90) rfl)) rfl
theorem mC_X10_fall : Cond.code yX10_fall cX10_fall 6 (some .boolean) ∈ gWs := gWs_in (gT_4 (List.mem_of_getElem? (i := 91) rfl)) rfl
theorem mM_L_59 : Cond.methodLink RL 59 yX10_out ∈ gWs := gWs_in (gT_4 (List.mem_of_getElem? (i := 92) rfl)) rfl
theorem mI_X10_out : Cond.instanceMethod yX10_out ∈ gWs := gWs_in (gT_4 (List.mem_of_getElem? (i := 93) rfl)) rfl
theorem mE_X10_out : Cond.selects RX10 yX10_out yX10_out ∈ gWs := gWs_in (gT_4 (List.mem_of_getElem? (i := 94) rfl)) rfl
theorem mC_X10_out : Cond.code yX10_out cX10_out 5 (some .boolean) ∈ gWs := gWs_in (gT_4 (List.mem_of_getElem? (i := 95) rfl)) rfl
theorem mM_X10_212 : Cond.methodLink RX10 212 yX9_isOut ∈ gWs := gWs_in (gT_4 (List.mem_of_getElem? (i := 96) rfl)) rfl
theorem mI_X9_isOut : Cond.instanceMethod yX9_isOut ∈ gWs := gWs_in (gT_4 (List.mem_of_getElem? (i := 97) rfl)) rfl
theorem mE_X9_isOut : Cond.selects RX9 yX9_isOut yX9_isOut ∈ gWs := gWs_in (gT_4 (List.mem_of_getElem? (i := 98) rfl)) rfl
theorem mC_X9_isOut : Cond.code yX9_isOut cX9_isOut 2 (some .boolean) ∈ gWs := gWs_in (gT_4 (List.mem_of_getElem? (i := 99) rfl)) rfl
theorem mM_X10_215 : Cond.methodLink RX10 215 yX9_comeIn ∈ gWs := gWs_in (gT_4 (List.mem_of_getElem? (i := 100) rfl)) rfl
theorem mI_X9_comeIn : Cond.instanceMethod yX9_comeIn ∈ gWs := gWs_in (gT_4 (List.mem_of_getElem? (i := 101) rfl)) rfl
theorem mE_X9_comeIn : Cond.selects RX9 yX9_comeIn yX9_comeIn ∈ gWs := gWs_in (gT_4 (List.mem_of_getElem? (i := 102) rfl)) rfl
theorem mC_X9_comeIn : Cond.code yX9_comeIn cX9_comeIn 3 none ∈ gWs := gWs_in (gT_4 (List.mem_of_getElem? (i := 103) rfl)) rfl
theorem mM_X10_221 : Cond.methodLink RX10 221 yX9_goOut ∈ gWs := gWs_in (gT_4 (List.mem_of_getElem? (i := 104) rfl)) rfl
theorem mI_X9_goOut : Cond.instanceMethod yX9_goOut ∈ gWs := gWs_in (gT_4 (List.mem_of_getElem? (i := 105) rfl)) rfl
theorem mE_X9_goOut : Cond.selects RX9 yX9_goOut yX9_goOut ∈ gWs := gWs_in (gT_4 (List.mem_of_getElem? (i := 106) rfl)) rfl
theorem mC_X9_goOut : Cond.code yX9_goOut cX9_goOut 3 none ∈ gWs := gWs_in (gT_4 (List.mem_of_getElem? (i := 107) rfl)) rfl
theorem mM_L_63 : Cond.methodLink RL 63 yX10_clock ∈ gWs := gWs_in (gT_4 (List.mem_of_getElem? (i := 108) rfl)) rfl
theorem mI_X10_clock : Cond.instanceMethod yX10_clock ∈ gWs := gWs_in (gT_4 (List.mem_of_getElem? (i := 109) rfl)) rfl
theorem mE_X10_clock : Cond.selects RX10 yX10_clock yX10_clock ∈ gWs := gWs_in (gT_4 (List.mem_of_getElem? (i := 110) rfl)) rfl
theorem mC_X10_clock : Cond.code yX10_clock cX10_clock 3 (some .boolean) ∈ gWs := gWs_in (gT_4 (List.mem_of_getElem? (i := 111) rfl)) rfl
theorem mM_L_68 : Cond.methodLink RL 68 yX10_now ∈ gWs := gWs_in (gT_4 (List.mem_of_getElem? (i := 112) rfl)) rfl
theorem mI_X10_now : Cond.instanceMethod yX10_now ∈ gWs := gWs_in (gT_4 (List.mem_of_getElem? (i := 113) rfl)) rfl
theorem mE_X10_now : Cond.selects RX10 yX10_now yX10_now ∈ gWs := gWs_in (gT_4 (List.mem_of_getElem? (i := 114) rfl)) rfl
theorem mC_X10_now : Cond.code yX10_now cX10_now 1 (some .int) ∈ gWs := gWs_in (gT_4 (List.mem_of_getElem? (i := 115) rfl)) rfl
theorem mM_L_72 : Cond.methodLink RL 72 yX10_tried ∈ gWs := gWs_in (gT_4 (List.mem_of_getElem? (i := 116) rfl)) rfl
theorem mI_X10_tried : Cond.instanceMethod yX10_tried ∈ gWs := gWs_in (gT_4 (List.mem_of_getElem? (i := 117) rfl)) rfl
theorem mE_X10_tried : Cond.selects RX10 yX10_tried yX10_tried ∈ gWs := gWs_in (gT_4 (List.mem_of_getElem? (i := 118) rfl)) rfl
theorem mC_X10_tried : Cond.code yX10_tried cX10_tried 3 (some .int) ∈ gWs := gWs_in (gT_4 (List.mem_of_getElem? (i := 119) rfl)) rfl
theorem mM_X10_224 : Cond.methodLink RX10 224 yX7_knows ∈ gWs := gWs_in (gT_4 (List.mem_of_getElem? (i := 120) rfl)) rfl
theorem mI_X7_knows : Cond.instanceMethod yX7_knows ∈ gWs := gWs_in (gT_4 (List.mem_of_getElem? (i := 121) rfl)) rfl
theorem mE_X7_knows : Cond.selects RX7 yX7_knows yX7_knows ∈ gWs := gWs_in (gT_4 (List.mem_of_getElem? (i := 122) rfl)) rfl
theorem mC_X7_knows : Cond.code yX7_knows cX7_knows 2 (some .boolean) ∈ gWs := gWs_in (gT_4 (List.mem_of_getElem? (i := 123) rfl)) rfl
theorem mM_L_77 : Cond.methodLink RL 77 yX10_seen ∈ gWs := gWs_in (gT_4 (List.mem_of_getElem? (i := 124) rfl)) rfl
theorem mI_X10_seen : Cond.instanceMethod yX10_seen ∈ gWs := gWs_in (gT_4 (List.mem_of_getElem? (i := 125) rfl)) rfl
theorem mE_X10_seen : Cond.selects RX10 yX10_seen yX10_seen ∈ gWs := gWs_in (gT_4 (List.mem_of_getElem? (i := 126) rfl)) rfl
theorem mC_X10_seen : Cond.code yX10_seen cX10_seen 3 (some .int) ∈ gWs := gWs_in (gT_4 (List.mem_of_getElem? (i := 127) rfl)) rfl
theorem mM_L_81 : Cond.methodLink RL 81 yX10_ready ∈ gWs := gWs_in (gT_4 (List.mem_of_getElem? (i := 128) rfl)) rfl
theorem mI_X10_ready : Cond.instanceMethod yX10_ready ∈ gWs := gWs_in (gT_4 (List.mem_of_getElem? (i := 129) rfl)) rfl
theorem mE_X10_ready : Cond.selects RX10 yX10_ready yX10_ready ∈ gWs := gWs_in (gT_4 (List.mem_of_getElem? (i := 130) rfl)) rfl
theorem mC_X10_ready : Cond.code yX10_ready cX10_ready 2 (some .int) ∈ gWs := gWs_in (gT_4 (List.mem_of_getElem? (i := 131) rfl)) rfl
theorem mM_X10_243 : Cond.methodLink RX10 243 yJ9_max_7cf53 ∈ gWs := gWs_in (gT_4 (List.mem_of_getElem? (i := 132) rfl)) rfl
theorem mM_L_85 : Cond.methodLink RL 85 yX10_appeal ∈ gWs := gWs_in (gT_4 (List.mem_of_getElem? (i := 133) rfl)) rfl
theorem mI_X10_appeal : Cond.instanceMethod yX10_appeal ∈ gWs := gWs_in (gT_4 (List.mem_of_getElem? (i := 134) rfl)) rfl
theorem mE_X10_appeal : Cond.selects RX10 yX10_appeal yX10_appeal ∈ gWs := gWs_in (gT_4 (List.mem_of_getElem? (i := 135) rfl)) rfl
theorem mC_X10_appeal : Cond.code yX10_appeal cX10_appeal 5 (some .boolean) ∈ gWs := gWs_in (gT_4 (List.mem_of_getElem? (i := 136) rfl)) rfl
theorem mM_X10_248 : Cond.methodLink RX10 248 yX10_isDay ∈ gWs := gWs_in (gT_4 (List.mem_of_getElem? (i := 137) rfl)) rfl
theorem mS_X10_isDay : Cond.static yX10_isDay ∈ gWs := gWs_in (gT_4 (List.mem_of_getElem? (i := 138) rfl)) rfl
theorem mC_X10_isDay : Cond.code yX10_isDay cX10_isDay 1 (some .boolean) ∈ gWs := gWs_in (gT_4 (List.mem_of_getElem? (i := 139) rfl)) rfl
theorem mM_X10_252 : Cond.methodLink RX10 252 yX0_put ∈ gWs := gWs_in (gT_4 (List.mem_of_getElem? (i := 140) rfl)) rfl
theorem mI_X0_put : Cond.instanceMethod yX0_put ∈ gWs := gWs_in (gT_4 (List.mem_of_getElem? (i := 141) rfl)) rfl
theorem mE_X0_put : Cond.selects RX0 yX0_put yX0_put ∈ gWs := gWs_in (gT_4 (List.mem_of_getElem? (i := 142) rfl)) rfl
theorem mC_X0_put : Cond.code yX0_put cX0_put 4 none ∈ gWs := gWs_in (gT_4 (List.mem_of_getElem? (i := 143) rfl)) rfl
theorem mM_L_90 : Cond.methodLink RL 90 yX10_of ∈ gWs := gWs_in (gT_4 (List.mem_of_getElem? (i := 144) rfl)) rfl
theorem mI_X10_of : Cond.instanceMethod yX10_of ∈ gWs := gWs_in (gT_4 (List.mem_of_getElem? (i := 145) rfl)) rfl
theorem mE_X10_of : Cond.selects RX10 yX10_of yX10_of ∈ gWs := gWs_in (gT_4 (List.mem_of_getElem? (i := 146) rfl)) rfl
theorem mC_X10_of : Cond.code yX10_of cX10_of 6 (some .int) ∈ gWs := gWs_in (gT_4 (List.mem_of_getElem? (i := 147) rfl)) rfl
theorem mM_X10_255 : Cond.methodLink RX10 255 yX5_survey ∈ gWs := gWs_in (gT_4 (List.mem_of_getElem? (i := 148) rfl)) rfl
theorem mI_X5_survey : Cond.instanceMethod yX5_survey ∈ gWs := gWs_in (gT_4 (List.mem_of_getElem? (i := 149) rfl)) rfl
theorem mE_X5_survey : Cond.selects RX5 yX5_survey yX5_survey ∈ gWs := gWs_in (gT_4 (List.mem_of_getElem? (i := 150) rfl)) rfl
theorem mC_X5_survey : Cond.code yX5_survey cX5_survey 4 none ∈ gWs := gWs_in (gT_4 (List.mem_of_getElem? (i := 151) rfl)) rfl
theorem mM_X5_63 : Cond.methodLink RX5 63 yX5_hearAppeals ∈ gWs := gWs_in (gT_4 (List.mem_of_getElem? (i := 152) rfl)) rfl
theorem mI_X5_hearAppeals : Cond.instanceMethod yX5_hearAppeals ∈ gWs := gWs_in (gT_4 (List.mem_of_getElem? (i := 154) rfl)) rfl
theorem mC_X5_hearAppeals : Cond.code yX5_hearAppeals cX5_hearAppeals 4 none ∈ gWs := gWs_in (gT_4 (List.mem_of_getElem? (i := 155) rfl)) rfl
theorem mM_X5_67 : Cond.methodLink RX5 67 yJ7_fill_53178 ∈ gWs := gWs_in (gT_4 (List.mem_of_getElem? (i := 156) rfl)) rfl
theorem mM_X5_91 : Cond.methodLink RX5 91 yX5_cellOf ∈ gWs := gWs_in (gT_4 (List.mem_of_getElem? (i := 157) rfl)) rfl
theorem mS_X5_cellOf : Cond.static yX5_cellOf ∈ gWs := gWs_in (gT_4 (List.mem_of_getElem? (i := 158) rfl)) rfl
theorem mC_X5_cellOf : Cond.code yX5_cellOf cX5_cellOf 3 (some .int) ∈ gWs := gWs_in (gT_4 (List.mem_of_getElem? (i := 159) rfl)) rfl
theorem mM_X10_258 : Cond.methodLink RX10 258 yX5_workFacts ∈ gWs := gWs_in (gT_4 (List.mem_of_getElem? (i := 160) rfl)) rfl
theorem mI_X5_workFacts : Cond.instanceMethod yX5_workFacts ∈ gWs := gWs_in (gT_4 (List.mem_of_getElem? (i := 161) rfl)) rfl
theorem mE_X5_workFacts : Cond.selects RX5 yX5_workFacts yX5_workFacts ∈ gWs := gWs_in (gT_4 (List.mem_of_getElem? (i := 162) rfl)) rfl
theorem mC_X5_workFacts : Cond.code yX5_workFacts cX5_workFacts 8 none ∈ gWs := gWs_in (gT_4 (List.mem_of_getElem? (i := 163) rfl)) rfl
theorem mM_X5_108 : Cond.methodLink RX5 108 yX8_holdsOf ∈ gWs := gWs_in (gT_4 (List.mem_of_getElem? (i := 164) rfl)) rfl
theorem mM_X5_114 : Cond.methodLink RX5 114 yX8_zonesUpTo ∈ gWs := gWs_in (gT_4 (List.mem_of_getElem? (i := 165) rfl)) rfl
theorem mI_X8_zonesUpTo : Cond.instanceMethod yX8_zonesUpTo ∈ gWs := gWs_in (gT_4 (List.mem_of_getElem? (i := 166) rfl)) rfl
theorem mE_X8_zonesUpTo : Cond.selects RX8 yX8_zonesUpTo yX8_zonesUpTo ∈ gWs := gWs_in (gT_4 (List.mem_of_getElem? (i := 167) rfl)) rfl
theorem mC_X8_zonesUpTo : Cond.code yX8_zonesUpTo cX8_zonesUpTo 7 (some .int) ∈ gWs := gWs_in (gT_4 (List.mem_of_getElem? (i := 168) rfl)) rfl
theorem mM_X8_27 : Cond.methodLink RX8 27 yX8_zoneOf ∈ gWs := gWs_in (gT_4 (List.mem_of_getElem? (i := 169) rfl)) rfl
theorem mM_X10_264 : Cond.methodLink RX10 264 yX4_pointsFor ∈ gWs := gWs_in (gT_4 (List.mem_of_getElem? (i := 170) rfl)) rfl
theorem mI_X4_pointsFor : Cond.instanceMethod yX4_pointsFor ∈ gWs := gWs_in (gT_4 (List.mem_of_getElem? (i := 171) rfl)) rfl
theorem mE_X4_pointsFor : Cond.selects RX4 yX4_pointsFor yX4_pointsFor ∈ gWs := gWs_in (gT_4 (List.mem_of_getElem? (i := 172) rfl)) rfl
theorem mC_X4_pointsFor : Cond.code yX4_pointsFor cX4_pointsFor 5 (some .int) ∈ gWs := gWs_in (gT_4 (List.mem_of_getElem? (i := 173) rfl)) rfl
theorem mM_X4_63 : Cond.methodLink RX4 63 yX4_worked ∈ gWs := gWs_in (gT_4 (List.mem_of_getElem? (i := 174) rfl)) rfl
theorem mS_X4_worked : Cond.static yX4_worked ∈ gWs := gWs_in (gT_4 (List.mem_of_getElem? (i := 175) rfl)) rfl
theorem mC_X4_worked : Cond.code yX4_worked cX4_worked 5 (some .long) ∈ gWs := gWs_in (gT_4 (List.mem_of_getElem? (i := 176) rfl)) rfl
theorem mM_X4_67 : Cond.methodLink RX4 67 yX4_bounded ∈ gWs := gWs_in (gT_4 (List.mem_of_getElem? (i := 177) rfl)) rfl
theorem mS_X4_bounded : Cond.static yX4_bounded ∈ gWs := gWs_in (gT_4 (List.mem_of_getElem? (i := 178) rfl)) rfl
theorem mC_X4_bounded : Cond.code yX4_bounded cX4_bounded 2 (some .long) ∈ gWs := gWs_in (gT_4 (List.mem_of_getElem? (i := 179) rfl)) rfl
theorem mD_X4_71 : Cond.constantLong RX4 71 (-1000000000) ∈ gWs := gWs_in (gT_4 (List.mem_of_getElem? (i := 180) rfl)) rfl
theorem mD_X4_73 : Cond.constantLong RX4 73 (1000000000) ∈ gWs := gWs_in (gT_4 (List.mem_of_getElem? (i := 181) rfl)) rfl
theorem mM_X4_75 : Cond.methodLink RX4 75 yJ9_min_f86c9 ∈ gWs := gWs_in (gT_4 (List.mem_of_getElem? (i := 182) rfl)) rfl
theorem mS_J9_min_f86c9 : Cond.static yJ9_min_f86c9 ∈ gWs := gWs_in (gT_4 (List.mem_of_getElem? (i := 183) rfl)) rfl
theorem mC_J9_min_f86c9 : Cond.code yJ9_min_f86c9 cJ9_min_f86c9 4 (some .long) ∈ gWs := gWs_in (gT_4 (List.mem_of_getElem? (i := 184) rfl)) rfl
theorem mM_X4_81 : Cond.methodLink RX4 81 yJ9_max_f86c9 ∈ gWs := gWs_in (gT_4 (List.mem_of_getElem? (i := 185) rfl)) rfl
theorem mS_J9_max_f86c9 : Cond.static yJ9_max_f86c9 ∈ gWs := gWs_in (gT_4 (List.mem_of_getElem? (i := 186) rfl)) rfl
theorem mC_J9_max_f86c9 : Cond.code yJ9_max_f86c9 cJ9_max_f86c9 4 (some .long) ∈ gWs := gWs_in (gT_4 (List.mem_of_getElem? (i := 187) rfl)) rfl
theorem mM_L_94 : Cond.methodLink RL 94 yX10_key ∈ gWs := gWs_in (gT_4 (List.mem_of_getElem? (i := 188) rfl)) rfl
theorem mI_X10_key : Cond.instanceMethod yX10_key ∈ gWs := gWs_in (gT_4 (List.mem_of_getElem? (i := 189) rfl)) rfl
theorem mE_X10_key : Cond.selects RX10 yX10_key yX10_key ∈ gWs := gWs_in (gT_4 (List.mem_of_getElem? (i := 190) rfl)) rfl
theorem mC_X10_key : Cond.code yX10_key cX10_key 5 (some .long) ∈ gWs := gWs_in (gT_4 (List.mem_of_getElem? (i := 191) rfl)) rfl
theorem mM_X10_274 : Cond.methodLink RX10 274 yX5_workKeys ∈ gWs := gWs_in (gT_4 (List.mem_of_getElem? (i := 192) rfl)) rfl
theorem mI_X5_workKeys : Cond.instanceMethod yX5_workKeys ∈ gWs := gWs_in (gT_4 (List.mem_of_getElem? (i := 193) rfl)) rfl
theorem mE_X5_workKeys : Cond.selects RX5 yX5_workKeys yX5_workKeys ∈ gWs := gWs_in (gT_4 (List.mem_of_getElem? (i := 194) rfl)) rfl
theorem mC_X5_workKeys : Cond.code yX5_workKeys cX5_workKeys 5 none ∈ gWs := gWs_in (gT_4 (List.mem_of_getElem? (i := 195) rfl)) rfl
theorem mM_X5_123 : Cond.methodLink RX5 123 yJ7_fill_d0a16 ∈ gWs := gWs_in (gT_4 (List.mem_of_getElem? (i := 196) rfl)) rfl
theorem mS_J7_fill_d0a16 : Cond.static yJ7_fill_d0a16 ∈ gWs := gWs_in (gT_4 (List.mem_of_getElem? (i := 197) rfl)) rfl
theorem mC_J7_fill_d0a16 : Cond.code yJ7_fill_d0a16 cJ7_fill_d0a16 5 none ∈ gWs := gWs_in (gT_4 (List.mem_of_getElem? (i := 198) rfl)) rfl
theorem mM_X5_126 : Cond.methodLink RX5 126 yX4_shapeOf ∈ gWs := gWs_in (gT_4 (List.mem_of_getElem? (i := 199) rfl)) rfl
theorem mM_X5_131 : Cond.methodLink RX5 131 yX5_workFacts ∈ gWs := gWs_in (gT_4 (List.mem_of_getElem? (i := 200) rfl)) rfl
theorem mM_X5_135 : Cond.methodLink RX5 135 yX4_pointsFor ∈ gWs := gWs_in (gT_4 (List.mem_of_getElem? (i := 201) rfl)) rfl
theorem mM_X5_139 : Cond.methodLink RX5 139 yJ9_max_f86c9 ∈ gWs := gWs_in (gT_4 (List.mem_of_getElem? (i := 202) rfl)) rfl
theorem mM_X5_148 : Cond.methodLink RX5 148 yX5_keyRow ∈ gWs := gWs_in (gT_4 (List.mem_of_getElem? (i := 203) rfl)) rfl
theorem mS_X5_keyRow : Cond.static yX5_keyRow ∈ gWs := gWs_in (gT_4 (List.mem_of_getElem? (i := 204) rfl)) rfl
theorem mC_X5_keyRow : Cond.code yX5_keyRow cX5_keyRow 2 (some .int) ∈ gWs := gWs_in (gT_4 (List.mem_of_getElem? (i := 205) rfl)) rfl
theorem mM_X10_277 : Cond.methodLink RX10 277 yX5_keyOf ∈ gWs := gWs_in (gT_4 (List.mem_of_getElem? (i := 206) rfl)) rfl
theorem mI_X5_keyOf : Cond.instanceMethod yX5_keyOf ∈ gWs := gWs_in (gT_4 (List.mem_of_getElem? (i := 207) rfl)) rfl
theorem mE_X5_keyOf : Cond.selects RX5 yX5_keyOf yX5_keyOf ∈ gWs := gWs_in (gT_4 (List.mem_of_getElem? (i := 208) rfl)) rfl
theorem mC_X5_keyOf : Cond.code yX5_keyOf cX5_keyOf 4 (some .long) ∈ gWs := gWs_in (gT_4 (List.mem_of_getElem? (i := 209) rfl)) rfl
theorem mM_L_99 : Cond.methodLink RL 99 yX10_rank ∈ gWs := gWs_in (gT_4 (List.mem_of_getElem? (i := 210) rfl)) rfl
theorem mI_X10_rank : Cond.instanceMethod yX10_rank ∈ gWs := gWs_in (gT_4 (List.mem_of_getElem? (i := 211) rfl)) rfl
theorem mE_X10_rank : Cond.selects RX10 yX10_rank yX10_rank ∈ gWs := gWs_in (gT_4 (List.mem_of_getElem? (i := 212) rfl)) rfl
theorem mC_X10_rank : Cond.code yX10_rank cX10_rank 4 (some .int) ∈ gWs := gWs_in (gT_4 (List.mem_of_getElem? (i := 213) rfl)) rfl
theorem mM_X10_281 : Cond.methodLink RX10 281 yX5_workRanks ∈ gWs := gWs_in (gT_4 (List.mem_of_getElem? (i := 214) rfl)) rfl
theorem mI_X5_workRanks : Cond.instanceMethod yX5_workRanks ∈ gWs := gWs_in (gT_4 (List.mem_of_getElem? (i := 215) rfl)) rfl
theorem mE_X5_workRanks : Cond.selects RX5 yX5_workRanks yX5_workRanks ∈ gWs := gWs_in (gT_4 (List.mem_of_getElem? (i := 216) rfl)) rfl
theorem mC_X5_workRanks : Cond.code yX5_workRanks cX5_workRanks 5 none ∈ gWs := gWs_in (gT_4 (List.mem_of_getElem? (i := 217) rfl)) rfl
theorem mM_X5_154 : Cond.methodLink RX5 154 yX5_survey ∈ gWs := gWs_in (gT_4 (List.mem_of_getElem? (i := 218) rfl)) rfl
theorem mM_X5_162 : Cond.methodLink RX5 162 yX5_lowestAsked ∈ gWs := gWs_in (gT_4 (List.mem_of_getElem? (i := 219) rfl)) rfl
theorem mI_X5_lowestAsked : Cond.instanceMethod yX5_lowestAsked ∈ gWs := gWs_in (gT_4 (List.mem_of_getElem? (i := 221) rfl)) rfl
theorem mC_X5_lowestAsked : Cond.code yX5_lowestAsked cX5_lowestAsked 2 (some .int) ∈ gWs := gWs_in (gT_4 (List.mem_of_getElem? (i := 222) rfl)) rfl
theorem mM_X5_166 : Cond.methodLink RX5 166 yX2_isIn ∈ gWs := gWs_in (gT_4 (List.mem_of_getElem? (i := 223) rfl)) rfl
theorem mM_X5_170 : Cond.methodLink RX5 170 yX5_workKeys ∈ gWs := gWs_in (gT_4 (List.mem_of_getElem? (i := 224) rfl)) rfl
theorem mM_X5_174 : Cond.methodLink RX5 174 yX5_manyAhead ∈ gWs := gWs_in (gT_4 (List.mem_of_getElem? (i := 225) rfl)) rfl
theorem mI_X5_manyAhead : Cond.instanceMethod yX5_manyAhead ∈ gWs := gWs_in (gT_4 (List.mem_of_getElem? (i := 227) rfl)) rfl
theorem mC_X5_manyAhead : Cond.code yX5_manyAhead cX5_manyAhead 5 (some .int) ∈ gWs := gWs_in (gT_4 (List.mem_of_getElem? (i := 228) rfl)) rfl
theorem mM_X5_177 : Cond.methodLink RX5 177 yX5_isAhead ∈ gWs := gWs_in (gT_4 (List.mem_of_getElem? (i := 229) rfl)) rfl
theorem mI_X5_isAhead : Cond.instanceMethod yX5_isAhead ∈ gWs := gWs_in (gT_4 (List.mem_of_getElem? (i := 231) rfl)) rfl
theorem mC_X5_isAhead : Cond.code yX5_isAhead cX5_isAhead 10 (some .boolean) ∈ gWs := gWs_in (gT_4 (List.mem_of_getElem? (i := 232) rfl)) rfl
theorem mM_X5_185 : Cond.methodLink RX5 185 yX5_keyOf ∈ gWs := gWs_in (gT_4 (List.mem_of_getElem? (i := 233) rfl)) rfl
theorem mM_L_103 : Cond.methodLink RL 103 yX10_advance ∈ gWs := gWs_in (gT_4 (List.mem_of_getElem? (i := 234) rfl)) rfl
theorem mI_X10_advance : Cond.instanceMethod yX10_advance ∈ gWs := gWs_in (gT_4 (List.mem_of_getElem? (i := 235) rfl)) rfl
theorem mE_X10_advance : Cond.selects RX10 yX10_advance yX10_advance ∈ gWs := gWs_in (gT_4 (List.mem_of_getElem? (i := 236) rfl)) rfl
theorem mC_X10_advance : Cond.code yX10_advance cX10_advance 4 (some .int) ∈ gWs := gWs_in (gT_4 (List.mem_of_getElem? (i := 237) rfl)) rfl
theorem mM_X10_287 : Cond.methodLink RX10 287 yX7_anyOpen ∈ gWs := gWs_in (gT_4 (List.mem_of_getElem? (i := 238) rfl)) rfl
theorem mI_X7_anyOpen : Cond.instanceMethod yX7_anyOpen ∈ gWs := gWs_in (gT_4 (List.mem_of_getElem? (i := 239) rfl)) rfl
theorem mE_X7_anyOpen : Cond.selects RX7 yX7_anyOpen yX7_anyOpen ∈ gWs := gWs_in (gT_5 (List.mem_of_getElem? (i := 0) rfl)) rfl
theorem mC_X7_anyOpen : Cond.code yX7_anyOpen cX7_anyOpen 2 (some .boolean) ∈ gWs := gWs_in (gT_5 (List.mem_of_getElem? (i := 1) rfl)) rfl
theorem mM_X10_290 : Cond.methodLink RX10 290 yX2_letCome ∈ gWs := gWs_in (gT_5 (List.mem_of_getElem? (i := 2) rfl)) rfl
theorem mI_X2_letCome : Cond.instanceMethod yX2_letCome ∈ gWs := gWs_in (gT_5 (List.mem_of_getElem? (i := 3) rfl)) rfl
theorem mE_X2_letCome : Cond.selects RX2 yX2_letCome yX2_letCome ∈ gWs := gWs_in (gT_5 (List.mem_of_getElem? (i := 4) rfl)) rfl
theorem mC_X2_letCome : Cond.code yX2_letCome cX2_letCome 6 (some .int) ∈ gWs := gWs_in (gT_5 (List.mem_of_getElem? (i := 5) rfl)) rfl
theorem mM_L_107 : Cond.methodLink RL 107 yX10_order ∈ gWs := gWs_in (gT_5 (List.mem_of_getElem? (i := 6) rfl)) rfl
theorem mI_X10_order : Cond.instanceMethod yX10_order ∈ gWs := gWs_in (gT_5 (List.mem_of_getElem? (i := 7) rfl)) rfl
theorem mE_X10_order : Cond.selects RX10 yX10_order yX10_order ∈ gWs := gWs_in (gT_5 (List.mem_of_getElem? (i := 8) rfl)) rfl
theorem mC_X10_order : Cond.code yX10_order cX10_order 3 (some .int) ∈ gWs := gWs_in (gT_5 (List.mem_of_getElem? (i := 9) rfl)) rfl
theorem mM_X10_294 : Cond.methodLink RX10 294 yX2_dayOf ∈ gWs := gWs_in (gT_5 (List.mem_of_getElem? (i := 10) rfl)) rfl
theorem mI_X2_dayOf : Cond.instanceMethod yX2_dayOf ∈ gWs := gWs_in (gT_5 (List.mem_of_getElem? (i := 11) rfl)) rfl
theorem mE_X2_dayOf : Cond.selects RX2 yX2_dayOf yX2_dayOf ∈ gWs := gWs_in (gT_5 (List.mem_of_getElem? (i := 12) rfl)) rfl
theorem mC_X2_dayOf : Cond.code yX2_dayOf cX2_dayOf 2 (some .int) ∈ gWs := gWs_in (gT_5 (List.mem_of_getElem? (i := 13) rfl)) rfl
theorem mM_X10_297 : Cond.methodLink RX10 297 yX5_starter ∈ gWs := gWs_in (gT_5 (List.mem_of_getElem? (i := 14) rfl)) rfl
theorem mI_X5_starter : Cond.instanceMethod yX5_starter ∈ gWs := gWs_in (gT_5 (List.mem_of_getElem? (i := 15) rfl)) rfl
theorem mE_X5_starter : Cond.selects RX5 yX5_starter yX5_starter ∈ gWs := gWs_in (gT_5 (List.mem_of_getElem? (i := 16) rfl)) rfl
theorem mC_X5_starter : Cond.code yX5_starter cX5_starter 4 (some .int) ∈ gWs := gWs_in (gT_5 (List.mem_of_getElem? (i := 17) rfl)) rfl
theorem mM_X5_192 : Cond.methodLink RX5 192 yX5_manyStartAhead ∈ gWs := gWs_in (gT_5 (List.mem_of_getElem? (i := 18) rfl)) rfl
theorem mI_X5_manyStartAhead : Cond.instanceMethod yX5_manyStartAhead ∈ gWs := gWs_in (gT_5 (List.mem_of_getElem? (i := 20) rfl)) rfl
theorem mC_X5_manyStartAhead : Cond.code yX5_manyStartAhead cX5_manyStartAhead 5 (some .int) ∈ gWs := gWs_in (gT_5 (List.mem_of_getElem? (i := 21) rfl)) rfl
theorem mM_L_111 : Cond.methodLink RL 111 yX10_parts ∈ gWs := gWs_in (gT_5 (List.mem_of_getElem? (i := 22) rfl)) rfl
theorem mI_X10_parts : Cond.instanceMethod yX10_parts ∈ gWs := gWs_in (gT_5 (List.mem_of_getElem? (i := 23) rfl)) rfl
theorem mE_X10_parts : Cond.selects RX10 yX10_parts yX10_parts ∈ gWs := gWs_in (gT_5 (List.mem_of_getElem? (i := 24) rfl)) rfl
theorem mC_X10_parts : Cond.code yX10_parts cX10_parts 4 (some .int) ∈ gWs := gWs_in (gT_5 (List.mem_of_getElem? (i := 25) rfl)) rfl
theorem mM_X10_300 : Cond.methodLink RX10 300 yX5_workPoints ∈ gWs := gWs_in (gT_5 (List.mem_of_getElem? (i := 26) rfl)) rfl
theorem mI_X5_workPoints : Cond.instanceMethod yX5_workPoints ∈ gWs := gWs_in (gT_5 (List.mem_of_getElem? (i := 27) rfl)) rfl
theorem mE_X5_workPoints : Cond.selects RX5 yX5_workPoints yX5_workPoints ∈ gWs := gWs_in (gT_5 (List.mem_of_getElem? (i := 28) rfl)) rfl
theorem mC_X5_workPoints : Cond.code yX5_workPoints cX5_workPoints 5 none ∈ gWs := gWs_in (gT_5 (List.mem_of_getElem? (i := 29) rfl)) rfl
theorem mM_X10_303 : Cond.methodLink RX10 303 yX5_pairsParted ∈ gWs := gWs_in (gT_5 (List.mem_of_getElem? (i := 30) rfl)) rfl
theorem mI_X5_pairsParted : Cond.instanceMethod yX5_pairsParted ∈ gWs := gWs_in (gT_5 (List.mem_of_getElem? (i := 31) rfl)) rfl
theorem mE_X5_pairsParted : Cond.selects RX5 yX5_pairsParted yX5_pairsParted ∈ gWs := gWs_in (gT_5 (List.mem_of_getElem? (i := 32) rfl)) rfl
theorem mC_X5_pairsParted : Cond.code yX5_pairsParted cX5_pairsParted 6 (some .int) ∈ gWs := gWs_in (gT_5 (List.mem_of_getElem? (i := 33) rfl)) rfl
theorem mM_X5_195 : Cond.methodLink RX5 195 yX5_together ∈ gWs := gWs_in (gT_5 (List.mem_of_getElem? (i := 34) rfl)) rfl
theorem mI_X5_together : Cond.instanceMethod yX5_together ∈ gWs := gWs_in (gT_5 (List.mem_of_getElem? (i := 36) rfl)) rfl
theorem mC_X5_together : Cond.code yX5_together cX5_together 6 (some .long) ∈ gWs := gWs_in (gT_5 (List.mem_of_getElem? (i := 37) rfl)) rfl
theorem mM_L_115 : Cond.methodLink RL 115 yX10_choose ∈ gWs := gWs_in (gT_5 (List.mem_of_getElem? (i := 38) rfl)) rfl
theorem mI_X10_choose : Cond.instanceMethod yX10_choose ∈ gWs := gWs_in (gT_5 (List.mem_of_getElem? (i := 39) rfl)) rfl
theorem mE_X10_choose : Cond.selects RX10 yX10_choose yX10_choose ∈ gWs := gWs_in (gT_5 (List.mem_of_getElem? (i := 40) rfl)) rfl
theorem mC_X10_choose : Cond.code yX10_choose cX10_choose 5 (some .int) ∈ gWs := gWs_in (gT_5 (List.mem_of_getElem? (i := 41) rfl)) rfl
theorem mM_X10_306 : Cond.methodLink RX10 306 yX5_bestSet ∈ gWs := gWs_in (gT_5 (List.mem_of_getElem? (i := 42) rfl)) rfl
theorem mI_X5_bestSet : Cond.instanceMethod yX5_bestSet ∈ gWs := gWs_in (gT_5 (List.mem_of_getElem? (i := 43) rfl)) rfl
theorem mE_X5_bestSet : Cond.selects RX5 yX5_bestSet yX5_bestSet ∈ gWs := gWs_in (gT_5 (List.mem_of_getElem? (i := 44) rfl)) rfl
theorem mC_X5_bestSet : Cond.code yX5_bestSet cX5_bestSet 8 (some .int) ∈ gWs := gWs_in (gT_5 (List.mem_of_getElem? (i := 45) rfl)) rfl
theorem mM_X5_199 : Cond.methodLink RX5 199 yJ6_bitCount_0f7a4 ∈ gWs := gWs_in (gT_5 (List.mem_of_getElem? (i := 46) rfl)) rfl
theorem mS_J6_bitCount_0f7a4 : Cond.static yJ6_bitCount_0f7a4 ∈ gWs := gWs_in (gT_5 (List.mem_of_getElem? (i := 47) rfl)) rfl
theorem mC_J6_bitCount_0f7a4 : Cond.code yJ6_bitCount_0f7a4 cJ6_bitCount_0f7a4 1 (some .int) ∈ gWs := gWs_in (gT_5 (List.mem_of_getElem? (i := 48) rfl)) rfl
theorem mD_J6_265 : Cond.constant RJ6 265 (1431655765) ∈ gWs := gWs_in (gT_5 (List.mem_of_getElem? (i := 49) rfl)) rfl
theorem mD_J6_266 : Cond.constant RJ6 266 (858993459) ∈ gWs := gWs_in (gT_5 (List.mem_of_getElem? (i := 50) rfl)) rfl
theorem mD_J6_267 : Cond.constant RJ6 267 (252645135) ∈ gWs := gWs_in (gT_5 (List.mem_of_getElem? (i := 51) rfl)) rfl
theorem mM_X5_204 : Cond.methodLink RX5 204 yX5_pairsParted ∈ gWs := gWs_in (gT_5 (List.mem_of_getElem? (i := 52) rfl)) rfl
theorem mK_L_10 : Cond.classLink RL 10 RX11 ∈ gWs := gWs_in (gT_5 (List.mem_of_getElem? (i := 53) rfl)) rfl
theorem mT_X11 : Cond.instantiable RX11 70 ∈ gWs := gWs_in (gT_5 (List.mem_of_getElem? (i := 54) rfl)) rfl
theorem mM_L_12 : Cond.methodLink RL 12 yX11_init ∈ gWs := gWs_in (gT_5 (List.mem_of_getElem? (i := 55) rfl)) rfl
theorem mI_X11_init : Cond.instanceMethod yX11_init ∈ gWs := gWs_in (gT_5 (List.mem_of_getElem? (i := 56) rfl)) rfl
theorem mC_X11_init : Cond.code yX11_init cX11_init 1 none ∈ gWs := gWs_in (gT_5 (List.mem_of_getElem? (i := 57) rfl)) rfl
theorem mM_X11_1 : Cond.methodLink RX11 1 objectInit ∈ gWs := gWs_in (gT_5 (List.mem_of_getElem? (i := 58) rfl)) rfl
theorem mF_X11_149 : Cond.fieldLink RX11 149 "RouteWallModel" "status" "I" ∈ gWs := gWs_in (gT_5 (List.mem_of_getElem? (i := 59) rfl)) rfl
theorem mF_X11_146 : Cond.fieldLink RX11 146 "RouteWallModel" "thrown" "I" ∈ gWs := gWs_in (gT_5 (List.mem_of_getElem? (i := 60) rfl)) rfl
theorem mF_X11_7 : Cond.fieldLink RX11 7 "RouteWallModel" "tape" "[B" ∈ gWs := gWs_in (gT_5 (List.mem_of_getElem? (i := 61) rfl)) rfl
theorem mF_X11_289 : Cond.fieldLink RX11 289 "RouteWallModel" "taped" "I" ∈ gWs := gWs_in (gT_5 (List.mem_of_getElem? (i := 62) rfl)) rfl
theorem mF_X11_152 : Cond.fieldLink RX11 152 "RouteWallModel" "end" "I" ∈ gWs := gWs_in (gT_5 (List.mem_of_getElem? (i := 63) rfl)) rfl
theorem mF_X11_13 : Cond.fieldLink RX11 13 "RouteWallModel" "faultKind" "I" ∈ gWs := gWs_in (gT_5 (List.mem_of_getElem? (i := 64) rfl)) rfl
theorem mF_X11_17 : Cond.fieldLink RX11 17 "RouteWallModel" "faultAt" "I" ∈ gWs := gWs_in (gT_5 (List.mem_of_getElem? (i := 65) rfl)) rfl
theorem mF_X11_188 : Cond.fieldLink RX11 188 "RouteWallModel" "bad" "I" ∈ gWs := gWs_in (gT_5 (List.mem_of_getElem? (i := 66) rfl)) rfl
theorem mF_X11_191 : Cond.fieldLink RX11 191 "RouteWallModel" "badAt" "I" ∈ gWs := gWs_in (gT_5 (List.mem_of_getElem? (i := 67) rfl)) rfl
theorem mF_X11_165 : Cond.fieldLink RX11 165 "RouteWallModel" "sort" "I" ∈ gWs := gWs_in (gT_5 (List.mem_of_getElem? (i := 68) rfl)) rfl
theorem mF_X11_158 : Cond.fieldLink RX11 158 "RouteWallModel" "at" "I" ∈ gWs := gWs_in (gT_5 (List.mem_of_getElem? (i := 69) rfl)) rfl
theorem mF_X11_155 : Cond.fieldLink RX11 155 "RouteWallModel" "behind" "I" ∈ gWs := gWs_in (gT_5 (List.mem_of_getElem? (i := 70) rfl)) rfl
theorem mF_X11_185 : Cond.fieldLink RX11 185 "RouteWallModel" "number" "I" ∈ gWs := gWs_in (gT_5 (List.mem_of_getElem? (i := 71) rfl)) rfl
theorem mF_X11_172 : Cond.fieldLink RX11 172 "RouteWallModel" "word" "J" ∈ gWs := gWs_in (gT_5 (List.mem_of_getElem? (i := 72) rfl)) rfl
theorem mF_X11_301 : Cond.fieldLink RX11 301 "RouteWallModel" "rounds" "I" ∈ gWs := gWs_in (gT_5 (List.mem_of_getElem? (i := 73) rfl)) rfl
theorem mF_X11_304 : Cond.fieldLink RX11 304 "RouteWallModel" "parts" "I" ∈ gWs := gWs_in (gT_5 (List.mem_of_getElem? (i := 74) rfl)) rfl
theorem mF_X11_307 : Cond.fieldLink RX11 307 "RouteWallModel" "keys" "I" ∈ gWs := gWs_in (gT_5 (List.mem_of_getElem? (i := 75) rfl)) rfl
theorem mF_X11_207 : Cond.fieldLink RX11 207 "RouteWallModel" "newRounds" "I" ∈ gWs := gWs_in (gT_5 (List.mem_of_getElem? (i := 76) rfl)) rfl
theorem mF_X11_217 : Cond.fieldLink RX11 217 "RouteWallModel" "newParts" "I" ∈ gWs := gWs_in (gT_5 (List.mem_of_getElem? (i := 77) rfl)) rfl
theorem mF_X11_214 : Cond.fieldLink RX11 214 "RouteWallModel" "newKeys" "I" ∈ gWs := gWs_in (gT_5 (List.mem_of_getElem? (i := 78) rfl)) rfl
theorem mF_X11_310 : Cond.fieldLink RX11 310 "RouteWallModel" "goesBack" "Z" ∈ gWs := gWs_in (gT_5 (List.mem_of_getElem? (i := 79) rfl)) rfl
theorem mF_X11_210 : Cond.fieldLink RX11 210 "RouteWallModel" "newBack" "Z" ∈ gWs := gWs_in (gT_5 (List.mem_of_getElem? (i := 80) rfl)) rfl
theorem mF_X11_20 : Cond.fieldLink RX11 20 "RouteWallModel" "routes" "[I" ∈ gWs := gWs_in (gT_5 (List.mem_of_getElem? (i := 81) rfl)) rfl
theorem mF_X11_24 : Cond.fieldLink RX11 24 "RouteWallModel" "tries" "[I" ∈ gWs := gWs_in (gT_5 (List.mem_of_getElem? (i := 82) rfl)) rfl
theorem mF_X11_27 : Cond.fieldLink RX11 27 "RouteWallModel" "seconds" "[I" ∈ gWs := gWs_in (gT_5 (List.mem_of_getElem? (i := 83) rfl)) rfl
theorem mF_X11_30 : Cond.fieldLink RX11 30 "RouteWallModel" "rest" "[I" ∈ gWs := gWs_in (gT_5 (List.mem_of_getElem? (i := 84) rfl)) rfl
theorem mF_X11_33 : Cond.fieldLink RX11 33 "RouteWallModel" "newRoutes" "[I" ∈ gWs := gWs_in (gT_5 (List.mem_of_getElem? (i := 85) rfl)) rfl
theorem mF_X11_36 : Cond.fieldLink RX11 36 "RouteWallModel" "newTries" "[I" ∈ gWs := gWs_in (gT_5 (List.mem_of_getElem? (i := 86) rfl)) rfl
theorem mF_X11_39 : Cond.fieldLink RX11 39 "RouteWallModel" "newSeconds" "[I" ∈ gWs := gWs_in (gT_5 (List.mem_of_getElem? (i := 87) rfl)) rfl
theorem mF_X11_42 : Cond.fieldLink RX11 42 "RouteWallModel" "newRest" "[I" ∈ gWs := gWs_in (gT_5 (List.mem_of_getElem? (i := 88) rfl)) rfl
theorem mF_X11_45 : Cond.fieldLink RX11 45 "RouteWallModel" "part" "[I" ∈ gWs := gWs_in (gT_5 (List.mem_of_getElem? (i := 89) rfl)) rfl
theorem mF_X11_48 : Cond.fieldLink RX11 48 "RouteWallModel" "partNumber" "[I" ∈ gWs := gWs_in (gT_5 (List.mem_of_getElem? (i := 90) rfl)) rfl
theorem mF_X11_51 : Cond.fieldLink RX11 51 "RouteWallModel" "newPart" "[I" ∈ gWs := gWs_in (gT_5 (List.mem_of_getElem? (i := 91) rfl)) rfl
theorem mF_X11_54 : Cond.fieldLink RX11 54 "RouteWallModel" "newNumber" "[I" ∈ gWs := gWs_in (gT_5 (List.mem_of_getElem? (i := 92) rfl)) rfl
theorem mF_X11_57 : Cond.fieldLink RX11 57 "RouteWallModel" "key" "[I" ∈ gWs := gWs_in (gT_5 (List.mem_of_getElem? (i := 93) rfl)) rfl
theorem mF_X11_60 : Cond.fieldLink RX11 60 "RouteWallModel" "newKey" "[I" ∈ gWs := gWs_in (gT_5 (List.mem_of_getElem? (i := 94) rfl)) rfl
theorem mF_X11_63 : Cond.fieldLink RX11 63 "RouteWallModel" "isUp" "[Z" ∈ gWs := gWs_in (gT_5 (List.mem_of_getElem? (i := 95) rfl)) rfl
theorem mF_X11_67 : Cond.fieldLink RX11 67 "RouteWallModel" "newUp" "[Z" ∈ gWs := gWs_in (gT_5 (List.mem_of_getElem? (i := 96) rfl)) rfl
theorem mF_X11_70 : Cond.fieldLink RX11 70 "RouteWallModel" "waits" "[I" ∈ gWs := gWs_in (gT_5 (List.mem_of_getElem? (i := 97) rfl)) rfl
theorem mF_X11_255 : Cond.fieldLink RX11 255 "RouteWallModel" "waiting" "I" ∈ gWs := gWs_in (gT_5 (List.mem_of_getElem? (i := 98) rfl)) rfl
theorem mF_X11_252 : Cond.fieldLink RX11 252 "RouteWallModel" "deep" "I" ∈ gWs := gWs_in (gT_5 (List.mem_of_getElem? (i := 99) rfl)) rfl
theorem mF_X11_73 : Cond.fieldLink RX11 73 "RouteWallModel" "holds" "[I" ∈ gWs := gWs_in (gT_5 (List.mem_of_getElem? (i := 100) rfl)) rfl
theorem mF_X11_76 : Cond.fieldLink RX11 76 "RouteWallModel" "zones" "[I" ∈ gWs := gWs_in (gT_5 (List.mem_of_getElem? (i := 101) rfl)) rfl
theorem mF_X11_79 : Cond.fieldLink RX11 79 "RouteWallModel" "begun" "[I" ∈ gWs := gWs_in (gT_5 (List.mem_of_getElem? (i := 102) rfl)) rfl
theorem mF_X11_313 : Cond.fieldLink RX11 313 "RouteWallModel" "climbers" "I" ∈ gWs := gWs_in (gT_5 (List.mem_of_getElem? (i := 103) rfl)) rfl
theorem mF_X11_82 : Cond.fieldLink RX11 82 "RouteWallModel" "open" "I" ∈ gWs := gWs_in (gT_5 (List.mem_of_getElem? (i := 104) rfl)) rfl
theorem mF_X11_316 : Cond.fieldLink RX11 316 "RouteWallModel" "now" "I" ∈ gWs := gWs_in (gT_5 (List.mem_of_getElem? (i := 105) rfl)) rfl
theorem mF_X11_85 : Cond.fieldLink RX11 85 "RouteWallModel" "isIn" "[Z" ∈ gWs := gWs_in (gT_5 (List.mem_of_getElem? (i := 106) rfl)) rfl
theorem mF_X11_88 : Cond.fieldLink RX11 88 "RouteWallModel" "order" "[I" ∈ gWs := gWs_in (gT_5 (List.mem_of_getElem? (i := 107) rfl)) rfl
theorem mF_X11_91 : Cond.fieldLink RX11 91 "RouteWallModel" "orderMany" "[I" ∈ gWs := gWs_in (gT_5 (List.mem_of_getElem? (i := 108) rfl)) rfl
theorem mF_X11_319 : Cond.fieldLink RX11 319 "RouteWallModel" "tried" "I" ∈ gWs := gWs_in (gT_5 (List.mem_of_getElem? (i := 109) rfl)) rfl
theorem mF_X11_94 : Cond.fieldLink RX11 94 "RouteWallModel" "who" "[I" ∈ gWs := gWs_in (gT_5 (List.mem_of_getElem? (i := 110) rfl)) rfl
theorem mF_X11_97 : Cond.fieldLink RX11 97 "RouteWallModel" "where" "[I" ∈ gWs := gWs_in (gT_5 (List.mem_of_getElem? (i := 111) rfl)) rfl
theorem mF_X11_100 : Cond.fieldLink RX11 100 "RouteWallModel" "which" "[I" ∈ gWs := gWs_in (gT_5 (List.mem_of_getElem? (i := 112) rfl)) rfl
theorem mF_X11_103 : Cond.fieldLink RX11 103 "RouteWallModel" "from" "[I" ∈ gWs := gWs_in (gT_5 (List.mem_of_getElem? (i := 113) rfl)) rfl
theorem mF_X11_106 : Cond.fieldLink RX11 106 "RouteWallModel" "to" "[I" ∈ gWs := gWs_in (gT_5 (List.mem_of_getElem? (i := 114) rfl)) rfl
theorem mF_X11_109 : Cond.fieldLink RX11 109 "RouteWallModel" "hold" "[I" ∈ gWs := gWs_in (gT_5 (List.mem_of_getElem? (i := 115) rfl)) rfl
theorem mF_X11_112 : Cond.fieldLink RX11 112 "RouteWallModel" "how" "[I" ∈ gWs := gWs_in (gT_5 (List.mem_of_getElem? (i := 116) rfl)) rfl
theorem mF_X11_322 : Cond.fieldLink RX11 322 "RouteWallModel" "appeals" "I" ∈ gWs := gWs_in (gT_5 (List.mem_of_getElem? (i := 117) rfl)) rfl
theorem mF_X11_115 : Cond.fieldLink RX11 115 "RouteWallModel" "appealTry" "[I" ∈ gWs := gWs_in (gT_5 (List.mem_of_getElem? (i := 118) rfl)) rfl
theorem mF_X11_118 : Cond.fieldLink RX11 118 "RouteWallModel" "appealHold" "[I" ∈ gWs := gWs_in (gT_5 (List.mem_of_getElem? (i := 119) rfl)) rfl
theorem mF_X11_121 : Cond.fieldLink RX11 121 "RouteWallModel" "appealDay" "[I" ∈ gWs := gWs_in (gT_5 (List.mem_of_getElem? (i := 120) rfl)) rfl
theorem mF_X11_124 : Cond.fieldLink RX11 124 "RouteWallModel" "outs" "[I" ∈ gWs := gWs_in (gT_5 (List.mem_of_getElem? (i := 121) rfl)) rfl
theorem mF_X11_127 : Cond.fieldLink RX11 127 "RouteWallModel" "outFrom" "[I" ∈ gWs := gWs_in (gT_5 (List.mem_of_getElem? (i := 122) rfl)) rfl
theorem mF_X11_130 : Cond.fieldLink RX11 130 "RouteWallModel" "outTo" "[I" ∈ gWs := gWs_in (gT_5 (List.mem_of_getElem? (i := 123) rfl)) rfl
theorem mF_X11_249 : Cond.fieldLink RX11 249 "RouteWallModel" "counted" "I" ∈ gWs := gWs_in (gT_5 (List.mem_of_getElem? (i := 124) rfl)) rfl
theorem mF_X11_133 : Cond.fieldLink RX11 133 "RouteWallModel" "facts" "[I" ∈ gWs := gWs_in (gT_5 (List.mem_of_getElem? (i := 125) rfl)) rfl
theorem mF_X11_136 : Cond.fieldLink RX11 136 "RouteWallModel" "pile" "[J" ∈ gWs := gWs_in (gT_5 (List.mem_of_getElem? (i := 126) rfl)) rfl
theorem mF_X11_140 : Cond.fieldLink RX11 140 "RouteWallModel" "ranks" "[I" ∈ gWs := gWs_in (gT_5 (List.mem_of_getElem? (i := 127) rfl)) rfl
theorem mF_X11_143 : Cond.fieldLink RX11 143 "RouteWallModel" "sums" "[J" ∈ gWs := gWs_in (gT_5 (List.mem_of_getElem? (i := 128) rfl)) rfl
theorem mA_boolean : Cond.arrayClass .boolean ∈ gWs := gWs_in (gT_6 (List.mem_of_getElem? (i := 30) rfl)) rfl
theorem mM_L_17 : Cond.methodLink RL 17 yX11_status ∈ gWs := gWs_in (gT_6 (List.mem_of_getElem? (i := 31) rfl)) rfl
theorem mI_X11_status : Cond.instanceMethod yX11_status ∈ gWs := gWs_in (gT_6 (List.mem_of_getElem? (i := 32) rfl)) rfl
theorem mE_X11_status : Cond.selects RX11 yX11_status yX11_status ∈ gWs := gWs_in (gT_6 (List.mem_of_getElem? (i := 33) rfl)) rfl
theorem mC_X11_status : Cond.code yX11_status cX11_status 1 (some .int) ∈ gWs := gWs_in (gT_6 (List.mem_of_getElem? (i := 34) rfl)) rfl
theorem mM_L_22 : Cond.methodLink RL 22 yX11_feed ∈ gWs := gWs_in (gT_6 (List.mem_of_getElem? (i := 35) rfl)) rfl
theorem mI_X11_feed : Cond.instanceMethod yX11_feed ∈ gWs := gWs_in (gT_6 (List.mem_of_getElem? (i := 36) rfl)) rfl
theorem mE_X11_feed : Cond.selects RX11 yX11_feed yX11_feed ∈ gWs := gWs_in (gT_6 (List.mem_of_getElem? (i := 37) rfl)) rfl
theorem mC_X11_feed : Cond.code yX11_feed cX11_feed 6 (some .int) ∈ gWs := gWs_in (gT_6 (List.mem_of_getElem? (i := 38) rfl)) rfl
theorem mM_X11_292 : Cond.methodLink RX11 292 yX11_lay ∈ gWs := gWs_in (gT_6 (List.mem_of_getElem? (i := 39) rfl)) rfl
theorem mI_X11_lay : Cond.instanceMethod yX11_lay ∈ gWs := gWs_in (gT_6 (List.mem_of_getElem? (i := 41) rfl)) rfl
theorem mC_X11_lay : Cond.code yX11_lay cX11_lay 3 none ∈ gWs := gWs_in (gT_6 (List.mem_of_getElem? (i := 42) rfl)) rfl
theorem mM_L_27 : Cond.methodLink RL 27 yX11_load ∈ gWs := gWs_in (gT_6 (List.mem_of_getElem? (i := 43) rfl)) rfl
theorem mI_X11_load : Cond.instanceMethod yX11_load ∈ gWs := gWs_in (gT_6 (List.mem_of_getElem? (i := 44) rfl)) rfl
theorem mE_X11_load : Cond.selects RX11 yX11_load yX11_load ∈ gWs := gWs_in (gT_6 (List.mem_of_getElem? (i := 45) rfl)) rfl
theorem mC_X11_load : Cond.code yX11_load cX11_load 4 (some .int) ∈ gWs := gWs_in (gT_6 (List.mem_of_getElem? (i := 46) rfl)) rfl
theorem mM_X11_295 : Cond.methodLink RX11 295 yX11_refuse ∈ gWs := gWs_in (gT_6 (List.mem_of_getElem? (i := 47) rfl)) rfl
theorem mI_X11_refuse : Cond.instanceMethod yX11_refuse ∈ gWs := gWs_in (gT_6 (List.mem_of_getElem? (i := 49) rfl)) rfl
theorem mC_X11_refuse : Cond.code yX11_refuse cX11_refuse 2 (some .int) ∈ gWs := gWs_in (gT_6 (List.mem_of_getElem? (i := 50) rfl)) rfl
theorem mM_X11_298 : Cond.methodLink RX11 298 yX11_readText ∈ gWs := gWs_in (gT_6 (List.mem_of_getElem? (i := 51) rfl)) rfl
theorem mI_X11_readText : Cond.instanceMethod yX11_readText ∈ gWs := gWs_in (gT_6 (List.mem_of_getElem? (i := 53) rfl)) rfl
theorem mC_X11_readText : Cond.code yX11_readText cX11_readText 3 none ∈ gWs := gWs_in (gT_6 (List.mem_of_getElem? (i := 54) rfl)) rfl
theorem mM_X11_201 : Cond.methodLink RX11 201 yX11_next ∈ gWs := gWs_in (gT_6 (List.mem_of_getElem? (i := 55) rfl)) rfl
theorem mI_X11_next : Cond.instanceMethod yX11_next ∈ gWs := gWs_in (gT_6 (List.mem_of_getElem? (i := 57) rfl)) rfl
theorem mC_X11_next : Cond.code yX11_next cX11_next 2 none ∈ gWs := gWs_in (gT_6 (List.mem_of_getElem? (i := 58) rfl)) rfl
theorem mM_X11_161 : Cond.methodLink RX11 161 yX11_look ∈ gWs := gWs_in (gT_6 (List.mem_of_getElem? (i := 59) rfl)) rfl
theorem mI_X11_look : Cond.instanceMethod yX11_look ∈ gWs := gWs_in (gT_6 (List.mem_of_getElem? (i := 61) rfl)) rfl
theorem mC_X11_look : Cond.code yX11_look cX11_look 2 (some .int) ∈ gWs := gWs_in (gT_6 (List.mem_of_getElem? (i := 62) rfl)) rfl
theorem mM_X11_168 : Cond.methodLink RX11 168 yX11_isLetter ∈ gWs := gWs_in (gT_6 (List.mem_of_getElem? (i := 63) rfl)) rfl
theorem mS_X11_isLetter : Cond.static yX11_isLetter ∈ gWs := gWs_in (gT_6 (List.mem_of_getElem? (i := 64) rfl)) rfl
theorem mC_X11_isLetter : Cond.code yX11_isLetter cX11_isLetter 1 (some .boolean) ∈ gWs := gWs_in (gT_6 (List.mem_of_getElem? (i := 65) rfl)) rfl
theorem mD_X11_176 : Cond.constantLong RX11 176 (32) ∈ gWs := gWs_in (gT_6 (List.mem_of_getElem? (i := 66) rfl)) rfl
theorem mD_X11_178 : Cond.constantLong RX11 178 (96) ∈ gWs := gWs_in (gT_6 (List.mem_of_getElem? (i := 67) rfl)) rfl
theorem mD_X11_180 : Cond.constantLong RX11 180 (-1) ∈ gWs := gWs_in (gT_6 (List.mem_of_getElem? (i := 68) rfl)) rfl
theorem mM_X11_182 : Cond.methodLink RX11 182 yX11_isDigit ∈ gWs := gWs_in (gT_6 (List.mem_of_getElem? (i := 69) rfl)) rfl
theorem mS_X11_isDigit : Cond.static yX11_isDigit ∈ gWs := gWs_in (gT_6 (List.mem_of_getElem? (i := 70) rfl)) rfl
theorem mC_X11_isDigit : Cond.code yX11_isDigit cX11_isDigit 1 (some .boolean) ∈ gWs := gWs_in (gT_6 (List.mem_of_getElem? (i := 71) rfl)) rfl
theorem mM_X11_220 : Cond.methodLink RX11 220 yX11_lawOf ∈ gWs := gWs_in (gT_6 (List.mem_of_getElem? (i := 72) rfl)) rfl
theorem mI_X11_lawOf : Cond.instanceMethod yX11_lawOf ∈ gWs := gWs_in (gT_6 (List.mem_of_getElem? (i := 74) rfl)) rfl
theorem mC_X11_lawOf : Cond.code yX11_lawOf cX11_lawOf 1 (some .int) ∈ gWs := gWs_in (gT_6 (List.mem_of_getElem? (i := 75) rfl)) rfl
theorem mM_X11_228 : Cond.methodLink RX11 228 yX11_spelled ∈ gWs := gWs_in (gT_6 (List.mem_of_getElem? (i := 76) rfl)) rfl
theorem mS_X11_spelled : Cond.static yX11_spelled ∈ gWs := gWs_in (gT_6 (List.mem_of_getElem? (i := 77) rfl)) rfl
theorem mC_X11_spelled : Cond.code yX11_spelled cX11_spelled 9 (some .long) ∈ gWs := gWs_in (gT_6 (List.mem_of_getElem? (i := 78) rfl)) rfl
theorem mM_X11_232 : Cond.methodLink RX11 232 yX11_isWord ∈ gWs := gWs_in (gT_6 (List.mem_of_getElem? (i := 79) rfl)) rfl
theorem mI_X11_isWord : Cond.instanceMethod yX11_isWord ∈ gWs := gWs_in (gT_6 (List.mem_of_getElem? (i := 81) rfl)) rfl
theorem mC_X11_isWord : Cond.code yX11_isWord cX11_isWord 3 (some .boolean) ∈ gWs := gWs_in (gT_6 (List.mem_of_getElem? (i := 82) rfl)) rfl
theorem mM_X11_198 : Cond.methodLink RX11 198 yX11_wrong ∈ gWs := gWs_in (gT_6 (List.mem_of_getElem? (i := 83) rfl)) rfl
theorem mI_X11_wrong : Cond.instanceMethod yX11_wrong ∈ gWs := gWs_in (gT_6 (List.mem_of_getElem? (i := 85) rfl)) rfl
theorem mC_X11_wrong : Cond.code yX11_wrong cX11_wrong 1 none ∈ gWs := gWs_in (gT_6 (List.mem_of_getElem? (i := 86) rfl)) rfl
theorem mM_X11_194 : Cond.methodLink RX11 194 yX11_fail ∈ gWs := gWs_in (gT_6 (List.mem_of_getElem? (i := 87) rfl)) rfl
theorem mI_X11_fail : Cond.instanceMethod yX11_fail ∈ gWs := gWs_in (gT_6 (List.mem_of_getElem? (i := 89) rfl)) rfl
theorem mC_X11_fail : Cond.code yX11_fail cX11_fail 3 none ∈ gWs := gWs_in (gT_6 (List.mem_of_getElem? (i := 90) rfl)) rfl
theorem mM_X11_224 : Cond.methodLink RX11 224 yX11_readLaw ∈ gWs := gWs_in (gT_6 (List.mem_of_getElem? (i := 91) rfl)) rfl
theorem mI_X11_readLaw : Cond.instanceMethod yX11_readLaw ∈ gWs := gWs_in (gT_6 (List.mem_of_getElem? (i := 93) rfl)) rfl
theorem mC_X11_readLaw : Cond.code yX11_readLaw cX11_readLaw 2 none ∈ gWs := gWs_in (gT_6 (List.mem_of_getElem? (i := 94) rfl)) rfl
theorem mM_X11_236 : Cond.methodLink RX11 236 yX11_numberOf ∈ gWs := gWs_in (gT_6 (List.mem_of_getElem? (i := 95) rfl)) rfl
theorem mI_X11_numberOf : Cond.instanceMethod yX11_numberOf ∈ gWs := gWs_in (gT_6 (List.mem_of_getElem? (i := 97) rfl)) rfl
theorem mC_X11_numberOf : Cond.code yX11_numberOf cX11_numberOf 4 (some .int) ∈ gWs := gWs_in (gT_6 (List.mem_of_getElem? (i := 98) rfl)) rfl
theorem mM_X11_240 : Cond.methodLink RX11 240 yX11_readExpression ∈ gWs := gWs_in (gT_6 (List.mem_of_getElem? (i := 99) rfl)) rfl
theorem mI_X11_readExpression : Cond.instanceMethod yX11_readExpression ∈ gWs := gWs_in (gT_6 (List.mem_of_getElem? (i := 101) rfl)) rfl
theorem mC_X11_readExpression : Cond.code yX11_readExpression cX11_readExpression 4 none ∈ gWs := gWs_in (gT_6 (List.mem_of_getElem? (i := 102) rfl)) rfl
theorem mM_X11_264 : Cond.methodLink RX11 264 yX11_readFactor ∈ gWs := gWs_in (gT_6 (List.mem_of_getElem? (i := 103) rfl)) rfl
theorem mI_X11_readFactor : Cond.instanceMethod yX11_readFactor ∈ gWs := gWs_in (gT_6 (List.mem_of_getElem? (i := 105) rfl)) rfl
theorem mC_X11_readFactor : Cond.code yX11_readFactor cX11_readFactor 2 (some .boolean) ∈ gWs := gWs_in (gT_6 (List.mem_of_getElem? (i := 106) rfl)) rfl
theorem mM_X11_283 : Cond.methodLink RX11 283 yX11_nameOf ∈ gWs := gWs_in (gT_6 (List.mem_of_getElem? (i := 107) rfl)) rfl
theorem mI_X11_nameOf : Cond.instanceMethod yX11_nameOf ∈ gWs := gWs_in (gT_6 (List.mem_of_getElem? (i := 109) rfl)) rfl
theorem mC_X11_nameOf : Cond.code yX11_nameOf cX11_nameOf 1 (some .int) ∈ gWs := gWs_in (gT_6 (List.mem_of_getElem? (i := 110) rfl)) rfl
theorem mM_X11_271 : Cond.methodLink RX11 271 yX11_counts ∈ gWs := gWs_in (gT_6 (List.mem_of_getElem? (i := 111) rfl)) rfl
theorem mI_X11_counts : Cond.instanceMethod yX11_counts ∈ gWs := gWs_in (gT_6 (List.mem_of_getElem? (i := 113) rfl)) rfl
theorem mC_X11_counts : Cond.code yX11_counts cX11_counts 1 none ∈ gWs := gWs_in (gT_6 (List.mem_of_getElem? (i := 114) rfl)) rfl
theorem mM_X11_261 : Cond.methodLink RX11 261 yX11_puts ∈ gWs := gWs_in (gT_6 (List.mem_of_getElem? (i := 115) rfl)) rfl
theorem mI_X11_puts : Cond.instanceMethod yX11_puts ∈ gWs := gWs_in (gT_6 (List.mem_of_getElem? (i := 117) rfl)) rfl
theorem mC_X11_puts : Cond.code yX11_puts cX11_puts 3 none ∈ gWs := gWs_in (gT_6 (List.mem_of_getElem? (i := 118) rfl)) rfl
theorem mM_X11_204 : Cond.methodLink RX11 204 yX11_isSign ∈ gWs := gWs_in (gT_6 (List.mem_of_getElem? (i := 119) rfl)) rfl
theorem mI_X11_isSign : Cond.instanceMethod yX11_isSign ∈ gWs := gWs_in (gT_6 (List.mem_of_getElem? (i := 121) rfl)) rfl
theorem mC_X11_isSign : Cond.code yX11_isSign cX11_isSign 2 (some .boolean) ∈ gWs := gWs_in (gT_6 (List.mem_of_getElem? (i := 122) rfl)) rfl
theorem mM_X11_286 : Cond.methodLink RX11 286 yX11_deeper ∈ gWs := gWs_in (gT_6 (List.mem_of_getElem? (i := 123) rfl)) rfl
theorem mI_X11_deeper : Cond.instanceMethod yX11_deeper ∈ gWs := gWs_in (gT_6 (List.mem_of_getElem? (i := 125) rfl)) rfl
theorem mC_X11_deeper : Cond.code yX11_deeper cX11_deeper 1 none ∈ gWs := gWs_in (gT_6 (List.mem_of_getElem? (i := 126) rfl)) rfl
theorem mM_X11_277 : Cond.methodLink RX11 277 yX11_waitFor ∈ gWs := gWs_in (gT_6 (List.mem_of_getElem? (i := 127) rfl)) rfl
theorem mI_X11_waitFor : Cond.instanceMethod yX11_waitFor ∈ gWs := gWs_in (gT_6 (List.mem_of_getElem? (i := 129) rfl)) rfl
theorem mC_X11_waitFor : Cond.code yX11_waitFor cX11_waitFor 2 none ∈ gWs := gWs_in (gT_6 (List.mem_of_getElem? (i := 130) rfl)) rfl
theorem mM_X11_268 : Cond.methodLink RX11 268 yX11_wholes ∈ gWs := gWs_in (gT_6 (List.mem_of_getElem? (i := 131) rfl)) rfl
theorem mI_X11_wholes : Cond.instanceMethod yX11_wholes ∈ gWs := gWs_in (gT_6 (List.mem_of_getElem? (i := 133) rfl)) rfl
theorem mC_X11_wholes : Cond.code yX11_wholes cX11_wholes 1 none ∈ gWs := gWs_in (gT_6 (List.mem_of_getElem? (i := 134) rfl)) rfl
theorem mM_X11_258 : Cond.methodLink RX11 258 yX11_strong ∈ gWs := gWs_in (gT_6 (List.mem_of_getElem? (i := 135) rfl)) rfl
theorem mS_X11_strong : Cond.static yX11_strong ∈ gWs := gWs_in (gT_6 (List.mem_of_getElem? (i := 136) rfl)) rfl
theorem mC_X11_strong : Cond.code yX11_strong cX11_strong 1 (some .int) ∈ gWs := gWs_in (gT_6 (List.mem_of_getElem? (i := 137) rfl)) rfl
theorem mM_X11_274 : Cond.methodLink RX11 274 yX11_reduce ∈ gWs := gWs_in (gT_6 (List.mem_of_getElem? (i := 138) rfl)) rfl
theorem mI_X11_reduce : Cond.instanceMethod yX11_reduce ∈ gWs := gWs_in (gT_6 (List.mem_of_getElem? (i := 140) rfl)) rfl
theorem mC_X11_reduce : Cond.code yX11_reduce cX11_reduce 2 none ∈ gWs := gWs_in (gT_6 (List.mem_of_getElem? (i := 141) rfl)) rfl
theorem mM_X11_280 : Cond.methodLink RX11 280 yX11_isOpen ∈ gWs := gWs_in (gT_6 (List.mem_of_getElem? (i := 142) rfl)) rfl
theorem mI_X11_isOpen : Cond.instanceMethod yX11_isOpen ∈ gWs := gWs_in (gT_6 (List.mem_of_getElem? (i := 144) rfl)) rfl
theorem mC_X11_isOpen : Cond.code yX11_isOpen cX11_isOpen 2 (some .boolean) ∈ gWs := gWs_in (gT_6 (List.mem_of_getElem? (i := 145) rfl)) rfl
theorem mM_X11_243 : Cond.methodLink RX11 243 yX11_readKeys ∈ gWs := gWs_in (gT_6 (List.mem_of_getElem? (i := 146) rfl)) rfl
theorem mI_X11_readKeys : Cond.instanceMethod yX11_readKeys ∈ gWs := gWs_in (gT_6 (List.mem_of_getElem? (i := 148) rfl)) rfl
theorem mC_X11_readKeys : Cond.code yX11_readKeys cX11_readKeys 4 none ∈ gWs := gWs_in (gT_6 (List.mem_of_getElem? (i := 149) rfl)) rfl
theorem mM_X11_246 : Cond.methodLink RX11 246 yX11_ends ∈ gWs := gWs_in (gT_6 (List.mem_of_getElem? (i := 150) rfl)) rfl
theorem mI_X11_ends : Cond.instanceMethod yX11_ends ∈ gWs := gWs_in (gT_6 (List.mem_of_getElem? (i := 152) rfl)) rfl
theorem mC_X11_ends : Cond.code yX11_ends cX11_ends 1 none ∈ gWs := gWs_in (gT_6 (List.mem_of_getElem? (i := 153) rfl)) rfl
theorem mM_L_31 : Cond.methodLink RL 31 yX11_fault ∈ gWs := gWs_in (gT_6 (List.mem_of_getElem? (i := 154) rfl)) rfl
theorem mI_X11_fault : Cond.instanceMethod yX11_fault ∈ gWs := gWs_in (gT_6 (List.mem_of_getElem? (i := 155) rfl)) rfl
theorem mE_X11_fault : Cond.selects RX11 yX11_fault yX11_fault ∈ gWs := gWs_in (gT_6 (List.mem_of_getElem? (i := 156) rfl)) rfl
theorem mC_X11_fault : Cond.code yX11_fault cX11_fault 2 (some .int) ∈ gWs := gWs_in (gT_6 (List.mem_of_getElem? (i := 157) rfl)) rfl
theorem mM_L_35 : Cond.methodLink RL 35 yX11_climber ∈ gWs := gWs_in (gT_6 (List.mem_of_getElem? (i := 158) rfl)) rfl
theorem mI_X11_climber : Cond.instanceMethod yX11_climber ∈ gWs := gWs_in (gT_6 (List.mem_of_getElem? (i := 159) rfl)) rfl
theorem mE_X11_climber : Cond.selects RX11 yX11_climber yX11_climber ∈ gWs := gWs_in (gT_6 (List.mem_of_getElem? (i := 160) rfl)) rfl
theorem mC_X11_climber : Cond.code yX11_climber cX11_climber 1 (some .int) ∈ gWs := gWs_in (gT_6 (List.mem_of_getElem? (i := 161) rfl)) rfl
theorem mM_L_40 : Cond.methodLink RL 40 yX11_route ∈ gWs := gWs_in (gT_6 (List.mem_of_getElem? (i := 162) rfl)) rfl
theorem mI_X11_route : Cond.instanceMethod yX11_route ∈ gWs := gWs_in (gT_6 (List.mem_of_getElem? (i := 163) rfl)) rfl
theorem mE_X11_route : Cond.selects RX11 yX11_route yX11_route ∈ gWs := gWs_in (gT_6 (List.mem_of_getElem? (i := 164) rfl)) rfl
theorem mC_X11_route : Cond.code yX11_route cX11_route 9 (some .boolean) ∈ gWs := gWs_in (gT_6 (List.mem_of_getElem? (i := 165) rfl)) rfl
theorem mM_X11_328 : Cond.methodLink RX11 328 yX11_isRoute ∈ gWs := gWs_in (gT_6 (List.mem_of_getElem? (i := 166) rfl)) rfl
theorem mI_X11_isRoute : Cond.instanceMethod yX11_isRoute ∈ gWs := gWs_in (gT_6 (List.mem_of_getElem? (i := 168) rfl)) rfl
theorem mC_X11_isRoute : Cond.code yX11_isRoute cX11_isRoute 3 (some .boolean) ∈ gWs := gWs_in (gT_6 (List.mem_of_getElem? (i := 169) rfl)) rfl
theorem mM_X11_325 : Cond.methodLink RX11 325 yX11_isRound ∈ gWs := gWs_in (gT_6 (List.mem_of_getElem? (i := 170) rfl)) rfl
theorem mI_X11_isRound : Cond.instanceMethod yX11_isRound ∈ gWs := gWs_in (gT_6 (List.mem_of_getElem? (i := 172) rfl)) rfl
theorem mC_X11_isRound : Cond.code yX11_isRound cX11_isRound 2 (some .boolean) ∈ gWs := gWs_in (gT_6 (List.mem_of_getElem? (i := 173) rfl)) rfl
theorem mM_X11_332 : Cond.methodLink RX11 332 yX11_no ∈ gWs := gWs_in (gT_6 (List.mem_of_getElem? (i := 174) rfl)) rfl
theorem mI_X11_no : Cond.instanceMethod yX11_no ∈ gWs := gWs_in (gT_6 (List.mem_of_getElem? (i := 176) rfl)) rfl
theorem mC_X11_no : Cond.code yX11_no cX11_no 2 (some .boolean) ∈ gWs := gWs_in (gT_6 (List.mem_of_getElem? (i := 177) rfl)) rfl
theorem mM_X11_335 : Cond.methodLink RX11 335 yX11_at ∈ gWs := gWs_in (gT_6 (List.mem_of_getElem? (i := 178) rfl)) rfl
theorem mS_X11_at : Cond.static yX11_at ∈ gWs := gWs_in (gT_6 (List.mem_of_getElem? (i := 179) rfl)) rfl
theorem mC_X11_at : Cond.code yX11_at cX11_at 2 (some .int) ∈ gWs := gWs_in (gT_6 (List.mem_of_getElem? (i := 180) rfl)) rfl
theorem mM_L_45 : Cond.methodLink RL 45 yX11_told ∈ gWs := gWs_in (gT_6 (List.mem_of_getElem? (i := 181) rfl)) rfl
theorem mI_X11_told : Cond.instanceMethod yX11_told ∈ gWs := gWs_in (gT_6 (List.mem_of_getElem? (i := 182) rfl)) rfl
theorem mE_X11_told : Cond.selects RX11 yX11_told yX11_told ∈ gWs := gWs_in (gT_6 (List.mem_of_getElem? (i := 183) rfl)) rfl
theorem mC_X11_told : Cond.code yX11_told cX11_told 5 (some .int) ∈ gWs := gWs_in (gT_6 (List.mem_of_getElem? (i := 184) rfl)) rfl
theorem mM_L_49 : Cond.methodLink RL 49 yX11_begin ∈ gWs := gWs_in (gT_6 (List.mem_of_getElem? (i := 185) rfl)) rfl
theorem mI_X11_begin : Cond.instanceMethod yX11_begin ∈ gWs := gWs_in (gT_6 (List.mem_of_getElem? (i := 186) rfl)) rfl
theorem mE_X11_begin : Cond.selects RX11 yX11_begin yX11_begin ∈ gWs := gWs_in (gT_6 (List.mem_of_getElem? (i := 187) rfl)) rfl
theorem mC_X11_begin : Cond.code yX11_begin cX11_begin 8 (some .int) ∈ gWs := gWs_in (gT_6 (List.mem_of_getElem? (i := 188) rfl)) rfl
theorem mM_X11_349 : Cond.methodLink RX11 349 yX11_isClimber ∈ gWs := gWs_in (gT_6 (List.mem_of_getElem? (i := 189) rfl)) rfl
theorem mI_X11_isClimber : Cond.instanceMethod yX11_isClimber ∈ gWs := gWs_in (gT_6 (List.mem_of_getElem? (i := 191) rfl)) rfl
theorem mC_X11_isClimber : Cond.code yX11_isClimber cX11_isClimber 2 (some .boolean) ∈ gWs := gWs_in (gT_6 (List.mem_of_getElem? (i := 192) rfl)) rfl
theorem mM_X11_352 : Cond.methodLink RX11 352 yX11_clocked ∈ gWs := gWs_in (gT_6 (List.mem_of_getElem? (i := 193) rfl)) rfl
theorem mI_X11_clocked : Cond.instanceMethod yX11_clocked ∈ gWs := gWs_in (gT_6 (List.mem_of_getElem? (i := 195) rfl)) rfl
theorem mC_X11_clocked : Cond.code yX11_clocked cX11_clocked 2 (some .int) ∈ gWs := gWs_in (gT_6 (List.mem_of_getElem? (i := 196) rfl)) rfl
theorem mD_X11_337 : Cond.constant RX11 337 (1000000) ∈ gWs := gWs_in (gT_6 (List.mem_of_getElem? (i := 197) rfl)) rfl
theorem mM_X11_338 : Cond.methodLink RX11 338 yX11_goesTo ∈ gWs := gWs_in (gT_6 (List.mem_of_getElem? (i := 198) rfl)) rfl
theorem mI_X11_goesTo : Cond.instanceMethod yX11_goesTo ∈ gWs := gWs_in (gT_6 (List.mem_of_getElem? (i := 200) rfl)) rfl
theorem mC_X11_goesTo : Cond.code yX11_goesTo cX11_goesTo 3 none ∈ gWs := gWs_in (gT_6 (List.mem_of_getElem? (i := 201) rfl)) rfl
theorem mM_X11_355 : Cond.methodLink RX11 355 yX11_openTry ∈ gWs := gWs_in (gT_6 (List.mem_of_getElem? (i := 202) rfl)) rfl
theorem mI_X11_openTry : Cond.instanceMethod yX11_openTry ∈ gWs := gWs_in (gT_6 (List.mem_of_getElem? (i := 204) rfl)) rfl
theorem mC_X11_openTry : Cond.code yX11_openTry cX11_openTry 3 (some .int) ∈ gWs := gWs_in (gT_6 (List.mem_of_getElem? (i := 205) rfl)) rfl
theorem mM_X11_358 : Cond.methodLink RX11 358 yX11_hasSeen ∈ gWs := gWs_in (gT_6 (List.mem_of_getElem? (i := 206) rfl)) rfl
theorem mI_X11_hasSeen : Cond.instanceMethod yX11_hasSeen ∈ gWs := gWs_in (gT_6 (List.mem_of_getElem? (i := 208) rfl)) rfl
theorem mC_X11_hasSeen : Cond.code yX11_hasSeen cX11_hasSeen 7 (some .boolean) ∈ gWs := gWs_in (gT_6 (List.mem_of_getElem? (i := 209) rfl)) rfl
theorem mM_X11_341 : Cond.methodLink RX11 341 yJ9_max_7cf53 ∈ gWs := gWs_in (gT_6 (List.mem_of_getElem? (i := 210) rfl)) rfl
theorem mM_X11_346 : Cond.methodLink RX11 346 yJ9_min_7cf53 ∈ gWs := gWs_in (gT_6 (List.mem_of_getElem? (i := 211) rfl)) rfl
theorem mS_J9_min_7cf53 : Cond.static yJ9_min_7cf53 ∈ gWs := gWs_in (gT_6 (List.mem_of_getElem? (i := 212) rfl)) rfl
theorem mC_J9_min_7cf53 : Cond.code yJ9_min_7cf53 cJ9_min_7cf53 2 (some .int) ∈ gWs := gWs_in (gT_6 (List.mem_of_getElem? (i := 213) rfl)) rfl
theorem mM_X11_361 : Cond.methodLink RX11 361 yX11_readyAt ∈ gWs := gWs_in (gT_6 (List.mem_of_getElem? (i := 214) rfl)) rfl
theorem mI_X11_readyAt : Cond.instanceMethod yX11_readyAt ∈ gWs := gWs_in (gT_6 (List.mem_of_getElem? (i := 216) rfl)) rfl
theorem mC_X11_readyAt : Cond.code yX11_readyAt cX11_readyAt 4 (some .int) ∈ gWs := gWs_in (gT_6 (List.mem_of_getElem? (i := 217) rfl)) rfl
theorem mM_L_53 : Cond.methodLink RL 53 yX11_reach ∈ gWs := gWs_in (gT_6 (List.mem_of_getElem? (i := 218) rfl)) rfl
theorem mI_X11_reach : Cond.instanceMethod yX11_reach ∈ gWs := gWs_in (gT_6 (List.mem_of_getElem? (i := 219) rfl)) rfl
theorem mE_X11_reach : Cond.selects RX11 yX11_reach yX11_reach ∈ gWs := gWs_in (gT_6 (List.mem_of_getElem? (i := 220) rfl)) rfl
theorem mC_X11_reach : Cond.code yX11_reach cX11_reach 7 (some .int) ∈ gWs := gWs_in (gT_6 (List.mem_of_getElem? (i := 221) rfl)) rfl
theorem mM_L_58 : Cond.methodLink RL 58 yX11_fall ∈ gWs := gWs_in (gT_6 (List.mem_of_getElem? (i := 222) rfl)) rfl
theorem mI_X11_fall : Cond.instanceMethod yX11_fall ∈ gWs := gWs_in (gT_6 (List.mem_of_getElem? (i := 223) rfl)) rfl
theorem mE_X11_fall : Cond.selects RX11 yX11_fall yX11_fall ∈ gWs := gWs_in (gT_6 (List.mem_of_getElem? (i := 224) rfl)) rfl
theorem mC_X11_fall : Cond.code yX11_fall cX11_fall 6 (some .boolean) ∈ gWs := gWs_in (gT_6 (List.mem_of_getElem? (i := 225) rfl)) rfl
theorem mM_L_62 : Cond.methodLink RL 62 yX11_out ∈ gWs := gWs_in (gT_6 (List.mem_of_getElem? (i := 226) rfl)) rfl
theorem mI_X11_out : Cond.instanceMethod yX11_out ∈ gWs := gWs_in (gT_6 (List.mem_of_getElem? (i := 227) rfl)) rfl
theorem mE_X11_out : Cond.selects RX11 yX11_out yX11_out ∈ gWs := gWs_in (gT_6 (List.mem_of_getElem? (i := 228) rfl)) rfl
theorem mC_X11_out : Cond.code yX11_out cX11_out 7 (some .boolean) ∈ gWs := gWs_in (gT_6 (List.mem_of_getElem? (i := 229) rfl)) rfl
theorem mM_L_67 : Cond.methodLink RL 67 yX11_clock ∈ gWs := gWs_in (gT_6 (List.mem_of_getElem? (i := 230) rfl)) rfl
theorem mI_X11_clock : Cond.instanceMethod yX11_clock ∈ gWs := gWs_in (gT_6 (List.mem_of_getElem? (i := 231) rfl)) rfl
theorem mE_X11_clock : Cond.selects RX11 yX11_clock yX11_clock ∈ gWs := gWs_in (gT_6 (List.mem_of_getElem? (i := 232) rfl)) rfl
theorem mC_X11_clock : Cond.code yX11_clock cX11_clock 2 (some .boolean) ∈ gWs := gWs_in (gT_6 (List.mem_of_getElem? (i := 233) rfl)) rfl
theorem mM_L_71 : Cond.methodLink RL 71 yX11_now ∈ gWs := gWs_in (gT_6 (List.mem_of_getElem? (i := 234) rfl)) rfl
theorem mI_X11_now : Cond.instanceMethod yX11_now ∈ gWs := gWs_in (gT_6 (List.mem_of_getElem? (i := 235) rfl)) rfl
theorem mE_X11_now : Cond.selects RX11 yX11_now yX11_now ∈ gWs := gWs_in (gT_6 (List.mem_of_getElem? (i := 236) rfl)) rfl
theorem mC_X11_now : Cond.code yX11_now cX11_now 1 (some .int) ∈ gWs := gWs_in (gT_6 (List.mem_of_getElem? (i := 237) rfl)) rfl
theorem mM_L_76 : Cond.methodLink RL 76 yX11_tried ∈ gWs := gWs_in (gT_6 (List.mem_of_getElem? (i := 238) rfl)) rfl
theorem mI_X11_tried : Cond.instanceMethod yX11_tried ∈ gWs := gWs_in (gT_6 (List.mem_of_getElem? (i := 239) rfl)) rfl
theorem mE_X11_tried : Cond.selects RX11 yX11_tried yX11_tried ∈ gWs := gWs_in (gT_7 (List.mem_of_getElem? (i := 0) rfl)) rfl
theorem mC_X11_tried : Cond.code yX11_tried cX11_tried 3 (some .int) ∈ gWs := gWs_in (gT_7 (List.mem_of_getElem? (i := 1) rfl)) rfl
theorem mM_L_80 : Cond.methodLink RL 80 yX11_seen ∈ gWs := gWs_in (gT_7 (List.mem_of_getElem? (i := 2) rfl)) rfl
theorem mI_X11_seen : Cond.instanceMethod yX11_seen ∈ gWs := gWs_in (gT_7 (List.mem_of_getElem? (i := 3) rfl)) rfl
theorem mE_X11_seen : Cond.selects RX11 yX11_seen yX11_seen ∈ gWs := gWs_in (gT_7 (List.mem_of_getElem? (i := 4) rfl)) rfl
theorem mC_X11_seen : Cond.code yX11_seen cX11_seen 3 (some .int) ∈ gWs := gWs_in (gT_7 (List.mem_of_getElem? (i := 5) rfl)) rfl
theorem mM_L_84 : Cond.methodLink RL 84 yX11_ready ∈ gWs := gWs_in (gT_7 (List.mem_of_getElem? (i := 6) rfl)) rfl
theorem mI_X11_ready : Cond.instanceMethod yX11_ready ∈ gWs := gWs_in (gT_7 (List.mem_of_getElem? (i := 7) rfl)) rfl
theorem mE_X11_ready : Cond.selects RX11 yX11_ready yX11_ready ∈ gWs := gWs_in (gT_7 (List.mem_of_getElem? (i := 8) rfl)) rfl
theorem mC_X11_ready : Cond.code yX11_ready cX11_ready 2 (some .int) ∈ gWs := gWs_in (gT_7 (List.mem_of_getElem? (i := 9) rfl)) rfl
theorem mM_L_89 : Cond.methodLink RL 89 yX11_appeal ∈ gWs := gWs_in (gT_7 (List.mem_of_getElem? (i := 10) rfl)) rfl
theorem mI_X11_appeal : Cond.instanceMethod yX11_appeal ∈ gWs := gWs_in (gT_7 (List.mem_of_getElem? (i := 11) rfl)) rfl
theorem mE_X11_appeal : Cond.selects RX11 yX11_appeal yX11_appeal ∈ gWs := gWs_in (gT_7 (List.mem_of_getElem? (i := 12) rfl)) rfl
theorem mC_X11_appeal : Cond.code yX11_appeal cX11_appeal 4 (some .boolean) ∈ gWs := gWs_in (gT_7 (List.mem_of_getElem? (i := 13) rfl)) rfl
theorem mM_X11_364 : Cond.methodLink RX11 364 yX11_isDay ∈ gWs := gWs_in (gT_7 (List.mem_of_getElem? (i := 14) rfl)) rfl
theorem mS_X11_isDay : Cond.static yX11_isDay ∈ gWs := gWs_in (gT_7 (List.mem_of_getElem? (i := 15) rfl)) rfl
theorem mC_X11_isDay : Cond.code yX11_isDay cX11_isDay 1 (some .boolean) ∈ gWs := gWs_in (gT_7 (List.mem_of_getElem? (i := 16) rfl)) rfl
theorem mM_L_93 : Cond.methodLink RL 93 yX11_of ∈ gWs := gWs_in (gT_7 (List.mem_of_getElem? (i := 17) rfl)) rfl
theorem mI_X11_of : Cond.instanceMethod yX11_of ∈ gWs := gWs_in (gT_7 (List.mem_of_getElem? (i := 18) rfl)) rfl
theorem mE_X11_of : Cond.selects RX11 yX11_of yX11_of ∈ gWs := gWs_in (gT_7 (List.mem_of_getElem? (i := 19) rfl)) rfl
theorem mC_X11_of : Cond.code yX11_of cX11_of 7 (some .int) ∈ gWs := gWs_in (gT_7 (List.mem_of_getElem? (i := 20) rfl)) rfl
theorem mM_X11_387 : Cond.methodLink RX11 387 yX11_pointsOf ∈ gWs := gWs_in (gT_7 (List.mem_of_getElem? (i := 21) rfl)) rfl
theorem mI_X11_pointsOf : Cond.instanceMethod yX11_pointsOf ∈ gWs := gWs_in (gT_7 (List.mem_of_getElem? (i := 23) rfl)) rfl
theorem mC_X11_pointsOf : Cond.code yX11_pointsOf cX11_pointsOf 7 (some .int) ∈ gWs := gWs_in (gT_7 (List.mem_of_getElem? (i := 24) rfl)) rfl
theorem mM_X11_379 : Cond.methodLink RX11 379 yX11_factsOf ∈ gWs := gWs_in (gT_7 (List.mem_of_getElem? (i := 25) rfl)) rfl
theorem mI_X11_factsOf : Cond.instanceMethod yX11_factsOf ∈ gWs := gWs_in (gT_7 (List.mem_of_getElem? (i := 27) rfl)) rfl
theorem mC_X11_factsOf : Cond.code yX11_factsOf cX11_factsOf 11 none ∈ gWs := gWs_in (gT_7 (List.mem_of_getElem? (i := 28) rfl)) rfl
theorem mM_X11_367 : Cond.methodLink RX11 367 yX11_holdOf ∈ gWs := gWs_in (gT_7 (List.mem_of_getElem? (i := 29) rfl)) rfl
theorem mI_X11_holdOf : Cond.instanceMethod yX11_holdOf ∈ gWs := gWs_in (gT_7 (List.mem_of_getElem? (i := 31) rfl)) rfl
theorem mC_X11_holdOf : Cond.code yX11_holdOf cX11_holdOf 5 (some .int) ∈ gWs := gWs_in (gT_7 (List.mem_of_getElem? (i := 32) rfl)) rfl
theorem mM_X11_383 : Cond.methodLink RX11 383 yX11_cut ∈ gWs := gWs_in (gT_7 (List.mem_of_getElem? (i := 33) rfl)) rfl
theorem mS_X11_cut : Cond.static yX11_cut ∈ gWs := gWs_in (gT_7 (List.mem_of_getElem? (i := 34) rfl)) rfl
theorem mC_X11_cut : Cond.code yX11_cut cX11_cut 2 (some .long) ∈ gWs := gWs_in (gT_7 (List.mem_of_getElem? (i := 35) rfl)) rfl
theorem mD_X11_370 : Cond.constantLong RX11 370 (-1000000000) ∈ gWs := gWs_in (gT_7 (List.mem_of_getElem? (i := 36) rfl)) rfl
theorem mD_X11_372 : Cond.constantLong RX11 372 (1000000000) ∈ gWs := gWs_in (gT_7 (List.mem_of_getElem? (i := 37) rfl)) rfl
theorem mM_X11_374 : Cond.methodLink RX11 374 yJ9_min_f86c9 ∈ gWs := gWs_in (gT_7 (List.mem_of_getElem? (i := 38) rfl)) rfl
theorem mM_X11_377 : Cond.methodLink RX11 377 yJ9_max_f86c9 ∈ gWs := gWs_in (gT_7 (List.mem_of_getElem? (i := 39) rfl)) rfl
theorem mM_L_98 : Cond.methodLink RL 98 yX11_key ∈ gWs := gWs_in (gT_7 (List.mem_of_getElem? (i := 40) rfl)) rfl
theorem mI_X11_key : Cond.instanceMethod yX11_key ∈ gWs := gWs_in (gT_7 (List.mem_of_getElem? (i := 41) rfl)) rfl
theorem mE_X11_key : Cond.selects RX11 yX11_key yX11_key ∈ gWs := gWs_in (gT_7 (List.mem_of_getElem? (i := 42) rfl)) rfl
theorem mC_X11_key : Cond.code yX11_key cX11_key 5 (some .long) ∈ gWs := gWs_in (gT_7 (List.mem_of_getElem? (i := 43) rfl)) rfl
theorem mM_X11_391 : Cond.methodLink RX11 391 yX11_isIn ∈ gWs := gWs_in (gT_7 (List.mem_of_getElem? (i := 44) rfl)) rfl
theorem mI_X11_isIn : Cond.instanceMethod yX11_isIn ∈ gWs := gWs_in (gT_7 (List.mem_of_getElem? (i := 46) rfl)) rfl
theorem mC_X11_isIn : Cond.code yX11_isIn cX11_isIn 3 (some .boolean) ∈ gWs := gWs_in (gT_7 (List.mem_of_getElem? (i := 47) rfl)) rfl
theorem mM_X11_393 : Cond.methodLink RX11 393 yX11_keyOf ∈ gWs := gWs_in (gT_7 (List.mem_of_getElem? (i := 48) rfl)) rfl
theorem mI_X11_keyOf : Cond.instanceMethod yX11_keyOf ∈ gWs := gWs_in (gT_7 (List.mem_of_getElem? (i := 50) rfl)) rfl
theorem mC_X11_keyOf : Cond.code yX11_keyOf cX11_keyOf 11 (some .long) ∈ gWs := gWs_in (gT_7 (List.mem_of_getElem? (i := 51) rfl)) rfl
theorem mM_L_102 : Cond.methodLink RL 102 yX11_rank ∈ gWs := gWs_in (gT_7 (List.mem_of_getElem? (i := 52) rfl)) rfl
theorem mI_X11_rank : Cond.instanceMethod yX11_rank ∈ gWs := gWs_in (gT_7 (List.mem_of_getElem? (i := 53) rfl)) rfl
theorem mE_X11_rank : Cond.selects RX11 yX11_rank yX11_rank ∈ gWs := gWs_in (gT_7 (List.mem_of_getElem? (i := 54) rfl)) rfl
theorem mC_X11_rank : Cond.code yX11_rank cX11_rank 4 (some .int) ∈ gWs := gWs_in (gT_7 (List.mem_of_getElem? (i := 55) rfl)) rfl
theorem mM_X11_401 : Cond.methodLink RX11 401 yX11_rankOf ∈ gWs := gWs_in (gT_7 (List.mem_of_getElem? (i := 56) rfl)) rfl
theorem mI_X11_rankOf : Cond.instanceMethod yX11_rankOf ∈ gWs := gWs_in (gT_7 (List.mem_of_getElem? (i := 58) rfl)) rfl
theorem mC_X11_rankOf : Cond.code yX11_rankOf cX11_rankOf 6 (some .int) ∈ gWs := gWs_in (gT_7 (List.mem_of_getElem? (i := 59) rfl)) rfl
theorem mM_X11_397 : Cond.methodLink RX11 397 yX11_isAhead ∈ gWs := gWs_in (gT_7 (List.mem_of_getElem? (i := 60) rfl)) rfl
theorem mI_X11_isAhead : Cond.instanceMethod yX11_isAhead ∈ gWs := gWs_in (gT_7 (List.mem_of_getElem? (i := 62) rfl)) rfl
theorem mC_X11_isAhead : Cond.code yX11_isAhead cX11_isAhead 11 (some .boolean) ∈ gWs := gWs_in (gT_7 (List.mem_of_getElem? (i := 63) rfl)) rfl
theorem mM_L_106 : Cond.methodLink RL 106 yX11_advance ∈ gWs := gWs_in (gT_7 (List.mem_of_getElem? (i := 64) rfl)) rfl
theorem mI_X11_advance : Cond.instanceMethod yX11_advance ∈ gWs := gWs_in (gT_7 (List.mem_of_getElem? (i := 65) rfl)) rfl
theorem mE_X11_advance : Cond.selects RX11 yX11_advance yX11_advance ∈ gWs := gWs_in (gT_7 (List.mem_of_getElem? (i := 66) rfl)) rfl
theorem mC_X11_advance : Cond.code yX11_advance cX11_advance 7 (some .int) ∈ gWs := gWs_in (gT_7 (List.mem_of_getElem? (i := 67) rfl)) rfl
theorem mM_L_110 : Cond.methodLink RL 110 yX11_order ∈ gWs := gWs_in (gT_7 (List.mem_of_getElem? (i := 68) rfl)) rfl
theorem mI_X11_order : Cond.instanceMethod yX11_order ∈ gWs := gWs_in (gT_7 (List.mem_of_getElem? (i := 69) rfl)) rfl
theorem mE_X11_order : Cond.selects RX11 yX11_order yX11_order ∈ gWs := gWs_in (gT_7 (List.mem_of_getElem? (i := 70) rfl)) rfl
theorem mC_X11_order : Cond.code yX11_order cX11_order 3 (some .int) ∈ gWs := gWs_in (gT_7 (List.mem_of_getElem? (i := 71) rfl)) rfl
theorem mM_L_114 : Cond.methodLink RL 114 yX11_parts ∈ gWs := gWs_in (gT_7 (List.mem_of_getElem? (i := 72) rfl)) rfl
theorem mI_X11_parts : Cond.instanceMethod yX11_parts ∈ gWs := gWs_in (gT_7 (List.mem_of_getElem? (i := 73) rfl)) rfl
theorem mE_X11_parts : Cond.selects RX11 yX11_parts yX11_parts ∈ gWs := gWs_in (gT_7 (List.mem_of_getElem? (i := 74) rfl)) rfl
theorem mC_X11_parts : Cond.code yX11_parts cX11_parts 4 (some .int) ∈ gWs := gWs_in (gT_7 (List.mem_of_getElem? (i := 75) rfl)) rfl
theorem mM_X11_405 : Cond.methodLink RX11 405 yX11_partsOf ∈ gWs := gWs_in (gT_7 (List.mem_of_getElem? (i := 76) rfl)) rfl
theorem mI_X11_partsOf : Cond.instanceMethod yX11_partsOf ∈ gWs := gWs_in (gT_7 (List.mem_of_getElem? (i := 78) rfl)) rfl
theorem mC_X11_partsOf : Cond.code yX11_partsOf cX11_partsOf 7 (some .int) ∈ gWs := gWs_in (gT_7 (List.mem_of_getElem? (i := 79) rfl)) rfl
theorem mM_L_118 : Cond.methodLink RL 118 yX11_choose ∈ gWs := gWs_in (gT_7 (List.mem_of_getElem? (i := 80) rfl)) rfl
theorem mI_X11_choose : Cond.instanceMethod yX11_choose ∈ gWs := gWs_in (gT_7 (List.mem_of_getElem? (i := 81) rfl)) rfl
theorem mE_X11_choose : Cond.selects RX11 yX11_choose yX11_choose ∈ gWs := gWs_in (gT_7 (List.mem_of_getElem? (i := 82) rfl)) rfl
theorem mC_X11_choose : Cond.code yX11_choose cX11_choose 8 (some .int) ∈ gWs := gWs_in (gT_7 (List.mem_of_getElem? (i := 83) rfl)) rfl
theorem mM_X11_408 : Cond.methodLink RX11 408 yJ6_bitCount_0f7a4 ∈ gWs := gWs_in (gT_7 (List.mem_of_getElem? (i := 84) rfl)) rfl
theorem mF_J0_9 : Cond.fieldLink RJ0 9 "java/lang/String" "value" "[B" ∈ gWs := gWs_in (gT_7 (List.mem_of_getElem? (i := 85) rfl)) rfl
theorem mF_J0_15 : Cond.fieldLink RJ0 15 "java/lang/String" "coder" "B" ∈ gWs := gWs_in (gT_7 (List.mem_of_getElem? (i := 86) rfl)) rfl
theorem mE_X10_putOnTape : Cond.selects RX10 yX10_putOnTape yX10_putOnTape ∈ gWs := gWs_in (gT_0 (List.mem_of_getElem? (i := 0) rfl)) rfl
theorem mE_X10_refuse : Cond.selects RX10 yX10_refuse yX10_refuse ∈ gWs := gWs_in (gT_0 (List.mem_of_getElem? (i := 1) rfl)) rfl
theorem mE_X6_putWord : Cond.selects RX6 yX6_putWord yX6_putWord ∈ gWs := gWs_in (gT_0 (List.mem_of_getElem? (i := 2) rfl)) rfl
theorem mE_X6_put : Cond.selects RX6 yX6_put yX6_put ∈ gWs := gWs_in (gT_0 (List.mem_of_getElem? (i := 3) rfl)) rfl
theorem mE_X6_putNumber : Cond.selects RX6 yX6_putNumber yX6_putNumber ∈ gWs := gWs_in (gT_0 (List.mem_of_getElem? (i := 4) rfl)) rfl
theorem mE_X3_readLaw : Cond.selects RX3 yX3_readLaw yX3_readLaw ∈ gWs := gWs_in (gT_0 (List.mem_of_getElem? (i := 5) rfl)) rfl
theorem mE_X3_readRound : Cond.selects RX3 yX3_readRound yX3_readRound ∈ gWs := gWs_in (gT_0 (List.mem_of_getElem? (i := 6) rfl)) rfl
theorem mE_X3_refuseIf : Cond.selects RX3 yX3_refuseIf yX3_refuseIf ∈ gWs := gWs_in (gT_0 (List.mem_of_getElem? (i := 7) rfl)) rfl
theorem mE_X3_note : Cond.selects RX3 yX3_note yX3_note ∈ gWs := gWs_in (gT_0 (List.mem_of_getElem? (i := 8) rfl)) rfl
theorem mE_X3_goOn : Cond.selects RX3 yX3_goOn yX3_goOn ∈ gWs := gWs_in (gT_0 (List.mem_of_getElem? (i := 9) rfl)) rfl
theorem mE_X3_pass : Cond.selects RX3 yX3_pass yX3_pass ∈ gWs := gWs_in (gT_0 (List.mem_of_getElem? (i := 10) rfl)) rfl
theorem mE_X3_refuseToken : Cond.selects RX3 yX3_refuseToken yX3_refuseToken ∈ gWs := gWs_in (gT_0 (List.mem_of_getElem? (i := 11) rfl)) rfl
theorem mE_X1_release : Cond.selects RX1 yX1_release yX1_release ∈ gWs := gWs_in (gT_0 (List.mem_of_getElem? (i := 12) rfl)) rfl
theorem mE_X1_readBehindFactor : Cond.selects RX1 yX1_readBehindFactor yX1_readBehindFactor ∈ gWs := gWs_in (gT_0 (List.mem_of_getElem? (i := 13) rfl)) rfl
theorem mE_X1_putSign : Cond.selects RX1 yX1_putSign yX1_putSign ∈ gWs := gWs_in (gT_0 (List.mem_of_getElem? (i := 14) rfl)) rfl
theorem mE_X1_countItem : Cond.selects RX1 yX1_countItem yX1_countItem ∈ gWs := gWs_in (gT_0 (List.mem_of_getElem? (i := 15) rfl)) rfl
theorem mE_X1_await : Cond.selects RX1 yX1_await yX1_await ∈ gWs := gWs_in (gT_0 (List.mem_of_getElem? (i := 16) rfl)) rfl
theorem mE_X1_closeParen : Cond.selects RX1 yX1_closeParen yX1_closeParen ∈ gWs := gWs_in (gT_0 (List.mem_of_getElem? (i := 17) rfl)) rfl
theorem mE_X1_refuseToken : Cond.selects RX1 yX1_refuseToken yX1_refuseToken ∈ gWs := gWs_in (gT_0 (List.mem_of_getElem? (i := 18) rfl)) rfl
theorem mE_X1_releaseNegations : Cond.selects RX1 yX1_releaseNegations yX1_releaseNegations ∈ gWs := gWs_in (gT_0 (List.mem_of_getElem? (i := 19) rfl)) rfl
theorem mE_X1_readFactor : Cond.selects RX1 yX1_readFactor yX1_readFactor ∈ gWs := gWs_in (gT_0 (List.mem_of_getElem? (i := 20) rfl)) rfl
theorem mE_X1_nest : Cond.selects RX1 yX1_nest yX1_nest ∈ gWs := gWs_in (gT_0 (List.mem_of_getElem? (i := 21) rfl)) rfl
theorem mE_X3_readKeys : Cond.selects RX3 yX3_readKeys yX3_readKeys ∈ gWs := gWs_in (gT_0 (List.mem_of_getElem? (i := 22) rfl)) rfl
theorem mE_X3_readKey : Cond.selects RX3 yX3_readKey yX3_readKey ∈ gWs := gWs_in (gT_0 (List.mem_of_getElem? (i := 23) rfl)) rfl
theorem mE_X3_readTies : Cond.selects RX3 yX3_readTies yX3_readTies ∈ gWs := gWs_in (gT_0 (List.mem_of_getElem? (i := 24) rfl)) rfl
theorem mE_X10_answer : Cond.selects RX10 yX10_answer yX10_answer ∈ gWs := gWs_in (gT_0 (List.mem_of_getElem? (i := 25) rfl)) rfl
theorem mE_X10_deny : Cond.selects RX10 yX10_deny yX10_deny ∈ gWs := gWs_in (gT_0 (List.mem_of_getElem? (i := 26) rfl)) rfl
theorem mE_X10_grant : Cond.selects RX10 yX10_grant yX10_grant ∈ gWs := gWs_in (gT_0 (List.mem_of_getElem? (i := 27) rfl)) rfl
theorem mE_X10_passTo : Cond.selects RX10 yX10_passTo yX10_passTo ∈ gWs := gWs_in (gT_0 (List.mem_of_getElem? (i := 28) rfl)) rfl
theorem mE_X10_whyNotBegin : Cond.selects RX10 yX10_whyNotBegin yX10_whyNotBegin ∈ gWs := gWs_in (gT_0 (List.mem_of_getElem? (i := 29) rfl)) rfl
theorem mE_X10_hasSeen : Cond.selects RX10 yX10_hasSeen yX10_hasSeen ∈ gWs := gWs_in (gT_0 (List.mem_of_getElem? (i := 30) rfl)) rfl
theorem mE_X9_wasOut : Cond.selects RX9 yX9_wasOut yX9_wasOut ∈ gWs := gWs_in (gT_0 (List.mem_of_getElem? (i := 31) rfl)) rfl
theorem mE_X9_latest : Cond.selects RX9 yX9_latest yX9_latest ∈ gWs := gWs_in (gT_0 (List.mem_of_getElem? (i := 32) rfl)) rfl
theorem mE_X10_restOver : Cond.selects RX10 yX10_restOver yX10_restOver ∈ gWs := gWs_in (gT_0 (List.mem_of_getElem? (i := 33) rfl)) rfl
theorem mE_X5_hearAppeals : Cond.selects RX5 yX5_hearAppeals yX5_hearAppeals ∈ gWs := gWs_in (gT_0 (List.mem_of_getElem? (i := 34) rfl)) rfl
theorem mE_X5_lowestAsked : Cond.selects RX5 yX5_lowestAsked yX5_lowestAsked ∈ gWs := gWs_in (gT_0 (List.mem_of_getElem? (i := 35) rfl)) rfl
theorem mE_X5_manyAhead : Cond.selects RX5 yX5_manyAhead yX5_manyAhead ∈ gWs := gWs_in (gT_0 (List.mem_of_getElem? (i := 36) rfl)) rfl
theorem mE_X5_isAhead : Cond.selects RX5 yX5_isAhead yX5_isAhead ∈ gWs := gWs_in (gT_0 (List.mem_of_getElem? (i := 37) rfl)) rfl
theorem mE_X5_manyStartAhead : Cond.selects RX5 yX5_manyStartAhead yX5_manyStartAhead ∈ gWs := gWs_in (gT_0 (List.mem_of_getElem? (i := 38) rfl)) rfl
theorem mE_X5_together : Cond.selects RX5 yX5_together yX5_together ∈ gWs := gWs_in (gT_0 (List.mem_of_getElem? (i := 39) rfl)) rfl
theorem mE_X11_lay : Cond.selects RX11 yX11_lay yX11_lay ∈ gWs := gWs_in (gT_0 (List.mem_of_getElem? (i := 40) rfl)) rfl
theorem mE_X11_refuse : Cond.selects RX11 yX11_refuse yX11_refuse ∈ gWs := gWs_in (gT_0 (List.mem_of_getElem? (i := 41) rfl)) rfl
theorem mE_X11_readText : Cond.selects RX11 yX11_readText yX11_readText ∈ gWs := gWs_in (gT_0 (List.mem_of_getElem? (i := 42) rfl)) rfl
theorem mE_X11_next : Cond.selects RX11 yX11_next yX11_next ∈ gWs := gWs_in (gT_0 (List.mem_of_getElem? (i := 43) rfl)) rfl
theorem mE_X11_look : Cond.selects RX11 yX11_look yX11_look ∈ gWs := gWs_in (gT_0 (List.mem_of_getElem? (i := 44) rfl)) rfl
theorem mE_X11_lawOf : Cond.selects RX11 yX11_lawOf yX11_lawOf ∈ gWs := gWs_in (gT_0 (List.mem_of_getElem? (i := 45) rfl)) rfl
theorem mE_X11_isWord : Cond.selects RX11 yX11_isWord yX11_isWord ∈ gWs := gWs_in (gT_0 (List.mem_of_getElem? (i := 46) rfl)) rfl
theorem mE_X11_wrong : Cond.selects RX11 yX11_wrong yX11_wrong ∈ gWs := gWs_in (gT_0 (List.mem_of_getElem? (i := 47) rfl)) rfl
theorem mE_X11_fail : Cond.selects RX11 yX11_fail yX11_fail ∈ gWs := gWs_in (gT_0 (List.mem_of_getElem? (i := 48) rfl)) rfl
theorem mE_X11_readLaw : Cond.selects RX11 yX11_readLaw yX11_readLaw ∈ gWs := gWs_in (gT_0 (List.mem_of_getElem? (i := 49) rfl)) rfl
theorem mE_X11_numberOf : Cond.selects RX11 yX11_numberOf yX11_numberOf ∈ gWs := gWs_in (gT_0 (List.mem_of_getElem? (i := 50) rfl)) rfl
theorem mE_X11_readExpression : Cond.selects RX11 yX11_readExpression yX11_readExpression ∈ gWs := gWs_in (gT_0 (List.mem_of_getElem? (i := 51) rfl)) rfl
theorem mE_X11_readFactor : Cond.selects RX11 yX11_readFactor yX11_readFactor ∈ gWs := gWs_in (gT_0 (List.mem_of_getElem? (i := 52) rfl)) rfl
theorem mE_X11_nameOf : Cond.selects RX11 yX11_nameOf yX11_nameOf ∈ gWs := gWs_in (gT_0 (List.mem_of_getElem? (i := 53) rfl)) rfl
theorem mE_X11_counts : Cond.selects RX11 yX11_counts yX11_counts ∈ gWs := gWs_in (gT_0 (List.mem_of_getElem? (i := 54) rfl)) rfl
theorem mE_X11_puts : Cond.selects RX11 yX11_puts yX11_puts ∈ gWs := gWs_in (gT_0 (List.mem_of_getElem? (i := 55) rfl)) rfl
theorem mE_X11_isSign : Cond.selects RX11 yX11_isSign yX11_isSign ∈ gWs := gWs_in (gT_0 (List.mem_of_getElem? (i := 56) rfl)) rfl
theorem mE_X11_deeper : Cond.selects RX11 yX11_deeper yX11_deeper ∈ gWs := gWs_in (gT_0 (List.mem_of_getElem? (i := 57) rfl)) rfl
theorem mE_X11_waitFor : Cond.selects RX11 yX11_waitFor yX11_waitFor ∈ gWs := gWs_in (gT_0 (List.mem_of_getElem? (i := 58) rfl)) rfl
theorem mE_X11_wholes : Cond.selects RX11 yX11_wholes yX11_wholes ∈ gWs := gWs_in (gT_0 (List.mem_of_getElem? (i := 59) rfl)) rfl
theorem mE_X11_reduce : Cond.selects RX11 yX11_reduce yX11_reduce ∈ gWs := gWs_in (gT_0 (List.mem_of_getElem? (i := 60) rfl)) rfl
theorem mE_X11_isOpen : Cond.selects RX11 yX11_isOpen yX11_isOpen ∈ gWs := gWs_in (gT_0 (List.mem_of_getElem? (i := 61) rfl)) rfl
theorem mE_X11_readKeys : Cond.selects RX11 yX11_readKeys yX11_readKeys ∈ gWs := gWs_in (gT_0 (List.mem_of_getElem? (i := 62) rfl)) rfl
theorem mE_X11_ends : Cond.selects RX11 yX11_ends yX11_ends ∈ gWs := gWs_in (gT_0 (List.mem_of_getElem? (i := 63) rfl)) rfl
theorem mE_X11_isRoute : Cond.selects RX11 yX11_isRoute yX11_isRoute ∈ gWs := gWs_in (gT_0 (List.mem_of_getElem? (i := 64) rfl)) rfl
theorem mE_X11_isRound : Cond.selects RX11 yX11_isRound yX11_isRound ∈ gWs := gWs_in (gT_0 (List.mem_of_getElem? (i := 65) rfl)) rfl
theorem mE_X11_no : Cond.selects RX11 yX11_no yX11_no ∈ gWs := gWs_in (gT_0 (List.mem_of_getElem? (i := 66) rfl)) rfl
theorem mE_X11_isClimber : Cond.selects RX11 yX11_isClimber yX11_isClimber ∈ gWs := gWs_in (gT_0 (List.mem_of_getElem? (i := 67) rfl)) rfl
theorem mE_X11_clocked : Cond.selects RX11 yX11_clocked yX11_clocked ∈ gWs := gWs_in (gT_0 (List.mem_of_getElem? (i := 68) rfl)) rfl
theorem mE_X11_goesTo : Cond.selects RX11 yX11_goesTo yX11_goesTo ∈ gWs := gWs_in (gT_0 (List.mem_of_getElem? (i := 69) rfl)) rfl
theorem mE_X11_openTry : Cond.selects RX11 yX11_openTry yX11_openTry ∈ gWs := gWs_in (gT_0 (List.mem_of_getElem? (i := 70) rfl)) rfl
theorem mE_X11_hasSeen : Cond.selects RX11 yX11_hasSeen yX11_hasSeen ∈ gWs := gWs_in (gT_0 (List.mem_of_getElem? (i := 71) rfl)) rfl
theorem mE_X11_readyAt : Cond.selects RX11 yX11_readyAt yX11_readyAt ∈ gWs := gWs_in (gT_0 (List.mem_of_getElem? (i := 72) rfl)) rfl
theorem mE_X11_pointsOf : Cond.selects RX11 yX11_pointsOf yX11_pointsOf ∈ gWs := gWs_in (gT_0 (List.mem_of_getElem? (i := 73) rfl)) rfl
theorem mE_X11_factsOf : Cond.selects RX11 yX11_factsOf yX11_factsOf ∈ gWs := gWs_in (gT_0 (List.mem_of_getElem? (i := 74) rfl)) rfl
theorem mE_X11_holdOf : Cond.selects RX11 yX11_holdOf yX11_holdOf ∈ gWs := gWs_in (gT_0 (List.mem_of_getElem? (i := 75) rfl)) rfl
theorem mE_X11_isIn : Cond.selects RX11 yX11_isIn yX11_isIn ∈ gWs := gWs_in (gT_0 (List.mem_of_getElem? (i := 76) rfl)) rfl
theorem mE_X11_keyOf : Cond.selects RX11 yX11_keyOf yX11_keyOf ∈ gWs := gWs_in (gT_0 (List.mem_of_getElem? (i := 77) rfl)) rfl
theorem mE_X11_rankOf : Cond.selects RX11 yX11_rankOf yX11_rankOf ∈ gWs := gWs_in (gT_0 (List.mem_of_getElem? (i := 78) rfl)) rfl
theorem mE_X11_isAhead : Cond.selects RX11 yX11_isAhead yX11_isAhead ∈ gWs := gWs_in (gT_0 (List.mem_of_getElem? (i := 79) rfl)) rfl
theorem mE_X11_partsOf : Cond.selects RX11 yX11_partsOf yX11_partsOf ∈ gWs := gWs_in (gT_0 (List.mem_of_getElem? (i := 80) rfl)) rfl
set_option maxRecDepth 100000 in
theorem gLx0 : ∀ w ∈ u_ws RX0 TX0 4, w ∈ gWs := fun w h => have q := goodIn_r (big := lw_tbl) (u_ws RX0 TX0 4) [352, 354, 356, 358] rfl rfl w h; gWs_in q.1 (by have h2 := List.all_eq_true.mp (show (u_ws RX0 TX0 4).all goodWord = true from rfl) w h; exact h2)
set_option maxRecDepth 100000 in
theorem gLx1 : ∀ w ∈ u_ws RX1 TX1 6, w ∈ gWs := fun w h => have q := goodIn_r (big := lw_tbl) (u_ws RX1 TX1 6) [202, 204, 206, 208, 210, 212] rfl rfl w h; gWs_in q.1 (by have h2 := List.all_eq_true.mp (show (u_ws RX1 TX1 6).all goodWord = true from rfl) w h; exact h2)
set_option maxRecDepth 100000 in
theorem gLx2 : ∀ w ∈ u_ws RX2 TX2 4, w ∈ gWs := fun w h => have q := goodIn_r (big := lw_tbl) (u_ws RX2 TX2 4) [272, 274, 276, 278] rfl rfl w h; gWs_in q.1 (by have h2 := List.all_eq_true.mp (show (u_ws RX2 TX2 4).all goodWord = true from rfl) w h; exact h2)
set_option maxRecDepth 100000 in
theorem gLx3 : ∀ w ∈ u_ws RX3 TX3 8, w ∈ gWs := fun w h => have q := goodIn_r (big := lw_tbl) (u_ws RX3 TX3 8) [226, 228, 230, 232, 234, 236, 238, 240] rfl rfl w h; gWs_in q.1 (by have h2 := List.all_eq_true.mp (show (u_ws RX3 TX3 8).all goodWord = true from rfl) w h; exact h2)
set_option maxRecDepth 100000 in
theorem gLx4 : ∀ w ∈ u_ws RX4 TX4 10, w ∈ gWs := fun w h => have q := goodIn_r (big := lw_tbl) (u_ws RX4 TX4 10) [137, 139, 141, 143, 145, 147, 149, 151, 153, 155] rfl rfl w h; gWs_in q.1 (by have h2 := List.all_eq_true.mp (show (u_ws RX4 TX4 10).all goodWord = true from rfl) w h; exact h2)
set_option maxRecDepth 100000 in
theorem gLx5 : ∀ w ∈ u_ws RX5 TX5 15, w ∈ gWs := fun w h => have q := goodIn_r (big := lw_tbl) (u_ws RX5 TX5 15) [401, 403, 405, 407, 409, 411, 413, 415, 417, 419, 421, 423, 425, 427, 429] rfl rfl w h; gWs_in q.1 (by have h2 := List.all_eq_true.mp (show (u_ws RX5 TX5 15).all goodWord = true from rfl) w h; exact h2)
set_option maxRecDepth 100000 in
theorem gLx6 : ∀ w ∈ u_ws RX6 TX6 5, w ∈ gWs := fun w h => have q := goodIn_r (big := lw_tbl) (u_ws RX6 TX6 5) [177, 179, 181, 183, 185] rfl rfl w h; gWs_in q.1 (by have h2 := List.all_eq_true.mp (show (u_ws RX6 TX6 5).all goodWord = true from rfl) w h; exact h2)
set_option maxRecDepth 100000 in
theorem gLx7 : ∀ w ∈ u_ws RX7 TX7 9, w ∈ gWs := fun w h => have q := goodIn_r (big := lw_tbl) (u_ws RX7 TX7 9) [318, 320, 322, 324, 326, 328, 330, 332, 334] rfl rfl w h; gWs_in q.1 (by have h2 := List.all_eq_true.mp (show (u_ws RX7 TX7 9).all goodWord = true from rfl) w h; exact h2)
set_option maxRecDepth 100000 in
theorem gLx8 : ∀ w ∈ u_ws RX8 TX8 3, w ∈ gWs := fun w h => have q := goodIn_r (big := lw_tbl) (u_ws RX8 TX8 3) [252, 254, 256] rfl rfl w h; gWs_in q.1 (by have h2 := List.all_eq_true.mp (show (u_ws RX8 TX8 3).all goodWord = true from rfl) w h; exact h2)
set_option maxRecDepth 100000 in
theorem gLx9 : ∀ w ∈ u_ws RX9 TX9 3, w ∈ gWs := fun w h => have q := goodIn_r (big := lw_tbl) (u_ws RX9 TX9 3) [371, 373, 375] rfl rfl w h; gWs_in q.1 (by have h2 := List.all_eq_true.mp (show (u_ws RX9 TX9 3).all goodWord = true from rfl) w h; exact h2)
set_option maxRecDepth 100000 in
theorem gLx10 : ∀ w ∈ u_ws RX10 TX10 14, w ∈ gWs := fun w h => have q := goodIn_r (big := lw_tbl) (u_ws RX10 TX10 14) [446, 448, 450, 452, 454, 456, 458, 460, 462, 464, 466, 468, 470, 472] rfl rfl w h; gWs_in q.1 (by have h2 := List.all_eq_true.mp (show (u_ws RX10 TX10 14).all goodWord = true from rfl) w h; exact h2)
set_option maxRecDepth 100000 in
theorem gLx11 : ∀ w ∈ u_ws RX11 TX11 70, w ∈ gWs := fun w h => have q := goodIn_r (big := lw_tbl) (u_ws RX11 TX11 70) [1170, 1172, 1174, 1176, 1178, 1180, 1182, 1184, 1186, 1188, 1190, 1192, 1194, 1196, 1198, 1200, 1202, 1204, 1206, 1208, 1210, 1212, 1214, 1216, 1218, 1220, 1222, 1224, 1226, 1228, 1230, 1232, 1234, 1236, 1238, 1240, 1242, 1244, 1246, 1248, 1250, 1252, 1254, 1256, 1258, 1260, 1262, 1264, 1266, 1268, 1270, 1272, 1274, 1276, 1278, 1280, 1282, 1284, 1286, 1288, 1290, 1292, 1294, 1296, 1298, 1300, 1302, 1304, 1306, 1308] rfl rfl w h; gWs_in q.1 (by have h2 := List.all_eq_true.mp (show (u_ws RX11 TX11 70).all goodWord = true from rfl) w h; exact h2)
end
section
/-! ===== my rows: ints by their values, worlds by functions ===== -/
def iI (a : Int) : Int32 := Int32.ofInt a
def iL (a : Int) : Int64 := Int64.ofInt a
abbrev inR (a : Int) : Prop := -2147483648 ≤ a ∧ a ≤ 2147483647
theorem iI_toInt {a : Int} (h : inR a) : (iI a).toInt = a := Int32.toInt_ofInt_of_le (by have := h.1; omega) (by have := h.2; omega)
theorem iI_of (x : Int32) : iI x.toInt = x := Int32.ofInt_toInt x
theorem iI_rng (x : Int32) : inR x.toInt := by
  have h1 := Int32.le_toInt x
  have h2 := Int32.toInt_lt x
  constructor <;> omega
theorem iI_add (a b : Int) : iI a + iI b = iI (a + b) := (Int32.ofInt_add a b).symm
theorem iI_sub (a b : Int) : iI a - iI b = iI (a - b) := (Int32.ofInt_sub a b).symm
theorem iI_mul (a b : Int) : iI a * iI b = iI (a * b) := (Int32.ofInt_mul a b).symm
theorem iI_neg (a : Int) : -iI a = iI (-a) := (Int32.ofInt_neg a).symm
theorem iI_lt {a b : Int} (ha : inR a) (hb : inR b) : iI a < iI b ↔ a < b := by rw [Int32.lt_iff_toInt_lt, iI_toInt ha, iI_toInt hb]
theorem iI_le {a b : Int} (ha : inR a) (hb : inR b) : iI a ≤ iI b ↔ a ≤ b := by rw [Int32.le_iff_toInt_le, iI_toInt ha, iI_toInt hb]
theorem iI_eq {a b : Int} (ha : inR a) (hb : inR b) : iI a = iI b ↔ a = b := by rw [← Int32.toInt_inj, iI_toInt ha, iI_toInt hb]
theorem iI_cl {a : Int} (h0 : 0 ≤ a) (h1 : a ≤ 2147483647) : ((iI a).toNatClampNeg : Int) = a := by
  show (((iI a).toInt.toNat : Nat) : Int) = a
  rw [iI_toInt ⟨by omega, h1⟩]
  omega
theorem iI_in {a : Int} {n : Nat} (h0 : 0 ≤ a) (h1 : a < (n : Int)) (hn : n ≤ 2147483647) : vp_in (iI a) n := by
  rw [vp_in_iff, iI_toInt ⟨by omega, by omega⟩]
  exact ⟨h0, h1⟩
theorem iI_zero : (0 : Int32) = iI 0 := rfl
/-- one place of a row changed -/
def u1 (a : Int → Int) (e x : Int) : Int → Int := fun k => if k = e then x else a k
theorem u1_s {a : Int → Int} {e x : Int} : u1 a e x e = x := if_pos rfl
theorem u1_n {a : Int → Int} {e x k : Int} (h : k ≠ e) : u1 a e x k = a k := if_neg h
abbrev gV : Type := Nat → Int
abbrev gF : Type := Nat → Int → Int
/-- a row of ints, of longs, as the heap has it -/
def rI (c : ClassId) (n : Nat) (a : Int → Int) : va_E := .inl (c, n, .inl (fun (k : Nat) => iI (a (k : Int))))
def rL (c : ClassId) (n : Nat) (a : Int → Int) : va_E := .inl (c, n, .inr (.inl (fun (k : Nat) => iL (a (k : Int)))))
theorem rI_upd {a : Int → Int} {e x : Int} (h0 : 0 ≤ e) (h1 : e ≤ 2147483647) : upd (fun (k : Nat) => iI (a (k : Int))) (iI e).toNatClampNeg (iI x) = fun (k : Nat) => iI (u1 a e x (k : Int)) := by
  funext k
  have hc := iI_cl h0 h1
  unfold upd u1
  by_cases hk : k = (iI e).toNatClampNeg
  · rw [if_pos hk, if_pos (by rw [hk]; exact hc)]
  · rw [if_neg hk, if_neg (by omega)]
theorem rL_upd {a : Int → Int} {e x : Int} (h0 : 0 ≤ e) (h1 : e ≤ 2147483647) : vp_updL (fun (k : Nat) => iL (a (k : Int))) (iI e).toNatClampNeg (iL x) = fun (k : Nat) => iL (u1 a e x (k : Int)) := by
  funext k
  have hc := iI_cl h0 h1
  unfold vp_updL u1
  by_cases hk : k = (iI e).toNatClampNeg
  · rw [if_pos hk, if_pos (by rw [hk]; exact hc)]
  · rw [if_neg hk, if_neg (by omega)]
/-- the arrays' classes: k 0 int[], k 1 long[], k 2 byte[], k 3 boolean[] -/
def gT (k : Nat → ClassId) : List (ClassId × FieldType) := [(k 0, .int), (k 1, .long), (k 2, .byte), (k 3, .boolean)]
def gC (D : va_G) (k : Nat → ClassId) (p : Program) (s : State) (m : MethodId) (args : Array Value) (c : Code) (cc : ByteArray) (own : String) : Prop :=
  p.tables.exec = Jvm.exec ∧ c.code = cc ∧ (∀ w ∈ gWs, w.before args s = true) ∧ s.vm.findClass own = some m.cls ∧ va_K D vwCl (gT k) s
abbrev gOk (v : gV) (f : gF) : Prop := (∀ j, inR (v j)) ∧ ∀ j k, inR (f j k)
/-- the world: its cells, and that its numbers are in range -/
def gWd (D : va_G) (Wd : gV → gF → gF → va_W) (v : gV) (f g : gF) (H : Heap) : Prop := va_P D vwCl (Wd v f g) H ∧ gOk v f
theorem gR_up {v : gV} {f : gF} (h : gOk v f) (i : Nat) {x : Int} (hx : inR x) : gOk (va_up v i x) f := ⟨fun j => by
  unfold va_up
  by_cases hj : j = i
  · rw [if_pos hj]; exact hx
  · rw [if_neg hj]; exact h.1 j, h.2⟩
theorem u1_rng {a : Int → Int} {e x : Int} (h : ∀ k, inR (a k)) (hx : inR x) : ∀ k, inR (u1 a e x k) := fun k => by
  unfold u1
  by_cases hk : k = e
  · rw [if_pos hk]; exact hx
  · rw [if_neg hk]; exact h k
theorem gF_up {v : gV} {f : gF} (h : gOk v f) (i : Nat) {a : Int → Int} (hx : ∀ k, inR (a k)) : gOk v (va_up f i a) := ⟨h.1, fun j k => by
  unfold va_up
  by_cases hj : j = i
  · rw [if_pos hj]; exact hx k
  · rw [if_neg hj]; exact h.2 j k⟩
section GI
variable {p : Program} {l : Launch} {e : Env} {R : Room} {s : State} {m : MethodId} {args : Array Value} {below : List Frame} {meth : Method} {c : Code} {H : Heap} {locs : List Loc} {cells slots : Nat} {Q : State → Prop}
variable {cc : ByteArray} {pc : Nat} {ls : Array Slot} {rest : List Value} {a b z : Int}
theorem gi_add (hx : p.tables.exec = Jvm.exec) (hb : c.code = cc) (hdg : decode cc pc = .ok (.iadd, 1)) (hz : a + b = z) (k : W p l e R s m args below meth c H locs cells slots Q (F0 m (pc + 1) ls (.int (iI z) :: rest))) : W p l e R s m args below meth c H locs cells slots Q (F0 m pc ls (.int (iI b) :: .int (iI a) :: rest)) := by
  refine lv_iadd hx hb hdg ?_
  rw [iI_add, hz]; exact k
theorem gi_sub (hx : p.tables.exec = Jvm.exec) (hb : c.code = cc) (hdg : decode cc pc = .ok (.isub, 1)) (hz : a - b = z) (k : W p l e R s m args below meth c H locs cells slots Q (F0 m (pc + 1) ls (.int (iI z) :: rest))) : W p l e R s m args below meth c H locs cells slots Q (F0 m pc ls (.int (iI b) :: .int (iI a) :: rest)) := by
  refine lv_isub hx hb hdg ?_
  rw [iI_sub, hz]; exact k
theorem gi_mul (hx : p.tables.exec = Jvm.exec) (hb : c.code = cc) (hdg : decode cc pc = .ok (.imul, 1)) (hz : a * b = z) (k : W p l e R s m args below meth c H locs cells slots Q (F0 m (pc + 1) ls (.int (iI z) :: rest))) : W p l e R s m args below meth c H locs cells slots Q (F0 m pc ls (.int (iI b) :: .int (iI a) :: rest)) := by
  refine lv_imul hx hb hdg ?_
  rw [iI_mul, hz]; exact k
theorem gi_neg (hx : p.tables.exec = Jvm.exec) (hb : c.code = cc) (hdg : decode cc pc = .ok (.ineg, 1)) (hz : -a = z) (k : W p l e R s m args below meth c H locs cells slots Q (F0 m (pc + 1) ls (.int (iI z) :: rest))) : W p l e R s m args below meth c H locs cells slots Q (F0 m pc ls (.int (iI a) :: rest)) := by
  refine lv_ineg hx hb hdg ?_
  rw [iI_neg, hz]; exact k
theorem gi_and (hx : p.tables.exec = Jvm.exec) (hb : c.code = cc) (hdg : decode cc pc = .ok (.iand, 1)) (hz : iI a &&& iI b = iI z) (k : W p l e R s m args below meth c H locs cells slots Q (F0 m (pc + 1) ls (.int (iI z) :: rest))) : W p l e R s m args below meth c H locs cells slots Q (F0 m pc ls (.int (iI b) :: .int (iI a) :: rest)) := by
  refine lv_iand hx hb hdg ?_
  rw [hz]; exact k
theorem gi_or (hx : p.tables.exec = Jvm.exec) (hb : c.code = cc) (hdg : decode cc pc = .ok (.ior, 1)) (hz : iI a ||| iI b = iI z) (k : W p l e R s m args below meth c H locs cells slots Q (F0 m (pc + 1) ls (.int (iI z) :: rest))) : W p l e R s m args below meth c H locs cells slots Q (F0 m pc ls (.int (iI b) :: .int (iI a) :: rest)) := by
  refine lv_ior hx hb hdg ?_
  rw [hz]; exact k
theorem gi_ushr (hx : p.tables.exec = Jvm.exec) (hb : c.code = cc) (hdg : decode cc pc = .ok (.iushr, 1)) (hz : ((iI a).toUInt32 >>> ((iI b).toUInt32 &&& Int32.toUInt32 31)).toInt32 = iI z) (k : W p l e R s m args below meth c H locs cells slots Q (F0 m (pc + 1) ls (.int (iI z) :: rest))) : W p l e R s m args below meth c H locs cells slots Q (F0 m pc ls (.int (iI b) :: .int (iI a) :: rest)) := lv_iushr hx hb hdg hz k
theorem gi_shr (hx : p.tables.exec = Jvm.exec) (hb : c.code = cc) (hdg : decode cc pc = .ok (.ishr, 1)) (hz : iI a >>> (iI b &&& 31) = iI z) (k : W p l e R s m args below meth c H locs cells slots Q (F0 m (pc + 1) ls (.int (iI z) :: rest))) : W p l e R s m args below meth c H locs cells slots Q (F0 m pc ls (.int (iI b) :: .int (iI a) :: rest)) := by
  refine lv_ishr hx hb hdg ?_
  rw [hz]; exact k
theorem gi_shl (hx : p.tables.exec = Jvm.exec) (hb : c.code = cc) (hdg : decode cc pc = .ok (.ishl, 1)) (hz : iI a <<< (iI b &&& 31) = iI z) (k : W p l e R s m args below meth c H locs cells slots Q (F0 m (pc + 1) ls (.int (iI z) :: rest))) : W p l e R s m args below meth c H locs cells slots Q (F0 m pc ls (.int (iI b) :: .int (iI a) :: rest)) := by
  refine lv_ishl hx hb hdg ?_
  rw [hz]; exact k
theorem gi_i2b (hx : p.tables.exec = Jvm.exec) (hb : c.code = cc) (hdg : decode cc pc = .ok (.i2b, 1)) (hz : (iI a).toInt8.toInt32 = iI z) (k : W p l e R s m args below meth c H locs cells slots Q (F0 m (pc + 1) ls (.int (iI z) :: rest))) : W p l e R s m args below meth c H locs cells slots Q (F0 m pc ls (.int (iI a) :: rest)) := lv_i2b hx hb hdg hz k
theorem gi_ceq (hx : p.tables.exec = Jvm.exec) (hb : c.code = cc) {off : Int} {tgt : Nat} (hdg : decode cc pc = .ok (.if_icmp .eq off, 3)) (ht : (pc : Int) + off = (tgt : Int)) (ha : inR a) (hbb : inR b) (kt : a = b → W p l e R s m args below meth c H locs cells slots Q (F0 m tgt ls rest)) (kf : a ≠ b → W p l e R s m args below meth c H locs cells slots Q (F0 m (pc + 3) ls rest)) : W p l e R s m args below meth c H locs cells slots Q (F0 m pc ls (.int (iI b) :: .int (iI a) :: rest)) := by
  refine lv_icmp_eq hx hb hdg ht (fun q => kt ?_) (fun q => kf ?_)
  all_goals (first | simp only [iI_eq ha hbb, iI_lt ha hbb, iI_lt hbb ha, iI_le ha hbb, iI_le hbb ha, ne_eq] at q | skip)
  all_goals omega
theorem gi_zeq (hx : p.tables.exec = Jvm.exec) (hb : c.code = cc) {off : Int} {tgt : Nat} (hdg : decode cc pc = .ok (.ifCond .eq off, 3)) (ht : (pc : Int) + off = (tgt : Int)) (ha : inR a) (kt : a = 0 → W p l e R s m args below meth c H locs cells slots Q (F0 m tgt ls rest)) (kf : a ≠ 0 → W p l e R s m args below meth c H locs cells slots Q (F0 m (pc + 3) ls rest)) : W p l e R s m args below meth c H locs cells slots Q (F0 m pc ls (.int (iI a) :: rest)) := by
  have hz : inR 0 := by decide
  refine lv_if_eq hx hb hdg ht (fun q => kt ?_) (fun q => kf ?_)
  all_goals rw [iI_zero] at q
  all_goals (first | simp only [iI_eq ha hz, iI_lt ha hz, iI_lt hz ha, iI_le ha hz, iI_le hz ha, ne_eq] at q | skip)
  all_goals omega
theorem gi_cne (hx : p.tables.exec = Jvm.exec) (hb : c.code = cc) {off : Int} {tgt : Nat} (hdg : decode cc pc = .ok (.if_icmp .ne off, 3)) (ht : (pc : Int) + off = (tgt : Int)) (ha : inR a) (hbb : inR b) (kt : a ≠ b → W p l e R s m args below meth c H locs cells slots Q (F0 m tgt ls rest)) (kf : a = b → W p l e R s m args below meth c H locs cells slots Q (F0 m (pc + 3) ls rest)) : W p l e R s m args below meth c H locs cells slots Q (F0 m pc ls (.int (iI b) :: .int (iI a) :: rest)) := by
  refine lv_icmp_ne hx hb hdg ht (fun q => kt ?_) (fun q => kf ?_)
  all_goals (first | simp only [iI_eq ha hbb, iI_lt ha hbb, iI_lt hbb ha, iI_le ha hbb, iI_le hbb ha, ne_eq] at q | skip)
  all_goals omega
theorem gi_zne (hx : p.tables.exec = Jvm.exec) (hb : c.code = cc) {off : Int} {tgt : Nat} (hdg : decode cc pc = .ok (.ifCond .ne off, 3)) (ht : (pc : Int) + off = (tgt : Int)) (ha : inR a) (kt : a ≠ 0 → W p l e R s m args below meth c H locs cells slots Q (F0 m tgt ls rest)) (kf : a = 0 → W p l e R s m args below meth c H locs cells slots Q (F0 m (pc + 3) ls rest)) : W p l e R s m args below meth c H locs cells slots Q (F0 m pc ls (.int (iI a) :: rest)) := by
  have hz : inR 0 := by decide
  refine lv_if_ne hx hb hdg ht (fun q => kt ?_) (fun q => kf ?_)
  all_goals rw [iI_zero] at q
  all_goals (first | simp only [iI_eq ha hz, iI_lt ha hz, iI_lt hz ha, iI_le ha hz, iI_le hz ha, ne_eq] at q | skip)
  all_goals omega
theorem gi_clt (hx : p.tables.exec = Jvm.exec) (hb : c.code = cc) {off : Int} {tgt : Nat} (hdg : decode cc pc = .ok (.if_icmp .lt off, 3)) (ht : (pc : Int) + off = (tgt : Int)) (ha : inR a) (hbb : inR b) (kt : a < b → W p l e R s m args below meth c H locs cells slots Q (F0 m tgt ls rest)) (kf : b ≤ a → W p l e R s m args below meth c H locs cells slots Q (F0 m (pc + 3) ls rest)) : W p l e R s m args below meth c H locs cells slots Q (F0 m pc ls (.int (iI b) :: .int (iI a) :: rest)) := by
  refine lv_icmp_lt hx hb hdg ht (fun q => kt ?_) (fun q => kf ?_)
  all_goals (first | simp only [iI_eq ha hbb, iI_lt ha hbb, iI_lt hbb ha, iI_le ha hbb, iI_le hbb ha, ne_eq] at q | skip)
  all_goals omega
theorem gi_zlt (hx : p.tables.exec = Jvm.exec) (hb : c.code = cc) {off : Int} {tgt : Nat} (hdg : decode cc pc = .ok (.ifCond .lt off, 3)) (ht : (pc : Int) + off = (tgt : Int)) (ha : inR a) (kt : a < 0 → W p l e R s m args below meth c H locs cells slots Q (F0 m tgt ls rest)) (kf : 0 ≤ a → W p l e R s m args below meth c H locs cells slots Q (F0 m (pc + 3) ls rest)) : W p l e R s m args below meth c H locs cells slots Q (F0 m pc ls (.int (iI a) :: rest)) := by
  have hz : inR 0 := by decide
  refine lv_if_lt hx hb hdg ht (fun q => kt ?_) (fun q => kf ?_)
  all_goals rw [iI_zero] at q
  all_goals (first | simp only [iI_eq ha hz, iI_lt ha hz, iI_lt hz ha, iI_le ha hz, iI_le hz ha, ne_eq] at q | skip)
  all_goals omega
theorem gi_cge (hx : p.tables.exec = Jvm.exec) (hb : c.code = cc) {off : Int} {tgt : Nat} (hdg : decode cc pc = .ok (.if_icmp .ge off, 3)) (ht : (pc : Int) + off = (tgt : Int)) (ha : inR a) (hbb : inR b) (kt : b ≤ a → W p l e R s m args below meth c H locs cells slots Q (F0 m tgt ls rest)) (kf : a < b → W p l e R s m args below meth c H locs cells slots Q (F0 m (pc + 3) ls rest)) : W p l e R s m args below meth c H locs cells slots Q (F0 m pc ls (.int (iI b) :: .int (iI a) :: rest)) := by
  refine lv_icmp_ge hx hb hdg ht (fun q => kt ?_) (fun q => kf ?_)
  all_goals (first | simp only [iI_eq ha hbb, iI_lt ha hbb, iI_lt hbb ha, iI_le ha hbb, iI_le hbb ha, ne_eq] at q | skip)
  all_goals omega
theorem gi_zge (hx : p.tables.exec = Jvm.exec) (hb : c.code = cc) {off : Int} {tgt : Nat} (hdg : decode cc pc = .ok (.ifCond .ge off, 3)) (ht : (pc : Int) + off = (tgt : Int)) (ha : inR a) (kt : 0 ≤ a → W p l e R s m args below meth c H locs cells slots Q (F0 m tgt ls rest)) (kf : a < 0 → W p l e R s m args below meth c H locs cells slots Q (F0 m (pc + 3) ls rest)) : W p l e R s m args below meth c H locs cells slots Q (F0 m pc ls (.int (iI a) :: rest)) := by
  have hz : inR 0 := by decide
  refine lv_if_ge hx hb hdg ht (fun q => kt ?_) (fun q => kf ?_)
  all_goals rw [iI_zero] at q
  all_goals (first | simp only [iI_eq ha hz, iI_lt ha hz, iI_lt hz ha, iI_le ha hz, iI_le hz ha, ne_eq] at q | skip)
  all_goals omega
theorem gi_cgt (hx : p.tables.exec = Jvm.exec) (hb : c.code = cc) {off : Int} {tgt : Nat} (hdg : decode cc pc = .ok (.if_icmp .gt off, 3)) (ht : (pc : Int) + off = (tgt : Int)) (ha : inR a) (hbb : inR b) (kt : b < a → W p l e R s m args below meth c H locs cells slots Q (F0 m tgt ls rest)) (kf : a ≤ b → W p l e R s m args below meth c H locs cells slots Q (F0 m (pc + 3) ls rest)) : W p l e R s m args below meth c H locs cells slots Q (F0 m pc ls (.int (iI b) :: .int (iI a) :: rest)) := by
  refine lv_icmp_gt hx hb hdg ht (fun q => kt ?_) (fun q => kf ?_)
  all_goals (first | simp only [iI_eq ha hbb, iI_lt ha hbb, iI_lt hbb ha, iI_le ha hbb, iI_le hbb ha, ne_eq] at q | skip)
  all_goals omega
theorem gi_zgt (hx : p.tables.exec = Jvm.exec) (hb : c.code = cc) {off : Int} {tgt : Nat} (hdg : decode cc pc = .ok (.ifCond .gt off, 3)) (ht : (pc : Int) + off = (tgt : Int)) (ha : inR a) (kt : 0 < a → W p l e R s m args below meth c H locs cells slots Q (F0 m tgt ls rest)) (kf : a ≤ 0 → W p l e R s m args below meth c H locs cells slots Q (F0 m (pc + 3) ls rest)) : W p l e R s m args below meth c H locs cells slots Q (F0 m pc ls (.int (iI a) :: rest)) := by
  have hz : inR 0 := by decide
  refine lv_if_gt hx hb hdg ht (fun q => kt ?_) (fun q => kf ?_)
  all_goals rw [iI_zero] at q
  all_goals (first | simp only [iI_eq ha hz, iI_lt ha hz, iI_lt hz ha, iI_le ha hz, iI_le hz ha, ne_eq] at q | skip)
  all_goals omega
theorem gi_cle (hx : p.tables.exec = Jvm.exec) (hb : c.code = cc) {off : Int} {tgt : Nat} (hdg : decode cc pc = .ok (.if_icmp .le off, 3)) (ht : (pc : Int) + off = (tgt : Int)) (ha : inR a) (hbb : inR b) (kt : a ≤ b → W p l e R s m args below meth c H locs cells slots Q (F0 m tgt ls rest)) (kf : b < a → W p l e R s m args below meth c H locs cells slots Q (F0 m (pc + 3) ls rest)) : W p l e R s m args below meth c H locs cells slots Q (F0 m pc ls (.int (iI b) :: .int (iI a) :: rest)) := by
  refine lv_icmp_le hx hb hdg ht (fun q => kt ?_) (fun q => kf ?_)
  all_goals (first | simp only [iI_eq ha hbb, iI_lt ha hbb, iI_lt hbb ha, iI_le ha hbb, iI_le hbb ha, ne_eq] at q | skip)
  all_goals omega
theorem gi_zle (hx : p.tables.exec = Jvm.exec) (hb : c.code = cc) {off : Int} {tgt : Nat} (hdg : decode cc pc = .ok (.ifCond .le off, 3)) (ht : (pc : Int) + off = (tgt : Int)) (ha : inR a) (kt : a ≤ 0 → W p l e R s m args below meth c H locs cells slots Q (F0 m tgt ls rest)) (kf : 0 < a → W p l e R s m args below meth c H locs cells slots Q (F0 m (pc + 3) ls rest)) : W p l e R s m args below meth c H locs cells slots Q (F0 m pc ls (.int (iI a) :: rest)) := by
  have hz : inR 0 := by decide
  refine lv_if_le hx hb hdg ht (fun q => kt ?_) (fun q => kf ?_)
  all_goals rw [iI_zero] at q
  all_goals (first | simp only [iI_eq ha hz, iI_lt ha hz, iI_lt hz ha, iI_le ha hz, iI_le hz ha, ne_eq] at q | skip)
  all_goals omega
end GI
end
section
section GA
variable {p : Program} {l : Launch} {e : Env} {R : Room} {s : State} {m : MethodId} {args : Array Value} {below : List Frame} {meth : Method} {c : Code} {H H0 : Heap} {locs : List Loc} {cells slots : Nat} {Q : State → Prop}
variable {cc : ByteArray} {pc : Nat} {ls : Array Slot} {rest : List Value} {own : String} {D : va_G} {k : Nat → ClassId} {A : Nat → Prop} {ws ws' : va_W} {a n : Nat} {r : Int → Int} {i x : Int}
theorem g_iald (C : gC D k p s m args c cc own) (hP : va_P D vwCl ws H) (q0 : Nat) (ha : ws[q0]? = some (a, rI (k 0) n r)) (hn : n ≤ 2147483647) (h0 : 0 ≤ i) (h1 : i < (n : Int)) (hdg : decode cc pc = .ok (.iaload, 1)) (kk : W p l e R s m args below meth c H locs cells slots Q (F0 m (pc + 1) ls (.int (iI (r i)) :: rest))) : W p l e R s m args below meth c H locs cells slots Q (F0 m pc ls (.int (iI i) :: .ref a :: rest)) := by
  refine va_iald (D := D) C.1 C.2.1 C.2.2.2.2 hP q0 0 ha rfl (iI_in h0 h1 hn) hdg ?_
  rw [show ((iI i).toNatClampNeg : Int) = i from iI_cl h0 (by omega)]
  exact kk
theorem g_zald (C : gC D k p s m args c cc own) (hP : va_P D vwCl ws H) (q0 : Nat) (ha : ws[q0]? = some (a, rI (k 3) n r)) (hn : n ≤ 2147483647) (h0 : 0 ≤ i) (h1 : i < (n : Int)) (hdg : decode cc pc = .ok (.baload, 1)) (kk : W p l e R s m args below meth c H locs cells slots Q (F0 m (pc + 1) ls (.int (iI (r i)) :: rest))) : W p l e R s m args below meth c H locs cells slots Q (F0 m pc ls (.int (iI i) :: .ref a :: rest)) := by
  refine va_zald (D := D) C.1 C.2.1 C.2.2.2.2 hP q0 3 ha rfl (iI_in h0 h1 hn) hdg ?_
  rw [show ((iI i).toNatClampNeg : Int) = i from iI_cl h0 (by omega)]
  exact kk
theorem g_bald (C : gC D k p s m args c cc own) (hP : va_P D vwCl ws H) (q0 : Nat) (ha : ws[q0]? = some (a, rI (k 2) n r)) (hn : n ≤ 2147483647) (h0 : 0 ≤ i) (h1 : i < (n : Int)) (hdg : decode cc pc = .ok (.baload, 1)) (kk : W p l e R s m args below meth c H locs cells slots Q (F0 m (pc + 1) ls (.int (iI (r i)) :: rest))) : W p l e R s m args below meth c H locs cells slots Q (F0 m pc ls (.int (iI i) :: .ref a :: rest)) := by
  refine va_bald (D := D) C.1 C.2.1 C.2.2.2.2 hP q0 2 ha rfl (iI_in h0 h1 hn) hdg ?_
  rw [show ((iI i).toNatClampNeg : Int) = i from iI_cl h0 (by omega)]
  exact kk
theorem g_lald (C : gC D k p s m args c cc own) (hP : va_P D vwCl ws H) (q0 : Nat) (ha : ws[q0]? = some (a, rL (k 1) n r)) (hn : n ≤ 2147483647) (h0 : 0 ≤ i) (h1 : i < (n : Int)) (hdg : decode cc pc = .ok (.laload, 1)) (kk : W p l e R s m args below meth c H locs cells slots Q (F0 m (pc + 1) ls (.long (iL (r i)) :: rest))) : W p l e R s m args below meth c H locs cells slots Q (F0 m pc ls (.int (iI i) :: .ref a :: rest)) := by
  refine va_lald (D := D) C.1 C.2.1 C.2.2.2.2 hP q0 1 ha rfl (iI_in h0 h1 hn) hdg ?_
  rw [show ((iI i).toNatClampNeg : Int) = i from iI_cl h0 (by omega)]
  exact kk
theorem g_iast (C : gC D k p s m args c cc own) (hP : va_P D vwCl ws H) (hD : va_D A ws) (hS : va_S A H0 H locs) (q0 : Nat) (ha : ws[q0]? = some (a, rI (k 0) n r)) (hn : n ≤ 2147483647) (h0 : 0 ≤ i) (h1 : i < (n : Int)) (hw : ws.set q0 (a, rI (k 0) n (u1 r i x)) = ws') (hdg : decode cc pc = .ok (.iastore, 1)) (kk : ∀ (H1 : Heap) (locs1 : List Loc), va_P D vwCl ws' H1 → va_S A H0 H1 locs1 → W p l e R s m args below meth c H1 locs1 cells slots Q (F0 m (pc + 1) ls rest)) : W p l e R s m args below meth c H locs cells slots Q (F0 m pc ls (.int (iI x) :: .int (iI i) :: .ref a :: rest)) := by
  refine va_iast (D := D) C.1 C.2.1 C.2.2.2.2 hP hD hS q0 0 ha rfl (iI_in h0 h1 hn) hdg (fun H1 locs1 hP1 _ hS1 => kk H1 locs1 ?_ hS1)
  rw [rI_upd h0 (by omega)] at hP1
  rw [← hw]
  exact hP1
theorem g_last (C : gC D k p s m args c cc own) (hP : va_P D vwCl ws H) (hD : va_D A ws) (hS : va_S A H0 H locs) (q0 : Nat) (ha : ws[q0]? = some (a, rL (k 1) n r)) (hn : n ≤ 2147483647) (h0 : 0 ≤ i) (h1 : i < (n : Int)) (hw : ws.set q0 (a, rL (k 1) n (u1 r i x)) = ws') (hdg : decode cc pc = .ok (.lastore, 1)) (kk : ∀ (H1 : Heap) (locs1 : List Loc), va_P D vwCl ws' H1 → va_S A H0 H1 locs1 → W p l e R s m args below meth c H1 locs1 cells slots Q (F0 m (pc + 1) ls rest)) : W p l e R s m args below meth c H locs cells slots Q (F0 m pc ls (.long (iL x) :: .int (iI i) :: .ref a :: rest)) := by
  refine va_last (D := D) C.1 C.2.1 C.2.2.2.2 hP hD hS q0 1 ha rfl (iI_in h0 h1 hn) hdg (fun H1 locs1 hP1 _ hS1 => kk H1 locs1 ?_ hS1)
  rw [rL_upd h0 (by omega)] at hP1
  rw [← hw]
  exact hP1
theorem g_bast (C : gC D k p s m args c cc own) (hP : va_P D vwCl ws H) (hD : va_D A ws) (hS : va_S A H0 H locs) (q0 : Nat) (ha : ws[q0]? = some (a, rI (k 2) n r)) (hn : n ≤ 2147483647) (h0 : 0 ≤ i) (h1 : i < (n : Int)) (hx : (iI x).toInt8.toInt32 = iI x) (hw : ws.set q0 (a, rI (k 2) n (u1 r i x)) = ws') (hdg : decode cc pc = .ok (.bastore, 1)) (kk : ∀ (H1 : Heap) (locs1 : List Loc), va_P D vwCl ws' H1 → va_S A H0 H1 locs1 → W p l e R s m args below meth c H1 locs1 cells slots Q (F0 m (pc + 1) ls rest)) : W p l e R s m args below meth c H locs cells slots Q (F0 m pc ls (.int (iI x) :: .int (iI i) :: .ref a :: rest)) := by
  refine va_bast (D := D) C.1 C.2.1 C.2.2.2.2 hP hD hS q0 2 ha rfl (iI_in h0 h1 hn) hdg (fun H1 locs1 hP1 _ hS1 => kk H1 locs1 ?_ hS1)
  rw [vp_nar_byte, hx, rI_upd h0 (by omega)] at hP1
  rw [← hw]
  exact hP1
theorem vp_nar_bool {y : Int} (h : y = 0 ∨ y = 1) : vp_nar .boolean (iI y) = iI y := by
  rcases h with rfl | rfl <;> rfl
theorem g_zast (C : gC D k p s m args c cc own) (hP : va_P D vwCl ws H) (hD : va_D A ws) (hS : va_S A H0 H locs) (q0 : Nat) (ha : ws[q0]? = some (a, rI (k 3) n r)) (hn : n ≤ 2147483647) (h0 : 0 ≤ i) (h1 : i < (n : Int)) (hx : x = 0 ∨ x = 1) (hw : ws.set q0 (a, rI (k 3) n (u1 r i x)) = ws') (hdg : decode cc pc = .ok (.bastore, 1)) (kk : ∀ (H1 : Heap) (locs1 : List Loc), va_P D vwCl ws' H1 → va_S A H0 H1 locs1 → W p l e R s m args below meth c H1 locs1 cells slots Q (F0 m (pc + 1) ls rest)) : W p l e R s m args below meth c H locs cells slots Q (F0 m pc ls (.int (iI x) :: .int (iI i) :: .ref a :: rest)) := by
  refine va_zast (D := D) C.1 C.2.1 C.2.2.2.2 hP hD hS q0 3 ha rfl (iI_in h0 h1 hn) hdg (fun H1 locs1 hP1 _ hS1 => kk H1 locs1 ?_ hS1)
  rw [vp_nar_bool hx, rI_upd h0 (by omega)] at hP1
  rw [← hw]
  exact hP1
theorem g_newa (C : gC D k p s m args c cc own) {atype : ArrayType} {ty : FieldType} (hty : newarray.typeOf atype = ty) (hm : Cond.arrayClass ty ∈ gWs) (t0 : Nat) {cA : ClassId} (ht : (gT k)[t0]? = some (cA, ty)) (hra : ∀ c1, va_RA s c1 ty → s.vm.findClass ("[" ++ ty.toString) = some c1) (hP : va_P D vwCl ws H) (hD : va_D A ws) (hS : va_S A H0 H locs) (hA : ∀ q, H0.size ≤ q → A q)
    {n1 : Int32} {N' : Nat} {a0 : vp_A} (ha : ∀ c1 : ClassId, vp_cell c1 a0 = arrV c1 N' (fun _ => defaultValue ty)) (hn : ¬ n1 < 0) (hN : n1.toNatClampNeg = N') (hbytes : N' * componentBytes ty ≤ 536870912) (hcells : cells + 1 ≤ R.cells) (hslots : slots + N' ≤ R.slots) (hdg : decode cc pc = .ok (.newarray atype, 2))
    (kk : ∀ (q : Nat) (H1 : Heap), va_P D vwCl (ws ++ [(q, .inl (cA, a0))]) H1 → va_D A (ws ++ [(q, .inl (cA, a0))]) → va_S A H0 H1 locs →
      W p l e R s m args below meth c H1 locs (cells + 1) (slots + N') Q (F0 m (pc + 2) ls (.ref q :: rest))) : W p l e R s m args below meth c H locs cells slots Q (F0 m pc ls (.int n1 :: rest)) := by
  subst hty
  refine va_newa (D := D) C.1 C.2.1 (C.2.2.1 _ hm) rfl C.2.2.2.2 hP hD hS hA ha hn hN hbytes hcells hslots hdg (fun q c1 H1 hK hP1 hD1 hS1 => ?_)
  have e1 : c1 = cA := by
    have h1 := hra c1 (hK.2 ((gT k).length) (c1, newarray.typeOf atype) (by simp)).2
    have h2 := hra cA (C.2.2.2.2.2 t0 (cA, newarray.typeOf atype) ht).2
    exact Option.some.inj (h1.symm.trans h2)
  subst e1
  exact kk q H1 hP1 hD1 hS1
end GA
/-! contracts over a world of fixed addresses -/
def gPre (D : va_G) (k : Nat → ClassId) (Wd : gV → gF → gF → va_W) (v : gV) (f g : gF) (av : List Value) : Array Value → State → Prop := va_Pc av (fun U => gWd D Wd v f g U.heap ∧ va_K D vwCl (gT k) U)
def gPost (D : va_G) (A : Nat → Prop) (Wd : gV → gF → gF → va_W) (post : Option Value → gV → gF → gF → Prop) : Array Value → State → Outcome → State → Prop := fun _ st oc t => (∃ r v f g, oc = .returned r ∧ post r v f g ∧ gWd D Wd v f g t.heap) ∧ va_F A st t
abbrev gRm (fr lo : Nat) : Room := { frames := fr, cells := 0, slots := 0, locals := lo }
def GM (l : Launch) (D : va_G) (k : Nat → ClassId) (A : Nat → Prop) (Wd : gV → gF → gF → va_W) (y : MethodName) (cc : ByteArray) (maxL : Nat) (ret : Option FieldType) (fr lo : Nat) (av : List Value) (v : gV) (f g : gF) (post : Option Value → gV → gF → gF → Prop) : Prop :=
  Met l y (Cond.code y cc maxL ret :: gWs) (gRm fr lo) (gPre D k Wd v f g av) (gPost D A Wd post) 0 0 A
theorem gPre_blind {D : va_G} {k : Nat → ClassId} {Wd : gV → gF → gF → va_W} {v : gV} {f g : gF} {av : List Value} : FrameBlind (gPre D k Wd v f g av) := fun a U gg mk q => by
  obtain ⟨q0, q1, q2⟩ := q
  exact ⟨q0, q1, va_K.moved (u := U) (U := U.calling gg mk a) (Vm.Alike.refl U.vm) q2⟩
section GMs
variable {l : Launch} {D : va_G} {k : Nat → ClassId} {A : Nat → Prop} {Wd : gV → gF → gF → va_W} {y : MethodName} {cc : ByteArray} {maxL : Nat} {ret : Option FieldType} {fr lo : Nat} {av : List Value} {v : gV} {f g : gF} {post : Option Value → gV → gF → gF → Prop}
theorem GM.of (hy : plainName y.cls = true) (hn : (lg_sl av).length ≤ maxL)
    (body : ∀ (p : Program) (e : Env) (s : State) (m : MethodId) (args : Array Value) (below : List Frame) (meth : Method) (c : Code) (Q : State → Prop) (ls : Array Slot), Q = MQ below (gPost D A Wd post) args s 0 0 A → gC D k p s m args c cc y.cls → c.maxLocals = maxL → meth.sig.returnType = ret → meth.locks = false → gWd D Wd v f g s.heap → lv_has ls maxL (lv_args 0 av) →
      W p l e (gRm fr lo) s m args below meth c s.heap [] 0 0 Q (F0 m 0 ls [])) : GM l D k A Wd y cc maxL ret fr lo av v f g post := by
  refine Met.ofW (cc := cc) (maxL := maxL) (ret := ret) hy rfl ?_
  intro p e s m args below meth c s₁ B hml hv
  obtain ⟨rfl, hP, hK⟩ := hv
  have hts := atoms_spec (ws := Cond.code y cc maxL ret :: gWs) B.pre
  have hl := lv_entry av hn
  rw [lg_entry_eq]
  exact body p e s m _ below meth c _ _ rfl ⟨B.exec, B.bytes, fun w h => hts w (List.mem_cons_of_mem _ h), findClass_of_methodNamed B.named, hK⟩ hml B.returns B.notSynchronized hP hl
variable {p : Program} {e : Env} {R : Room} {s : State} {m : MethodId} {args : Array Value} {below : List Frame} {meth : Method} {c : Code} {H H0 : Heap} {locs : List Loc} {cells slots : Nat} {Q : State → Prop}
variable {pc nL n idx : Nat} {ls : Array Slot} {rest st0 As : List Value} {own C1 : String} {A0 : Nat → Prop} {c1 : ByteArray} {b : Nat}
theorem g_call {a : Array Value} (hr : va_Run p l e R s m args below meth c H locs cells slots 0 0 (F0 m pc ls st0) rest (gPost D A Wd post a) A) (hS : va_S A0 H0 H locs) (hA : ∀ q, A q → A0 q)
    (kk : ∀ (r : Option Value) (v : gV) (f g : gF) (H1 : Heap) (locs1 : List Loc), post r v f g → gWd D Wd v f g H1 → (∀ q : Nat, q < H.size → ¬ A q → H1[q]? = H[q]?) → va_S A0 H0 H1 locs1 → W p l e R s m args below meth c H1 locs1 cells slots Q (F0 m (pc + 3) ls (r.toList ++ rest))) : W p l e R s m args below meth c H locs cells slots Q (F0 m pc ls st0) := by
  intro T hT X
  obtain ⟨vv, st₀, t, T', L, h0, X', hL, e1, e2, ⟨⟨r, v, f, g, hv, hp, hb⟩, hz, hk⟩, st⟩ := hr T hT X
  cases hv
  rw [h0] at hz hk
  obtain ⟨t2, a1, b1⟩ := kk _ v f g T'.heap (locs ++ L) hp (by rw [e1]; exact hb) (fun q h1 h2 => by rw [e1]; exact hk q h1 h2)
    ⟨Nat.le_trans hS.1 (by rw [e1]; exact hz), fun q h1 h2 => by rw [e1, hk q (Nat.lt_of_lt_of_le h1 hS.1) (fun z => h2 (hA q z))]; exact hS.2.1 q h1 h2, fun q hq => by
      rcases List.mem_append.mp hq with h | h
      · exact hS.2.2 q h
      · exact hA _ (hL q h)⟩ T' rfl X'
  exact ⟨t2, st t2 a1, b1⟩
theorem gWs_GoodIn (h : Cond.code y cc maxL ret ∈ gWs) : GoodIn gWs (Cond.code y cc maxL ret :: gWs) := fun w hw => by
  rcases List.mem_cons.mp hw with rfl | hw
  · exact ⟨h, gWs_good h⟩
  · exact ⟨hw, gWs_good hw⟩
/-- an instance method of the world's, called -/
theorem g_cv (C : gC D k p s m args c c1 own) (hml : c.maxLocals = nL) (hM : GM l D k A Wd y cc maxL ret fr lo (.ref b :: As) v f g post) (m1 : Cond.methodLink own idx y ∈ gWs) (m2 : Cond.instanceMethod y ∈ gWs) (m3 : Cond.selects C1 y y ∈ gWs) (m4 : Cond.initialized C1 ∈ gWs) (m5 : Cond.code y cc maxL ret ∈ gWs)
    (hd : y.cls = C1 ∧ y.cls ≠ "java/lang/invoke/MethodHandle" ∧ y.cls ≠ "java/lang/invoke/VarHandle" ∧ (parseMethodDescriptor y.desc).map (fun d => d.parameters.length) = some n) (q0 : Nat) {ci : Nat} {T : u_T} {N : Nat} {fs : List Value} (hc : vwCl[ci]? = some (C1, T, N)) (he : (Wd v f g)[q0]? = some (b, .inr (ci, fs)))
    (hP : gWd D Wd v f g H) (hS : va_S A0 H0 H locs) (hA : ∀ q, A q → A0 q) (hR : fr + 1 ≤ R.frames ∧ 8 + (maxL + 11) + lo ≤ R.locals) (hcs : cells ≤ R.cells ∧ slots ≤ R.slots) (hsz : ls.size = nL) (hn : As.length = n) (hst : st0 = As.reverse ++ .ref b :: rest) (hW : (rest.map fun v => v.category).sum ≤ 8) (hdg : decode c1 pc = .ok (.invokevirtual idx, 3))
    (kk : ∀ (r : Option Value) (v : gV) (f g : gF) (H1 : Heap) (locs1 : List Loc), post r v f g → gWd D Wd v f g H1 → (∀ q : Nat, q < H.size → ¬ A q → H1[q]? = H[q]?) → va_S A0 H0 H1 locs1 → W p l e R s m args below meth c H1 locs1 cells slots Q (F0 m (pc + 3) ls (r.toList ++ rest))) : W p l e R s m args below meth c H locs cells slots Q (F0 m pc ls st0) := by
  refine g_call (va_runV (As := As) (rest := rest) (n := n) ⟨C.1, C.2.1, hml, C.2.2.2.1, C.2.2.1⟩ hM (cwV n C.2.2.1 ?_ rfl rfl rfl hd hR) ⟨gPre_blind, va_recv C.2.2.2.2 hP.1 hc he, fun U hU hW => ⟨rfl, by rw [hU]; exact hP, va_K.moved hW.alike C.2.2.2.2⟩⟩ rfl hn hsz hst (lv_room hW) hdg hcs) hS hA kk
  intro w hw
  unfold wsV at hw
  rcases List.mem_append.mp hw with h | h
  · have hg : w ∈ gWs := by
      simp only [List.mem_cons, List.not_mem_nil, or_false] at h
      rcases h with rfl | rfl | rfl | rfl <;> assumption
    exact ⟨hg, gWs_good hg⟩
  · exact gWs_GoodIn m5 w h
/-- a static method of one's own class, called -/
theorem g_cs (C : gC D k p s m args c c1 own) (hml : c.maxLocals = nL) (hM : GM l D k A Wd y cc maxL ret fr lo As v f g post) (m1 : Cond.methodLink own idx y ∈ gWs) (m2 : Cond.static y ∈ gWs) (m4 : Cond.initialized y.cls ∈ gWs) (m5 : Cond.code y cc maxL ret ∈ gWs)
    (hd : y.cls ≠ "java/lang/invoke/MethodHandle" ∧ y.cls ≠ "java/lang/invoke/VarHandle" ∧ (parseMethodDescriptor y.desc).map (fun d => d.parameters.length) = some n)
    (hP : gWd D Wd v f g H) (hS : va_S A0 H0 H locs) (hA : ∀ q, A q → A0 q) (hR : fr + 1 ≤ R.frames ∧ 8 + (maxL + 11) + lo ≤ R.locals) (hcs : cells ≤ R.cells ∧ slots ≤ R.slots) (hsz : ls.size = nL) (hn : As.length = n) (hst : st0 = As.reverse ++ rest) (hW : (rest.map fun v => v.category).sum ≤ 8) (hdg : decode c1 pc = .ok (.invokestatic idx, 3))
    (kk : ∀ (r : Option Value) (v : gV) (f g : gF) (H1 : Heap) (locs1 : List Loc), post r v f g → gWd D Wd v f g H1 → (∀ q : Nat, q < H.size → ¬ A q → H1[q]? = H[q]?) → va_S A0 H0 H1 locs1 → W p l e R s m args below meth c H1 locs1 cells slots Q (F0 m (pc + 3) ls (r.toList ++ rest))) : W p l e R s m args below meth c H locs cells slots Q (F0 m pc ls st0) := by
  refine g_call (va_runS (As := As) (rest := rest) (n := n) ⟨C.1, C.2.1, hml, C.2.2.2.1, C.2.2.1⟩ hM ⟨callB_of n C.2.2.1 (gWs_GoodIn m5) rfl rfl rfl (C.2.2.1 _ m4) (C.2.2.1 _ m1) hd hR, C.2.2.1 _ m2⟩ ⟨gPre_blind, fun U hU hW => ⟨rfl, by rw [hU]; exact hP, va_K.moved hW.alike C.2.2.2.2⟩⟩ rfl hn hsz hst (lv_room hW) hdg hcs) hS hA kk
/-- the ends -/
theorem g_iret (hQ : Q = MQ below (gPost D A Wd post) args s 0 0 A) (C : gC D k p s m args c cc own) {v1 : gV} {f1 g1 : gF} {z : Int} (hr : meth.sig.returnType = some .int) (hlocks : meth.locks = false) (hP : gWd D Wd v1 f1 g1 H) (hS : va_S A s.heap H locs) (hdg : decode cc pc = .ok (.ireturn, 1)) (hq : post (some (.int (iI z))) v1 f1 g1) : W p l e R s m args below meth c H locs 0 0 Q (F0 m pc ls [.int (iI z)]) := by
  subst hQ
  exact W.iret C.1 C.2.1 hr (fun t ht _ => ⟨⟨_, v1, f1, g1, rfl, hq, by rw [ht]; exact hP⟩, hS.F ht⟩) hS.2.2 hdg hlocks
theorem g_zret (hQ : Q = MQ below (gPost D A Wd post) args s 0 0 A) (C : gC D k p s m args c cc own) {v1 : gV} {f1 g1 : gF} {z : Int} (hr : meth.sig.returnType = some .boolean) (hlocks : meth.locks = false) (hz : z = 0 ∨ z = 1) (hP : gWd D Wd v1 f1 g1 H) (hS : va_S A s.heap H locs) (hdg : decode cc pc = .ok (.ireturn, 1)) (hq : post (some (.int (iI z))) v1 f1 g1) : W p l e R s m args below meth c H locs 0 0 Q (F0 m pc ls [.int (iI z)]) := by
  subst hQ
  exact W.zret C.1 C.2.1 hr (by rcases hz with rfl | rfl <;> rfl) (fun t ht _ => ⟨⟨_, v1, f1, g1, rfl, hq, by rw [ht]; exact hP⟩, hS.F ht⟩) hS.2.2 hdg hlocks
theorem g_vret (hQ : Q = MQ below (gPost D A Wd post) args s 0 0 A) (C : gC D k p s m args c cc own) {v1 : gV} {f1 g1 : gF} (hr : meth.sig.returnType = none) (hlocks : meth.locks = false) (hP : gWd D Wd v1 f1 g1 H) (hS : va_S A s.heap H locs) (hdg : decode cc pc = .ok (.return_, 1)) (hq : post none v1 f1 g1) : W p l e R s m args below meth c H locs 0 0 Q (F0 m pc ls []) := by
  subst hQ
  exact W.vret C.1 C.2.1 hr (fun t ht _ => ⟨⟨_, v1, f1, g1, rfl, hq, by rw [ht]; exact hP⟩, hS.F ht⟩) hS.2.2 hdg hlocks
theorem g_lret (hQ : Q = MQ below (gPost D A Wd post) args s 0 0 A) (C : gC D k p s m args c cc own) {v1 : gV} {f1 g1 : gF} {z : Int} (hr : meth.sig.returnType = some .long) (hlocks : meth.locks = false) (hP : gWd D Wd v1 f1 g1 H) (hS : va_S A s.heap H locs) (hdg : decode cc pc = .ok (.lreturn, 1)) (hq : post (some (.long (iL z))) v1 f1 g1) : W p l e R s m args below meth c H locs 0 0 Q (F0 m pc ls [.long (iL z)]) := by
  subst hQ
  exact W.lret C.1 C.2.1 hr (fun t ht _ => ⟨⟨_, v1, f1, g1, rfl, hq, by rw [ht]; exact hP⟩, hS.F ht⟩) hS.2.2 hdg hlocks
theorem gi_i2l (hx : p.tables.exec = Jvm.exec) (hb : c.code = cc) {a : Int} (ha : inR a) (hdg : decode cc pc = .ok (.i2l, 1)) (kk : W p l e R s m args below meth c H locs cells slots Q (F0 m (pc + 1) ls (.long (iL a) :: rest))) : W p l e R s m args below meth c H locs cells slots Q (F0 m pc ls (.int (iI a) :: rest)) := by
  refine lv_i2l hx hb hdg ?_ kk
  exact Int32.toInt64_ofInt (Int.le_trans (by decide) ha.1) (Int.le_trans ha.2 (by decide))
end GMs
theorem gif {P : Prop} [Decidable P] {z : Int} (h : z = if P then 1 else 0) : (z = 1 ∧ P) ∨ (z = 0 ∧ ¬ P) := by
  by_cases hp : P
  · exact Or.inl ⟨by rw [h, if_pos hp], hp⟩
  · exact Or.inr ⟨by rw [h, if_neg hp], hp⟩
theorem gB8 {a z : Int} (h : (iI a).toInt8.toInt32 = iI z) : (iI z).toInt8.toInt32 = iI z := by
  rw [← h]
  simp
end
section
def rwW (k : Nat → ClassId) (ad : Nat → Nat) (v : gV) (f g : gF) : va_W := [(ad 0, .inr (10, [.ref (ad 1), .int (iI (v 0)), .ref (ad 2), .ref (ad 9), .ref (ad 23), .ref (ad 27), .ref (ad 30), .ref (ad 39), .ref (ad 43), .ref (ad 47), .int (iI (v 25)), .int (iI (v 26)), .int (iI (v 27)), .int (iI (v 28))])), (ad 1, rI (k 0) 700 (f 0)), (ad 2, .inr (4, [.int (iI (v 1)), .ref (ad 3), .ref (ad 4), .ref (ad 5), .int (iI (v 2)), .ref (ad 6), .ref (ad 7), .int (iI (v 3)), .int (iI (v 4)), .ref (ad 8)])), (ad 3, rI (k 0) 16 (f 1)), (ad 4, rI (k 0) 40 (f 2)), (ad 5, rI (k 0) 40 (f 3)), (ad 6, rI (k 0) 4 (f 4)), (ad 7, rI (k 0) 4 (f 5)), (ad 8, rL (k 1) 40 (g 0)), (ad 9, .inr (3, [.ref (ad 10), .ref (ad 14), .ref (ad 21), .int (iI (v 16)), .int (iI (v 17)), .int (iI (v 18)), .int (iI (v 19)), .int (iI (v 20))])), (ad 10, .inr (6, [.ref (ad 11), .ref (ad 12), .ref (ad 13), .int (iI (v 5)), .int (iI (v 6))])), (ad 11, rI (k 0) 701 (f 6)), (ad 12, rI (k 0) 701 (f 7)), (ad 13, rI (k 0) 701 (f 8)), (ad 14, .inr (4, [.int (iI (v 7)), .ref (ad 15), .ref (ad 16), .ref (ad 17), .int (iI (v 8)), .ref (ad 18), .ref (ad 19), .int (iI (v 9)), .int (iI (v 10)), .ref (ad 20)])), (ad 15, rI (k 0) 16 (f 9)), (ad 16, rI (k 0) 40 (f 10)), (ad 17, rI (k 0) 40 (f 11)), (ad 18, rI (k 0) 4 (f 12)), (ad 19, rI (k 0) 4 (f 13)), (ad 20, rL (k 1) 40 (g 1)), (ad 21, .inr (1, [.ref (ad 22), .int (iI (v 11)), .int (iI (v 12)), .int (iI (v 13)), .int (iI (v 14)), .int (iI (v 15))])), (ad 22, rI (k 0) 27 (f 14)), (ad 23, .inr (8, [.ref (ad 24), .ref (ad 25), .ref (ad 26)])), (ad 24, rI (k 0) 20 (f 15)), (ad 25, rI (k 0) 20 (f 16)), (ad 26, rI (k 0) 60 (f 17)), (ad 27, .inr (2, [.int (iI (v 21)), .int (iI (v 22)), .ref (ad 28), .ref (ad 29)])), (ad 28, rI (k 0) 16 (f 18)), (ad 29, rI (k 0) 4 (f 19)), (ad 30, .inr (7, [.int (iI (v 23)), .ref (ad 31), .ref (ad 32), .ref (ad 33), .ref (ad 34), .ref (ad 35), .ref (ad 36), .ref (ad 37), .ref (ad 38)])), (ad 31, rI (k 0) 300 (f 20)), (ad 32, rI (k 0) 300 (f 21)), (ad 33, rI (k 0) 300 (f 22)), (ad 34, rI (k 0) 300 (f 23)), (ad 35, rI (k 0) 300 (f 24)), (ad 36, rI (k 0) 300 (f 25)), (ad 37, rI (k 0) 300 (f 26)), (ad 38, rI (k 0) 16 (f 27)), (ad 39, .inr (0, [.int (iI (v 24)), .ref (ad 40), .ref (ad 41), .ref (ad 42)])), (ad 40, rI (k 0) 40 (f 28)), (ad 41, rI (k 0) 40 (f 29)), (ad 42, rI (k 0) 40 (f 30)), (ad 43, .inr (9, [.ref (ad 44), .ref (ad 45), .ref (ad 46)])), (ad 44, rI (k 0) 16 (f 31)), (ad 45, rI (k 0) 320 (f 32)), (ad 46, rI (k 0) 320 (f 33)), (ad 47, .inr (5, [.ref (ad 2), .ref (ad 23), .ref (ad 27), .ref (ad 30), .ref (ad 39), .ref (ad 48), .ref (ad 49), .ref (ad 50), .ref (ad 51), .ref (ad 52), .ref (ad 53), .ref (ad 54), .ref (ad 55), .ref (ad 56), .ref (ad 57)])), (ad 48, rI (k 0) 300 (f 34)), (ad 49, rI (k 0) 300 (f 35)), (ad 50, rI (k 0) 320 (f 36)), (ad 51, rI (k 0) 320 (f 37)), (ad 52, rI (k 0) 320 (f 38)), (ad 53, rI (k 0) 6 (f 39)), (ad 54, rI (k 0) 80 (f 40)), (ad 55, rL (k 1) 4 (g 2)), (ad 56, rL (k 1) 256 (g 3)), (ad 57, rI (k 0) 16 (f 41))]
def rwD (A : Nat → Prop) (k : Nat → ClassId) (ad : Nat → Nat) : Prop := ∀ (v : gV) (f g : gF), va_D A (rwW k ad v f g)
section Grw
variable {p : Program} {l : Launch} {e : Env} {R : Room} {s : State} {m : MethodId} {args : Array Value} {below : List Frame} {meth : Method} {c : Code} {H H0 : Heap} {locs : List Loc} {cells slots : Nat} {Q : State → Prop}
variable {cc : ByteArray} {pc idx : Nat} {ls : Array Slot} {rest : List Value} {own : String} {D : va_G} {k : Nat → ClassId} {A : Nat → Prop} {ad : Nat → Nat} {v : gV} {f g : gF}
theorem rwG_tape (C : gC D k p s m args c cc own) (hP : gWd D (rwW k ad) v f g H) (hm : Cond.fieldLink own idx "RouteWall" "tape" "[I" ∈ gWs) (hdg : decode cc pc = .ok (.getfield idx, 3)) (kk : W p l e R s m args below meth c H locs cells slots Q (F0 m (pc + 3) ls (.ref (ad 1) :: rest))) : W p l e R s m args below meth c H locs cells slots Q (F0 m pc ls (.ref (ad 0) :: rest)) := va_get (D := D) (ci := 10) (C := RX10) (T := TX10) (N := 14) C.1 C.2.1 C.2.2.1 gLx10 C.2.2.2.1 C.2.2.2.2 hP.1 0 rfl rfl 0 (by decide) (C.2.2.1 _ hm) (fun _ h9 => h9) rfl hdg kk
theorem rwG_taped (C : gC D k p s m args c cc own) (hP : gWd D (rwW k ad) v f g H) (hm : Cond.fieldLink own idx "RouteWall" "taped" "I" ∈ gWs) (hdg : decode cc pc = .ok (.getfield idx, 3)) (kk : W p l e R s m args below meth c H locs cells slots Q (F0 m (pc + 3) ls (.int (iI (v 0)) :: rest))) : W p l e R s m args below meth c H locs cells slots Q (F0 m pc ls (.ref (ad 0) :: rest)) := va_get (D := D) (ci := 10) (C := RX10) (T := TX10) (N := 14) C.1 C.2.1 C.2.2.1 gLx10 C.2.2.2.1 C.2.2.2.2 hP.1 0 rfl rfl 1 (by decide) (C.2.2.1 _ hm) (fun _ h9 => h9) rfl hdg kk
theorem rwP_taped (C : gC D k p s m args c cc own) (hP : gWd D (rwW k ad) v f g H) (hD : rwD A k ad) (hS : va_S A H0 H locs) (hm : Cond.fieldLink own idx "RouteWall" "taped" "I" ∈ gWs) {x : Int} {v1 : gV} (hx : inR x) (hv : (rwW k ad) (va_up v 0 x) f g = (rwW k ad) v1 f g) (hv2 : va_up v 0 x = v1 ∨ gOk v1 f) (hdg : decode cc pc = .ok (.putfield idx, 3)) (kk : ∀ (H1 : Heap) (locs1 : List Loc), gWd D (rwW k ad) v1 f g H1 → va_S A H0 H1 locs1 → W p l e R s m args below meth c H1 locs1 cells slots Q (F0 m (pc + 3) ls rest)) : W p l e R s m args below meth c H locs cells slots Q (F0 m pc ls (.int (iI x) :: .ref (ad 0) :: rest)) := va_put (D := D) (ci := 10) (ty := .int) (C := RX10) (T := TX10) (N := 14) C.1 C.2.1 C.2.2.1 gLx10 tyX10 tyX10_ok nmX10 C.2.2.2.1 C.2.2.2.2 hP.1 (hD v f g) hS 0 rfl rfl 1 (by decide) (C.2.2.1 _ hm) (fun _ h9 => h9) rfl (by decide +kernel) rfl rfl (Nat.le_of_ble_eq_true rfl) hdg (fun H1 locs1 h1 _ h3 => kk H1 locs1 ⟨hv ▸ (show va_P D vwCl ((rwW k ad) (va_up v 0 x) f g) H1 from h1), hv2.elim (fun q => q ▸ gR_up hP.2 0 hx) id⟩ h3)
theorem rwG_laws (C : gC D k p s m args c cc own) (hP : gWd D (rwW k ad) v f g H) (hm : Cond.fieldLink own idx "RouteWall" "laws" "LRouteWall$Laws;" ∈ gWs) (hdg : decode cc pc = .ok (.getfield idx, 3)) (kk : W p l e R s m args below meth c H locs cells slots Q (F0 m (pc + 3) ls (.ref (ad 2) :: rest))) : W p l e R s m args below meth c H locs cells slots Q (F0 m pc ls (.ref (ad 0) :: rest)) := va_get (D := D) (ci := 10) (C := RX10) (T := TX10) (N := 14) C.1 C.2.1 C.2.2.1 gLx10 C.2.2.2.1 C.2.2.2.2 hP.1 0 rfl rfl 2 (by decide) (C.2.2.1 _ hm) (fun _ h9 => h9) rfl hdg kk
theorem rwG_reader (C : gC D k p s m args c cc own) (hP : gWd D (rwW k ad) v f g H) (hm : Cond.fieldLink own idx "RouteWall" "reader" "LRouteWall$LawReader;" ∈ gWs) (hdg : decode cc pc = .ok (.getfield idx, 3)) (kk : W p l e R s m args below meth c H locs cells slots Q (F0 m (pc + 3) ls (.ref (ad 9) :: rest))) : W p l e R s m args below meth c H locs cells slots Q (F0 m pc ls (.ref (ad 0) :: rest)) := va_get (D := D) (ci := 10) (C := RX10) (T := TX10) (N := 14) C.1 C.2.1 C.2.2.1 gLx10 C.2.2.2.1 C.2.2.2.2 hP.1 0 rfl rfl 3 (by decide) (C.2.2.1 _ hm) (fun _ h9 => h9) rfl hdg kk
theorem rwG_wall (C : gC D k p s m args c cc own) (hP : gWd D (rwW k ad) v f g H) (hm : Cond.fieldLink own idx "RouteWall" "wall" "LRouteWall$Wall;" ∈ gWs) (hdg : decode cc pc = .ok (.getfield idx, 3)) (kk : W p l e R s m args below meth c H locs cells slots Q (F0 m (pc + 3) ls (.ref (ad 23) :: rest))) : W p l e R s m args below meth c H locs cells slots Q (F0 m pc ls (.ref (ad 0) :: rest)) := va_get (D := D) (ci := 10) (C := RX10) (T := TX10) (N := 14) C.1 C.2.1 C.2.2.1 gLx10 C.2.2.2.1 C.2.2.2.2 hP.1 0 rfl rfl 4 (by decide) (C.2.2.1 _ hm) (fun _ h9 => h9) rfl hdg kk
theorem rwG_field (C : gC D k p s m args c cc own) (hP : gWd D (rwW k ad) v f g H) (hm : Cond.fieldLink own idx "RouteWall" "field" "LRouteWall$Field;" ∈ gWs) (hdg : decode cc pc = .ok (.getfield idx, 3)) (kk : W p l e R s m args below meth c H locs cells slots Q (F0 m (pc + 3) ls (.ref (ad 27) :: rest))) : W p l e R s m args below meth c H locs cells slots Q (F0 m pc ls (.ref (ad 0) :: rest)) := va_get (D := D) (ci := 10) (C := RX10) (T := TX10) (N := 14) C.1 C.2.1 C.2.2.1 gLx10 C.2.2.2.1 C.2.2.2.2 hP.1 0 rfl rfl 5 (by decide) (C.2.2.1 _ hm) (fun _ h9 => h9) rfl hdg kk
theorem rwG_tries (C : gC D k p s m args c cc own) (hP : gWd D (rwW k ad) v f g H) (hm : Cond.fieldLink own idx "RouteWall" "tries" "LRouteWall$Tries;" ∈ gWs) (hdg : decode cc pc = .ok (.getfield idx, 3)) (kk : W p l e R s m args below meth c H locs cells slots Q (F0 m (pc + 3) ls (.ref (ad 30) :: rest))) : W p l e R s m args below meth c H locs cells slots Q (F0 m pc ls (.ref (ad 0) :: rest)) := va_get (D := D) (ci := 10) (C := RX10) (T := TX10) (N := 14) C.1 C.2.1 C.2.2.1 gLx10 C.2.2.2.1 C.2.2.2.2 hP.1 0 rfl rfl 6 (by decide) (C.2.2.1 _ hm) (fun _ h9 => h9) rfl hdg kk
theorem rwG_appeals (C : gC D k p s m args c cc own) (hP : gWd D (rwW k ad) v f g H) (hm : Cond.fieldLink own idx "RouteWall" "appeals" "LRouteWall$Appeals;" ∈ gWs) (hdg : decode cc pc = .ok (.getfield idx, 3)) (kk : W p l e R s m args below meth c H locs cells slots Q (F0 m (pc + 3) ls (.ref (ad 39) :: rest))) : W p l e R s m args below meth c H locs cells slots Q (F0 m pc ls (.ref (ad 0) :: rest)) := va_get (D := D) (ci := 10) (C := RX10) (T := TX10) (N := 14) C.1 C.2.1 C.2.2.1 gLx10 C.2.2.2.1 C.2.2.2.2 hP.1 0 rfl rfl 7 (by decide) (C.2.2.1 _ hm) (fun _ h9 => h9) rfl hdg kk
theorem rwG_watch (C : gC D k p s m args c cc own) (hP : gWd D (rwW k ad) v f g H) (hm : Cond.fieldLink own idx "RouteWall" "watch" "LRouteWall$Watch;" ∈ gWs) (hdg : decode cc pc = .ok (.getfield idx, 3)) (kk : W p l e R s m args below meth c H locs cells slots Q (F0 m (pc + 3) ls (.ref (ad 43) :: rest))) : W p l e R s m args below meth c H locs cells slots Q (F0 m pc ls (.ref (ad 0) :: rest)) := va_get (D := D) (ci := 10) (C := RX10) (T := TX10) (N := 14) C.1 C.2.1 C.2.2.1 gLx10 C.2.2.2.1 C.2.2.2.2 hP.1 0 rfl rfl 8 (by decide) (C.2.2.1 _ hm) (fun _ h9 => h9) rfl hdg kk
theorem rwG_results (C : gC D k p s m args c cc own) (hP : gWd D (rwW k ad) v f g H) (hm : Cond.fieldLink own idx "RouteWall" "results" "LRouteWall$Results;" ∈ gWs) (hdg : decode cc pc = .ok (.getfield idx, 3)) (kk : W p l e R s m args below meth c H locs cells slots Q (F0 m (pc + 3) ls (.ref (ad 47) :: rest))) : W p l e R s m args below meth c H locs cells slots Q (F0 m pc ls (.ref (ad 0) :: rest)) := va_get (D := D) (ci := 10) (C := RX10) (T := TX10) (N := 14) C.1 C.2.1 C.2.2.1 gLx10 C.2.2.2.1 C.2.2.2.2 hP.1 0 rfl rfl 9 (by decide) (C.2.2.1 _ hm) (fun _ h9 => h9) rfl hdg kk
theorem rwG_state (C : gC D k p s m args c cc own) (hP : gWd D (rwW k ad) v f g H) (hm : Cond.fieldLink own idx "RouteWall" "state" "I" ∈ gWs) (hdg : decode cc pc = .ok (.getfield idx, 3)) (kk : W p l e R s m args below meth c H locs cells slots Q (F0 m (pc + 3) ls (.int (iI (v 25)) :: rest))) : W p l e R s m args below meth c H locs cells slots Q (F0 m pc ls (.ref (ad 0) :: rest)) := va_get (D := D) (ci := 10) (C := RX10) (T := TX10) (N := 14) C.1 C.2.1 C.2.2.1 gLx10 C.2.2.2.1 C.2.2.2.2 hP.1 0 rfl rfl 10 (by decide) (C.2.2.1 _ hm) (fun _ h9 => h9) rfl hdg kk
theorem rwP_state (C : gC D k p s m args c cc own) (hP : gWd D (rwW k ad) v f g H) (hD : rwD A k ad) (hS : va_S A H0 H locs) (hm : Cond.fieldLink own idx "RouteWall" "state" "I" ∈ gWs) {x : Int} {v1 : gV} (hx : inR x) (hv : (rwW k ad) (va_up v 25 x) f g = (rwW k ad) v1 f g) (hv2 : va_up v 25 x = v1 ∨ gOk v1 f) (hdg : decode cc pc = .ok (.putfield idx, 3)) (kk : ∀ (H1 : Heap) (locs1 : List Loc), gWd D (rwW k ad) v1 f g H1 → va_S A H0 H1 locs1 → W p l e R s m args below meth c H1 locs1 cells slots Q (F0 m (pc + 3) ls rest)) : W p l e R s m args below meth c H locs cells slots Q (F0 m pc ls (.int (iI x) :: .ref (ad 0) :: rest)) := va_put (D := D) (ci := 10) (ty := .int) (C := RX10) (T := TX10) (N := 14) C.1 C.2.1 C.2.2.1 gLx10 tyX10 tyX10_ok nmX10 C.2.2.2.1 C.2.2.2.2 hP.1 (hD v f g) hS 0 rfl rfl 10 (by decide) (C.2.2.1 _ hm) (fun _ h9 => h9) rfl (by decide +kernel) rfl rfl (Nat.le_of_ble_eq_true rfl) hdg (fun H1 locs1 h1 _ h3 => kk H1 locs1 ⟨hv ▸ (show va_P D vwCl ((rwW k ad) (va_up v 25 x) f g) H1 from h1), hv2.elim (fun q => q ▸ gR_up hP.2 25 hx) id⟩ h3)
theorem rwG_time (C : gC D k p s m args c cc own) (hP : gWd D (rwW k ad) v f g H) (hm : Cond.fieldLink own idx "RouteWall" "time" "I" ∈ gWs) (hdg : decode cc pc = .ok (.getfield idx, 3)) (kk : W p l e R s m args below meth c H locs cells slots Q (F0 m (pc + 3) ls (.int (iI (v 26)) :: rest))) : W p l e R s m args below meth c H locs cells slots Q (F0 m pc ls (.ref (ad 0) :: rest)) := va_get (D := D) (ci := 10) (C := RX10) (T := TX10) (N := 14) C.1 C.2.1 C.2.2.1 gLx10 C.2.2.2.1 C.2.2.2.2 hP.1 0 rfl rfl 11 (by decide) (C.2.2.1 _ hm) (fun _ h9 => h9) rfl hdg kk
theorem rwP_time (C : gC D k p s m args c cc own) (hP : gWd D (rwW k ad) v f g H) (hD : rwD A k ad) (hS : va_S A H0 H locs) (hm : Cond.fieldLink own idx "RouteWall" "time" "I" ∈ gWs) {x : Int} {v1 : gV} (hx : inR x) (hv : (rwW k ad) (va_up v 26 x) f g = (rwW k ad) v1 f g) (hv2 : va_up v 26 x = v1 ∨ gOk v1 f) (hdg : decode cc pc = .ok (.putfield idx, 3)) (kk : ∀ (H1 : Heap) (locs1 : List Loc), gWd D (rwW k ad) v1 f g H1 → va_S A H0 H1 locs1 → W p l e R s m args below meth c H1 locs1 cells slots Q (F0 m (pc + 3) ls rest)) : W p l e R s m args below meth c H locs cells slots Q (F0 m pc ls (.int (iI x) :: .ref (ad 0) :: rest)) := va_put (D := D) (ci := 10) (ty := .int) (C := RX10) (T := TX10) (N := 14) C.1 C.2.1 C.2.2.1 gLx10 tyX10 tyX10_ok nmX10 C.2.2.2.1 C.2.2.2.2 hP.1 (hD v f g) hS 0 rfl rfl 11 (by decide) (C.2.2.1 _ hm) (fun _ h9 => h9) rfl (by decide +kernel) rfl rfl (Nat.le_of_ble_eq_true rfl) hdg (fun H1 locs1 h1 _ h3 => kk H1 locs1 ⟨hv ▸ (show va_P D vwCl ((rwW k ad) (va_up v 26 x) f g) H1 from h1), hv2.elim (fun q => q ▸ gR_up hP.2 26 hx) id⟩ h3)
theorem rwG_faultKind (C : gC D k p s m args c cc own) (hP : gWd D (rwW k ad) v f g H) (hm : Cond.fieldLink own idx "RouteWall" "faultKind" "I" ∈ gWs) (hdg : decode cc pc = .ok (.getfield idx, 3)) (kk : W p l e R s m args below meth c H locs cells slots Q (F0 m (pc + 3) ls (.int (iI (v 27)) :: rest))) : W p l e R s m args below meth c H locs cells slots Q (F0 m pc ls (.ref (ad 0) :: rest)) := va_get (D := D) (ci := 10) (C := RX10) (T := TX10) (N := 14) C.1 C.2.1 C.2.2.1 gLx10 C.2.2.2.1 C.2.2.2.2 hP.1 0 rfl rfl 12 (by decide) (C.2.2.1 _ hm) (fun _ h9 => h9) rfl hdg kk
theorem rwP_faultKind (C : gC D k p s m args c cc own) (hP : gWd D (rwW k ad) v f g H) (hD : rwD A k ad) (hS : va_S A H0 H locs) (hm : Cond.fieldLink own idx "RouteWall" "faultKind" "I" ∈ gWs) {x : Int} {v1 : gV} (hx : inR x) (hv : (rwW k ad) (va_up v 27 x) f g = (rwW k ad) v1 f g) (hv2 : va_up v 27 x = v1 ∨ gOk v1 f) (hdg : decode cc pc = .ok (.putfield idx, 3)) (kk : ∀ (H1 : Heap) (locs1 : List Loc), gWd D (rwW k ad) v1 f g H1 → va_S A H0 H1 locs1 → W p l e R s m args below meth c H1 locs1 cells slots Q (F0 m (pc + 3) ls rest)) : W p l e R s m args below meth c H locs cells slots Q (F0 m pc ls (.int (iI x) :: .ref (ad 0) :: rest)) := va_put (D := D) (ci := 10) (ty := .int) (C := RX10) (T := TX10) (N := 14) C.1 C.2.1 C.2.2.1 gLx10 tyX10 tyX10_ok nmX10 C.2.2.2.1 C.2.2.2.2 hP.1 (hD v f g) hS 0 rfl rfl 12 (by decide) (C.2.2.1 _ hm) (fun _ h9 => h9) rfl (by decide +kernel) rfl rfl (Nat.le_of_ble_eq_true rfl) hdg (fun H1 locs1 h1 _ h3 => kk H1 locs1 ⟨hv ▸ (show va_P D vwCl ((rwW k ad) (va_up v 27 x) f g) H1 from h1), hv2.elim (fun q => q ▸ gR_up hP.2 27 hx) id⟩ h3)
theorem rwG_faultPlace (C : gC D k p s m args c cc own) (hP : gWd D (rwW k ad) v f g H) (hm : Cond.fieldLink own idx "RouteWall" "faultPlace" "I" ∈ gWs) (hdg : decode cc pc = .ok (.getfield idx, 3)) (kk : W p l e R s m args below meth c H locs cells slots Q (F0 m (pc + 3) ls (.int (iI (v 28)) :: rest))) : W p l e R s m args below meth c H locs cells slots Q (F0 m pc ls (.ref (ad 0) :: rest)) := va_get (D := D) (ci := 10) (C := RX10) (T := TX10) (N := 14) C.1 C.2.1 C.2.2.1 gLx10 C.2.2.2.1 C.2.2.2.2 hP.1 0 rfl rfl 13 (by decide) (C.2.2.1 _ hm) (fun _ h9 => h9) rfl hdg kk
theorem rwP_faultPlace (C : gC D k p s m args c cc own) (hP : gWd D (rwW k ad) v f g H) (hD : rwD A k ad) (hS : va_S A H0 H locs) (hm : Cond.fieldLink own idx "RouteWall" "faultPlace" "I" ∈ gWs) {x : Int} {v1 : gV} (hx : inR x) (hv : (rwW k ad) (va_up v 28 x) f g = (rwW k ad) v1 f g) (hv2 : va_up v 28 x = v1 ∨ gOk v1 f) (hdg : decode cc pc = .ok (.putfield idx, 3)) (kk : ∀ (H1 : Heap) (locs1 : List Loc), gWd D (rwW k ad) v1 f g H1 → va_S A H0 H1 locs1 → W p l e R s m args below meth c H1 locs1 cells slots Q (F0 m (pc + 3) ls rest)) : W p l e R s m args below meth c H locs cells slots Q (F0 m pc ls (.int (iI x) :: .ref (ad 0) :: rest)) := va_put (D := D) (ci := 10) (ty := .int) (C := RX10) (T := TX10) (N := 14) C.1 C.2.1 C.2.2.1 gLx10 tyX10 tyX10_ok nmX10 C.2.2.2.1 C.2.2.2.2 hP.1 (hD v f g) hS 0 rfl rfl 13 (by decide) (C.2.2.1 _ hm) (fun _ h9 => h9) rfl (by decide +kernel) rfl rfl (Nat.le_of_ble_eq_true rfl) hdg (fun H1 locs1 h1 _ h3 => kk H1 locs1 ⟨hv ▸ (show va_P D vwCl ((rwW k ad) (va_up v 28 x) f g) H1 from h1), hv2.elim (fun q => q ▸ gR_up hP.2 28 hx) id⟩ h3)
theorem rwL_tape (C : gC D k p s m args c cc own) (hP : gWd D (rwW k ad) v f g H) {i : Int} (h0 : 0 ≤ i) (h1 : i < 700) (hdg : decode cc pc = .ok (.iaload, 1)) (kk : W p l e R s m args below meth c H locs cells slots Q (F0 m (pc + 1) ls (.int (iI (f 0 i)) :: rest))) : W p l e R s m args below meth c H locs cells slots Q (F0 m pc ls (.int (iI i) :: .ref (ad 1) :: rest)) := g_iald C hP.1 1 rfl (by decide) h0 h1 hdg kk
theorem rwS_tape (C : gC D k p s m args c cc own) (hP : gWd D (rwW k ad) v f g H) (hD : rwD A k ad) (hS : va_S A H0 H locs) {i x : Int} {f1 : gF} (h0 : 0 ≤ i) (h1 : i < 700) (hx : inR x) (hv : (rwW k ad) v (va_up f 0 (u1 (f 0) i x)) g = (rwW k ad) v f1 g) (hv2 : va_up f 0 (u1 (f 0) i x) = f1 ∨ gOk v f1) (hdg : decode cc pc = .ok (.iastore, 1)) (kk : ∀ (H1 : Heap) (locs1 : List Loc), gWd D (rwW k ad) v f1 g H1 → va_S A H0 H1 locs1 → W p l e R s m args below meth c H1 locs1 cells slots Q (F0 m (pc + 1) ls rest)) : W p l e R s m args below meth c H locs cells slots Q (F0 m pc ls (.int (iI x) :: .int (iI i) :: .ref (ad 1) :: rest)) := g_iast C hP.1 (hD v f g) hS 1 rfl (by decide) h0 h1 (ws' := (rwW k ad) v f1 g) (by rw [← hv]; rfl) hdg (fun H1 locs1 h1 h3 => kk H1 locs1 ⟨h1, hv2.elim (fun q => q ▸ gF_up hP.2 0 (u1_rng (hP.2.2 0) hx)) id⟩ h3)
theorem rwN_tape (C : gC D k p s m args c cc own) (hP : gWd D (rwW k ad) v f g H) (hdg : decode cc pc = .ok (.arraylength, 1)) (kk : W p l e R s m args below meth c H locs cells slots Q (F0 m (pc + 1) ls (.int (iI 700) :: rest))) : W p l e R s m args below meth c H locs cells slots Q (F0 m pc ls (.ref (ad 1) :: rest)) := va_alen (D := D) C.1 C.2.1 C.2.2.2.2 hP.1 1 0 rfl rfl (v := iI 700) rfl hdg kk
theorem rwG_laws_rounds (C : gC D k p s m args c cc own) (hP : gWd D (rwW k ad) v f g H) (hm : Cond.fieldLink own idx "RouteWall$Laws" "rounds" "I" ∈ gWs) (hdg : decode cc pc = .ok (.getfield idx, 3)) (kk : W p l e R s m args below meth c H locs cells slots Q (F0 m (pc + 3) ls (.int (iI (v 1)) :: rest))) : W p l e R s m args below meth c H locs cells slots Q (F0 m pc ls (.ref (ad 2) :: rest)) := va_get (D := D) (ci := 4) (C := RX4) (T := TX4) (N := 10) C.1 C.2.1 C.2.2.1 gLx4 C.2.2.2.1 C.2.2.2.2 hP.1 2 rfl rfl 0 (by decide) (C.2.2.1 _ hm) (fun _ h9 => h9) rfl hdg kk
theorem rwP_laws_rounds (C : gC D k p s m args c cc own) (hP : gWd D (rwW k ad) v f g H) (hD : rwD A k ad) (hS : va_S A H0 H locs) (hm : Cond.fieldLink own idx "RouteWall$Laws" "rounds" "I" ∈ gWs) {x : Int} {v1 : gV} (hx : inR x) (hv : (rwW k ad) (va_up v 1 x) f g = (rwW k ad) v1 f g) (hv2 : va_up v 1 x = v1 ∨ gOk v1 f) (hdg : decode cc pc = .ok (.putfield idx, 3)) (kk : ∀ (H1 : Heap) (locs1 : List Loc), gWd D (rwW k ad) v1 f g H1 → va_S A H0 H1 locs1 → W p l e R s m args below meth c H1 locs1 cells slots Q (F0 m (pc + 3) ls rest)) : W p l e R s m args below meth c H locs cells slots Q (F0 m pc ls (.int (iI x) :: .ref (ad 2) :: rest)) := va_put (D := D) (ci := 4) (ty := .int) (C := RX4) (T := TX4) (N := 10) C.1 C.2.1 C.2.2.1 gLx4 tyX4 tyX4_ok nmX4 C.2.2.2.1 C.2.2.2.2 hP.1 (hD v f g) hS 2 rfl rfl 0 (by decide) (C.2.2.1 _ hm) (fun _ h9 => h9) rfl (by decide +kernel) rfl rfl (Nat.le_of_ble_eq_true rfl) hdg (fun H1 locs1 h1 _ h3 => kk H1 locs1 ⟨hv ▸ (show va_P D vwCl ((rwW k ad) (va_up v 1 x) f g) H1 from h1), hv2.elim (fun q => q ▸ gR_up hP.2 1 hx) id⟩ h3)
theorem rwG_laws_shape (C : gC D k p s m args c cc own) (hP : gWd D (rwW k ad) v f g H) (hm : Cond.fieldLink own idx "RouteWall$Laws" "shape" "[I" ∈ gWs) (hdg : decode cc pc = .ok (.getfield idx, 3)) (kk : W p l e R s m args below meth c H locs cells slots Q (F0 m (pc + 3) ls (.ref (ad 3) :: rest))) : W p l e R s m args below meth c H locs cells slots Q (F0 m pc ls (.ref (ad 2) :: rest)) := va_get (D := D) (ci := 4) (C := RX4) (T := TX4) (N := 10) C.1 C.2.1 C.2.2.1 gLx4 C.2.2.2.1 C.2.2.2.2 hP.1 2 rfl rfl 1 (by decide) (C.2.2.1 _ hm) (fun _ h9 => h9) rfl hdg kk
theorem rwG_laws_item (C : gC D k p s m args c cc own) (hP : gWd D (rwW k ad) v f g H) (hm : Cond.fieldLink own idx "RouteWall$Laws" "item" "[I" ∈ gWs) (hdg : decode cc pc = .ok (.getfield idx, 3)) (kk : W p l e R s m args below meth c H locs cells slots Q (F0 m (pc + 3) ls (.ref (ad 4) :: rest))) : W p l e R s m args below meth c H locs cells slots Q (F0 m pc ls (.ref (ad 2) :: rest)) := va_get (D := D) (ci := 4) (C := RX4) (T := TX4) (N := 10) C.1 C.2.1 C.2.2.1 gLx4 C.2.2.2.1 C.2.2.2.2 hP.1 2 rfl rfl 2 (by decide) (C.2.2.1 _ hm) (fun _ h9 => h9) rfl hdg kk
theorem rwG_laws_number (C : gC D k p s m args c cc own) (hP : gWd D (rwW k ad) v f g H) (hm : Cond.fieldLink own idx "RouteWall$Laws" "number" "[I" ∈ gWs) (hdg : decode cc pc = .ok (.getfield idx, 3)) (kk : W p l e R s m args below meth c H locs cells slots Q (F0 m (pc + 3) ls (.ref (ad 5) :: rest))) : W p l e R s m args below meth c H locs cells slots Q (F0 m pc ls (.ref (ad 2) :: rest)) := va_get (D := D) (ci := 4) (C := RX4) (T := TX4) (N := 10) C.1 C.2.1 C.2.2.1 gLx4 C.2.2.2.1 C.2.2.2.2 hP.1 2 rfl rfl 3 (by decide) (C.2.2.1 _ hm) (fun _ h9 => h9) rfl hdg kk
theorem rwG_laws_items (C : gC D k p s m args c cc own) (hP : gWd D (rwW k ad) v f g H) (hm : Cond.fieldLink own idx "RouteWall$Laws" "items" "I" ∈ gWs) (hdg : decode cc pc = .ok (.getfield idx, 3)) (kk : W p l e R s m args below meth c H locs cells slots Q (F0 m (pc + 3) ls (.int (iI (v 2)) :: rest))) : W p l e R s m args below meth c H locs cells slots Q (F0 m pc ls (.ref (ad 2) :: rest)) := va_get (D := D) (ci := 4) (C := RX4) (T := TX4) (N := 10) C.1 C.2.1 C.2.2.1 gLx4 C.2.2.2.1 C.2.2.2.2 hP.1 2 rfl rfl 4 (by decide) (C.2.2.1 _ hm) (fun _ h9 => h9) rfl hdg kk
theorem rwP_laws_items (C : gC D k p s m args c cc own) (hP : gWd D (rwW k ad) v f g H) (hD : rwD A k ad) (hS : va_S A H0 H locs) (hm : Cond.fieldLink own idx "RouteWall$Laws" "items" "I" ∈ gWs) {x : Int} {v1 : gV} (hx : inR x) (hv : (rwW k ad) (va_up v 2 x) f g = (rwW k ad) v1 f g) (hv2 : va_up v 2 x = v1 ∨ gOk v1 f) (hdg : decode cc pc = .ok (.putfield idx, 3)) (kk : ∀ (H1 : Heap) (locs1 : List Loc), gWd D (rwW k ad) v1 f g H1 → va_S A H0 H1 locs1 → W p l e R s m args below meth c H1 locs1 cells slots Q (F0 m (pc + 3) ls rest)) : W p l e R s m args below meth c H locs cells slots Q (F0 m pc ls (.int (iI x) :: .ref (ad 2) :: rest)) := va_put (D := D) (ci := 4) (ty := .int) (C := RX4) (T := TX4) (N := 10) C.1 C.2.1 C.2.2.1 gLx4 tyX4 tyX4_ok nmX4 C.2.2.2.1 C.2.2.2.2 hP.1 (hD v f g) hS 2 rfl rfl 4 (by decide) (C.2.2.1 _ hm) (fun _ h9 => h9) rfl (by decide +kernel) rfl rfl (Nat.le_of_ble_eq_true rfl) hdg (fun H1 locs1 h1 _ h3 => kk H1 locs1 ⟨hv ▸ (show va_P D vwCl ((rwW k ad) (va_up v 2 x) f g) H1 from h1), hv2.elim (fun q => q ▸ gR_up hP.2 2 hx) id⟩ h3)
theorem rwG_laws_keyKind (C : gC D k p s m args c cc own) (hP : gWd D (rwW k ad) v f g H) (hm : Cond.fieldLink own idx "RouteWall$Laws" "keyKind" "[I" ∈ gWs) (hdg : decode cc pc = .ok (.getfield idx, 3)) (kk : W p l e R s m args below meth c H locs cells slots Q (F0 m (pc + 3) ls (.ref (ad 6) :: rest))) : W p l e R s m args below meth c H locs cells slots Q (F0 m pc ls (.ref (ad 2) :: rest)) := va_get (D := D) (ci := 4) (C := RX4) (T := TX4) (N := 10) C.1 C.2.1 C.2.2.1 gLx4 C.2.2.2.1 C.2.2.2.2 hP.1 2 rfl rfl 5 (by decide) (C.2.2.1 _ hm) (fun _ h9 => h9) rfl hdg kk
theorem rwG_laws_keyDown (C : gC D k p s m args c cc own) (hP : gWd D (rwW k ad) v f g H) (hm : Cond.fieldLink own idx "RouteWall$Laws" "keyDown" "[I" ∈ gWs) (hdg : decode cc pc = .ok (.getfield idx, 3)) (kk : W p l e R s m args below meth c H locs cells slots Q (F0 m (pc + 3) ls (.ref (ad 7) :: rest))) : W p l e R s m args below meth c H locs cells slots Q (F0 m pc ls (.ref (ad 2) :: rest)) := va_get (D := D) (ci := 4) (C := RX4) (T := TX4) (N := 10) C.1 C.2.1 C.2.2.1 gLx4 C.2.2.2.1 C.2.2.2.2 hP.1 2 rfl rfl 6 (by decide) (C.2.2.1 _ hm) (fun _ h9 => h9) rfl hdg kk
theorem rwG_laws_keys (C : gC D k p s m args c cc own) (hP : gWd D (rwW k ad) v f g H) (hm : Cond.fieldLink own idx "RouteWall$Laws" "keys" "I" ∈ gWs) (hdg : decode cc pc = .ok (.getfield idx, 3)) (kk : W p l e R s m args below meth c H locs cells slots Q (F0 m (pc + 3) ls (.int (iI (v 3)) :: rest))) : W p l e R s m args below meth c H locs cells slots Q (F0 m pc ls (.ref (ad 2) :: rest)) := va_get (D := D) (ci := 4) (C := RX4) (T := TX4) (N := 10) C.1 C.2.1 C.2.2.1 gLx4 C.2.2.2.1 C.2.2.2.2 hP.1 2 rfl rfl 7 (by decide) (C.2.2.1 _ hm) (fun _ h9 => h9) rfl hdg kk
theorem rwP_laws_keys (C : gC D k p s m args c cc own) (hP : gWd D (rwW k ad) v f g H) (hD : rwD A k ad) (hS : va_S A H0 H locs) (hm : Cond.fieldLink own idx "RouteWall$Laws" "keys" "I" ∈ gWs) {x : Int} {v1 : gV} (hx : inR x) (hv : (rwW k ad) (va_up v 3 x) f g = (rwW k ad) v1 f g) (hv2 : va_up v 3 x = v1 ∨ gOk v1 f) (hdg : decode cc pc = .ok (.putfield idx, 3)) (kk : ∀ (H1 : Heap) (locs1 : List Loc), gWd D (rwW k ad) v1 f g H1 → va_S A H0 H1 locs1 → W p l e R s m args below meth c H1 locs1 cells slots Q (F0 m (pc + 3) ls rest)) : W p l e R s m args below meth c H locs cells slots Q (F0 m pc ls (.int (iI x) :: .ref (ad 2) :: rest)) := va_put (D := D) (ci := 4) (ty := .int) (C := RX4) (T := TX4) (N := 10) C.1 C.2.1 C.2.2.1 gLx4 tyX4 tyX4_ok nmX4 C.2.2.2.1 C.2.2.2.2 hP.1 (hD v f g) hS 2 rfl rfl 7 (by decide) (C.2.2.1 _ hm) (fun _ h9 => h9) rfl (by decide +kernel) rfl rfl (Nat.le_of_ble_eq_true rfl) hdg (fun H1 locs1 h1 _ h3 => kk H1 locs1 ⟨hv ▸ (show va_P D vwCl ((rwW k ad) (va_up v 3 x) f g) H1 from h1), hv2.elim (fun q => q ▸ gR_up hP.2 3 hx) id⟩ h3)
theorem rwG_laws_back (C : gC D k p s m args c cc own) (hP : gWd D (rwW k ad) v f g H) (hm : Cond.fieldLink own idx "RouteWall$Laws" "back" "Z" ∈ gWs) (hdg : decode cc pc = .ok (.getfield idx, 3)) (kk : W p l e R s m args below meth c H locs cells slots Q (F0 m (pc + 3) ls (.int (iI (v 4)) :: rest))) : W p l e R s m args below meth c H locs cells slots Q (F0 m pc ls (.ref (ad 2) :: rest)) := va_get (D := D) (ci := 4) (C := RX4) (T := TX4) (N := 10) C.1 C.2.1 C.2.2.1 gLx4 C.2.2.2.1 C.2.2.2.2 hP.1 2 rfl rfl 8 (by decide) (C.2.2.1 _ hm) (fun _ h9 => h9) rfl hdg kk
theorem rwP_laws_back (C : gC D k p s m args c cc own) (hP : gWd D (rwW k ad) v f g H) (hD : rwD A k ad) (hS : va_S A H0 H locs) (hm : Cond.fieldLink own idx "RouteWall$Laws" "back" "Z" ∈ gWs) {x : Int} {v1 : gV} (hx : inR x) (hb : x = 0 ∨ x = 1) (hv : (rwW k ad) (va_up v 4 x) f g = (rwW k ad) v1 f g) (hv2 : va_up v 4 x = v1 ∨ gOk v1 f) (hdg : decode cc pc = .ok (.putfield idx, 3)) (kk : ∀ (H1 : Heap) (locs1 : List Loc), gWd D (rwW k ad) v1 f g H1 → va_S A H0 H1 locs1 → W p l e R s m args below meth c H1 locs1 cells slots Q (F0 m (pc + 3) ls rest)) : W p l e R s m args below meth c H locs cells slots Q (F0 m pc ls (.int (iI x) :: .ref (ad 2) :: rest)) := va_put (D := D) (ci := 4) (ty := .boolean) (C := RX4) (T := TX4) (N := 10) C.1 C.2.1 C.2.2.1 gLx4 tyX4 tyX4_ok nmX4 C.2.2.2.1 C.2.2.2.2 hP.1 (hD v f g) hS 2 rfl rfl 8 (by decide) (C.2.2.1 _ hm) (fun _ h9 => h9) rfl (by decide +kernel) (by rcases hb with rfl | rfl <;> rfl) (by rcases hb with rfl | rfl <;> rfl) (Nat.le_of_ble_eq_true rfl) hdg (fun H1 locs1 h1 _ h3 => kk H1 locs1 ⟨hv ▸ (show va_P D vwCl ((rwW k ad) (va_up v 4 x) f g) H1 from h1), hv2.elim (fun q => q ▸ gR_up hP.2 4 hx) id⟩ h3)
theorem rwG_laws_stack (C : gC D k p s m args c cc own) (hP : gWd D (rwW k ad) v f g H) (hm : Cond.fieldLink own idx "RouteWall$Laws" "stack" "[J" ∈ gWs) (hdg : decode cc pc = .ok (.getfield idx, 3)) (kk : W p l e R s m args below meth c H locs cells slots Q (F0 m (pc + 3) ls (.ref (ad 8) :: rest))) : W p l e R s m args below meth c H locs cells slots Q (F0 m pc ls (.ref (ad 2) :: rest)) := va_get (D := D) (ci := 4) (C := RX4) (T := TX4) (N := 10) C.1 C.2.1 C.2.2.1 gLx4 C.2.2.2.1 C.2.2.2.2 hP.1 2 rfl rfl 9 (by decide) (C.2.2.1 _ hm) (fun _ h9 => h9) rfl hdg kk
theorem rwL_laws_shape (C : gC D k p s m args c cc own) (hP : gWd D (rwW k ad) v f g H) {i : Int} (h0 : 0 ≤ i) (h1 : i < 16) (hdg : decode cc pc = .ok (.iaload, 1)) (kk : W p l e R s m args below meth c H locs cells slots Q (F0 m (pc + 1) ls (.int (iI (f 1 i)) :: rest))) : W p l e R s m args below meth c H locs cells slots Q (F0 m pc ls (.int (iI i) :: .ref (ad 3) :: rest)) := g_iald C hP.1 3 rfl (by decide) h0 h1 hdg kk
theorem rwS_laws_shape (C : gC D k p s m args c cc own) (hP : gWd D (rwW k ad) v f g H) (hD : rwD A k ad) (hS : va_S A H0 H locs) {i x : Int} {f1 : gF} (h0 : 0 ≤ i) (h1 : i < 16) (hx : inR x) (hv : (rwW k ad) v (va_up f 1 (u1 (f 1) i x)) g = (rwW k ad) v f1 g) (hv2 : va_up f 1 (u1 (f 1) i x) = f1 ∨ gOk v f1) (hdg : decode cc pc = .ok (.iastore, 1)) (kk : ∀ (H1 : Heap) (locs1 : List Loc), gWd D (rwW k ad) v f1 g H1 → va_S A H0 H1 locs1 → W p l e R s m args below meth c H1 locs1 cells slots Q (F0 m (pc + 1) ls rest)) : W p l e R s m args below meth c H locs cells slots Q (F0 m pc ls (.int (iI x) :: .int (iI i) :: .ref (ad 3) :: rest)) := g_iast C hP.1 (hD v f g) hS 3 rfl (by decide) h0 h1 (ws' := (rwW k ad) v f1 g) (by rw [← hv]; rfl) hdg (fun H1 locs1 h1 h3 => kk H1 locs1 ⟨h1, hv2.elim (fun q => q ▸ gF_up hP.2 1 (u1_rng (hP.2.2 1) hx)) id⟩ h3)
theorem rwN_laws_shape (C : gC D k p s m args c cc own) (hP : gWd D (rwW k ad) v f g H) (hdg : decode cc pc = .ok (.arraylength, 1)) (kk : W p l e R s m args below meth c H locs cells slots Q (F0 m (pc + 1) ls (.int (iI 16) :: rest))) : W p l e R s m args below meth c H locs cells slots Q (F0 m pc ls (.ref (ad 3) :: rest)) := va_alen (D := D) C.1 C.2.1 C.2.2.2.2 hP.1 3 0 rfl rfl (v := iI 16) rfl hdg kk
theorem rwL_laws_item (C : gC D k p s m args c cc own) (hP : gWd D (rwW k ad) v f g H) {i : Int} (h0 : 0 ≤ i) (h1 : i < 40) (hdg : decode cc pc = .ok (.iaload, 1)) (kk : W p l e R s m args below meth c H locs cells slots Q (F0 m (pc + 1) ls (.int (iI (f 2 i)) :: rest))) : W p l e R s m args below meth c H locs cells slots Q (F0 m pc ls (.int (iI i) :: .ref (ad 4) :: rest)) := g_iald C hP.1 4 rfl (by decide) h0 h1 hdg kk
theorem rwS_laws_item (C : gC D k p s m args c cc own) (hP : gWd D (rwW k ad) v f g H) (hD : rwD A k ad) (hS : va_S A H0 H locs) {i x : Int} {f1 : gF} (h0 : 0 ≤ i) (h1 : i < 40) (hx : inR x) (hv : (rwW k ad) v (va_up f 2 (u1 (f 2) i x)) g = (rwW k ad) v f1 g) (hv2 : va_up f 2 (u1 (f 2) i x) = f1 ∨ gOk v f1) (hdg : decode cc pc = .ok (.iastore, 1)) (kk : ∀ (H1 : Heap) (locs1 : List Loc), gWd D (rwW k ad) v f1 g H1 → va_S A H0 H1 locs1 → W p l e R s m args below meth c H1 locs1 cells slots Q (F0 m (pc + 1) ls rest)) : W p l e R s m args below meth c H locs cells slots Q (F0 m pc ls (.int (iI x) :: .int (iI i) :: .ref (ad 4) :: rest)) := g_iast C hP.1 (hD v f g) hS 4 rfl (by decide) h0 h1 (ws' := (rwW k ad) v f1 g) (by rw [← hv]; rfl) hdg (fun H1 locs1 h1 h3 => kk H1 locs1 ⟨h1, hv2.elim (fun q => q ▸ gF_up hP.2 2 (u1_rng (hP.2.2 2) hx)) id⟩ h3)
theorem rwN_laws_item (C : gC D k p s m args c cc own) (hP : gWd D (rwW k ad) v f g H) (hdg : decode cc pc = .ok (.arraylength, 1)) (kk : W p l e R s m args below meth c H locs cells slots Q (F0 m (pc + 1) ls (.int (iI 40) :: rest))) : W p l e R s m args below meth c H locs cells slots Q (F0 m pc ls (.ref (ad 4) :: rest)) := va_alen (D := D) C.1 C.2.1 C.2.2.2.2 hP.1 4 0 rfl rfl (v := iI 40) rfl hdg kk
theorem rwL_laws_number (C : gC D k p s m args c cc own) (hP : gWd D (rwW k ad) v f g H) {i : Int} (h0 : 0 ≤ i) (h1 : i < 40) (hdg : decode cc pc = .ok (.iaload, 1)) (kk : W p l e R s m args below meth c H locs cells slots Q (F0 m (pc + 1) ls (.int (iI (f 3 i)) :: rest))) : W p l e R s m args below meth c H locs cells slots Q (F0 m pc ls (.int (iI i) :: .ref (ad 5) :: rest)) := g_iald C hP.1 5 rfl (by decide) h0 h1 hdg kk
theorem rwS_laws_number (C : gC D k p s m args c cc own) (hP : gWd D (rwW k ad) v f g H) (hD : rwD A k ad) (hS : va_S A H0 H locs) {i x : Int} {f1 : gF} (h0 : 0 ≤ i) (h1 : i < 40) (hx : inR x) (hv : (rwW k ad) v (va_up f 3 (u1 (f 3) i x)) g = (rwW k ad) v f1 g) (hv2 : va_up f 3 (u1 (f 3) i x) = f1 ∨ gOk v f1) (hdg : decode cc pc = .ok (.iastore, 1)) (kk : ∀ (H1 : Heap) (locs1 : List Loc), gWd D (rwW k ad) v f1 g H1 → va_S A H0 H1 locs1 → W p l e R s m args below meth c H1 locs1 cells slots Q (F0 m (pc + 1) ls rest)) : W p l e R s m args below meth c H locs cells slots Q (F0 m pc ls (.int (iI x) :: .int (iI i) :: .ref (ad 5) :: rest)) := g_iast C hP.1 (hD v f g) hS 5 rfl (by decide) h0 h1 (ws' := (rwW k ad) v f1 g) (by rw [← hv]; rfl) hdg (fun H1 locs1 h1 h3 => kk H1 locs1 ⟨h1, hv2.elim (fun q => q ▸ gF_up hP.2 3 (u1_rng (hP.2.2 3) hx)) id⟩ h3)
theorem rwN_laws_number (C : gC D k p s m args c cc own) (hP : gWd D (rwW k ad) v f g H) (hdg : decode cc pc = .ok (.arraylength, 1)) (kk : W p l e R s m args below meth c H locs cells slots Q (F0 m (pc + 1) ls (.int (iI 40) :: rest))) : W p l e R s m args below meth c H locs cells slots Q (F0 m pc ls (.ref (ad 5) :: rest)) := va_alen (D := D) C.1 C.2.1 C.2.2.2.2 hP.1 5 0 rfl rfl (v := iI 40) rfl hdg kk
theorem rwL_laws_keyKind (C : gC D k p s m args c cc own) (hP : gWd D (rwW k ad) v f g H) {i : Int} (h0 : 0 ≤ i) (h1 : i < 4) (hdg : decode cc pc = .ok (.iaload, 1)) (kk : W p l e R s m args below meth c H locs cells slots Q (F0 m (pc + 1) ls (.int (iI (f 4 i)) :: rest))) : W p l e R s m args below meth c H locs cells slots Q (F0 m pc ls (.int (iI i) :: .ref (ad 6) :: rest)) := g_iald C hP.1 6 rfl (by decide) h0 h1 hdg kk
theorem rwS_laws_keyKind (C : gC D k p s m args c cc own) (hP : gWd D (rwW k ad) v f g H) (hD : rwD A k ad) (hS : va_S A H0 H locs) {i x : Int} {f1 : gF} (h0 : 0 ≤ i) (h1 : i < 4) (hx : inR x) (hv : (rwW k ad) v (va_up f 4 (u1 (f 4) i x)) g = (rwW k ad) v f1 g) (hv2 : va_up f 4 (u1 (f 4) i x) = f1 ∨ gOk v f1) (hdg : decode cc pc = .ok (.iastore, 1)) (kk : ∀ (H1 : Heap) (locs1 : List Loc), gWd D (rwW k ad) v f1 g H1 → va_S A H0 H1 locs1 → W p l e R s m args below meth c H1 locs1 cells slots Q (F0 m (pc + 1) ls rest)) : W p l e R s m args below meth c H locs cells slots Q (F0 m pc ls (.int (iI x) :: .int (iI i) :: .ref (ad 6) :: rest)) := g_iast C hP.1 (hD v f g) hS 6 rfl (by decide) h0 h1 (ws' := (rwW k ad) v f1 g) (by rw [← hv]; rfl) hdg (fun H1 locs1 h1 h3 => kk H1 locs1 ⟨h1, hv2.elim (fun q => q ▸ gF_up hP.2 4 (u1_rng (hP.2.2 4) hx)) id⟩ h3)
theorem rwN_laws_keyKind (C : gC D k p s m args c cc own) (hP : gWd D (rwW k ad) v f g H) (hdg : decode cc pc = .ok (.arraylength, 1)) (kk : W p l e R s m args below meth c H locs cells slots Q (F0 m (pc + 1) ls (.int (iI 4) :: rest))) : W p l e R s m args below meth c H locs cells slots Q (F0 m pc ls (.ref (ad 6) :: rest)) := va_alen (D := D) C.1 C.2.1 C.2.2.2.2 hP.1 6 0 rfl rfl (v := iI 4) rfl hdg kk
theorem rwL_laws_keyDown (C : gC D k p s m args c cc own) (hP : gWd D (rwW k ad) v f g H) {i : Int} (h0 : 0 ≤ i) (h1 : i < 4) (hdg : decode cc pc = .ok (.iaload, 1)) (kk : W p l e R s m args below meth c H locs cells slots Q (F0 m (pc + 1) ls (.int (iI (f 5 i)) :: rest))) : W p l e R s m args below meth c H locs cells slots Q (F0 m pc ls (.int (iI i) :: .ref (ad 7) :: rest)) := g_iald C hP.1 7 rfl (by decide) h0 h1 hdg kk
theorem rwS_laws_keyDown (C : gC D k p s m args c cc own) (hP : gWd D (rwW k ad) v f g H) (hD : rwD A k ad) (hS : va_S A H0 H locs) {i x : Int} {f1 : gF} (h0 : 0 ≤ i) (h1 : i < 4) (hx : inR x) (hv : (rwW k ad) v (va_up f 5 (u1 (f 5) i x)) g = (rwW k ad) v f1 g) (hv2 : va_up f 5 (u1 (f 5) i x) = f1 ∨ gOk v f1) (hdg : decode cc pc = .ok (.iastore, 1)) (kk : ∀ (H1 : Heap) (locs1 : List Loc), gWd D (rwW k ad) v f1 g H1 → va_S A H0 H1 locs1 → W p l e R s m args below meth c H1 locs1 cells slots Q (F0 m (pc + 1) ls rest)) : W p l e R s m args below meth c H locs cells slots Q (F0 m pc ls (.int (iI x) :: .int (iI i) :: .ref (ad 7) :: rest)) := g_iast C hP.1 (hD v f g) hS 7 rfl (by decide) h0 h1 (ws' := (rwW k ad) v f1 g) (by rw [← hv]; rfl) hdg (fun H1 locs1 h1 h3 => kk H1 locs1 ⟨h1, hv2.elim (fun q => q ▸ gF_up hP.2 5 (u1_rng (hP.2.2 5) hx)) id⟩ h3)
theorem rwN_laws_keyDown (C : gC D k p s m args c cc own) (hP : gWd D (rwW k ad) v f g H) (hdg : decode cc pc = .ok (.arraylength, 1)) (kk : W p l e R s m args below meth c H locs cells slots Q (F0 m (pc + 1) ls (.int (iI 4) :: rest))) : W p l e R s m args below meth c H locs cells slots Q (F0 m pc ls (.ref (ad 7) :: rest)) := va_alen (D := D) C.1 C.2.1 C.2.2.2.2 hP.1 7 0 rfl rfl (v := iI 4) rfl hdg kk
theorem rwL_laws_stack (C : gC D k p s m args c cc own) (hP : gWd D (rwW k ad) v f g H) {i : Int} (h0 : 0 ≤ i) (h1 : i < 40) (hdg : decode cc pc = .ok (.laload, 1)) (kk : W p l e R s m args below meth c H locs cells slots Q (F0 m (pc + 1) ls (.long (iL (g 0 i)) :: rest))) : W p l e R s m args below meth c H locs cells slots Q (F0 m pc ls (.int (iI i) :: .ref (ad 8) :: rest)) := g_lald C hP.1 8 rfl (by decide) h0 h1 hdg kk
theorem rwS_laws_stack (C : gC D k p s m args c cc own) (hP : gWd D (rwW k ad) v f g H) (hD : rwD A k ad) (hS : va_S A H0 H locs) {i x : Int} {g1 : gF} (h0 : 0 ≤ i) (h1 : i < 40) (hv : (rwW k ad) v f (va_up g 0 (u1 (g 0) i x)) = (rwW k ad) v f g1) (hdg : decode cc pc = .ok (.lastore, 1)) (kk : ∀ (H1 : Heap) (locs1 : List Loc), gWd D (rwW k ad) v f g1 H1 → va_S A H0 H1 locs1 → W p l e R s m args below meth c H1 locs1 cells slots Q (F0 m (pc + 1) ls rest)) : W p l e R s m args below meth c H locs cells slots Q (F0 m pc ls (.long (iL x) :: .int (iI i) :: .ref (ad 8) :: rest)) := g_last C hP.1 (hD v f g) hS 8 rfl (by decide) h0 h1 (ws' := (rwW k ad) v f g1) (by rw [← hv]; rfl) hdg (fun H1 locs1 h1 h3 => kk H1 locs1 ⟨h1, hP.2⟩ h3)
theorem rwN_laws_stack (C : gC D k p s m args c cc own) (hP : gWd D (rwW k ad) v f g H) (hdg : decode cc pc = .ok (.arraylength, 1)) (kk : W p l e R s m args below meth c H locs cells slots Q (F0 m (pc + 1) ls (.int (iI 40) :: rest))) : W p l e R s m args below meth c H locs cells slots Q (F0 m pc ls (.ref (ad 8) :: rest)) := va_alen (D := D) C.1 C.2.1 C.2.2.2.2 hP.1 8 1 rfl rfl (v := iI 40) rfl hdg kk
theorem rwG_reader_tokens (C : gC D k p s m args c cc own) (hP : gWd D (rwW k ad) v f g H) (hm : Cond.fieldLink own idx "RouteWall$LawReader" "tokens" "LRouteWall$Tokens;" ∈ gWs) (hdg : decode cc pc = .ok (.getfield idx, 3)) (kk : W p l e R s m args below meth c H locs cells slots Q (F0 m (pc + 3) ls (.ref (ad 10) :: rest))) : W p l e R s m args below meth c H locs cells slots Q (F0 m pc ls (.ref (ad 9) :: rest)) := va_get (D := D) (ci := 3) (C := RX3) (T := TX3) (N := 8) C.1 C.2.1 C.2.2.1 gLx3 C.2.2.2.1 C.2.2.2.2 hP.1 9 rfl rfl 0 (by decide) (C.2.2.1 _ hm) (fun _ h9 => h9) rfl hdg kk
theorem rwG_reader_draft (C : gC D k p s m args c cc own) (hP : gWd D (rwW k ad) v f g H) (hm : Cond.fieldLink own idx "RouteWall$LawReader" "draft" "LRouteWall$Laws;" ∈ gWs) (hdg : decode cc pc = .ok (.getfield idx, 3)) (kk : W p l e R s m args below meth c H locs cells slots Q (F0 m (pc + 3) ls (.ref (ad 14) :: rest))) : W p l e R s m args below meth c H locs cells slots Q (F0 m pc ls (.ref (ad 9) :: rest)) := va_get (D := D) (ci := 3) (C := RX3) (T := TX3) (N := 8) C.1 C.2.1 C.2.2.1 gLx3 C.2.2.2.1 C.2.2.2.2 hP.1 9 rfl rfl 1 (by decide) (C.2.2.1 _ hm) (fun _ h9 => h9) rfl hdg kk
theorem rwG_reader_expression (C : gC D k p s m args c cc own) (hP : gWd D (rwW k ad) v f g H) (hm : Cond.fieldLink own idx "RouteWall$LawReader" "expression" "LRouteWall$Expression;" ∈ gWs) (hdg : decode cc pc = .ok (.getfield idx, 3)) (kk : W p l e R s m args below meth c H locs cells slots Q (F0 m (pc + 3) ls (.ref (ad 21) :: rest))) : W p l e R s m args below meth c H locs cells slots Q (F0 m pc ls (.ref (ad 9) :: rest)) := va_get (D := D) (ci := 3) (C := RX3) (T := TX3) (N := 8) C.1 C.2.1 C.2.2.1 gLx3 C.2.2.2.1 C.2.2.2.2 hP.1 9 rfl rfl 2 (by decide) (C.2.2.1 _ hm) (fun _ h9 => h9) rfl hdg kk
theorem rwG_reader_fault (C : gC D k p s m args c cc own) (hP : gWd D (rwW k ad) v f g H) (hm : Cond.fieldLink own idx "RouteWall$LawReader" "fault" "I" ∈ gWs) (hdg : decode cc pc = .ok (.getfield idx, 3)) (kk : W p l e R s m args below meth c H locs cells slots Q (F0 m (pc + 3) ls (.int (iI (v 16)) :: rest))) : W p l e R s m args below meth c H locs cells slots Q (F0 m pc ls (.ref (ad 9) :: rest)) := va_get (D := D) (ci := 3) (C := RX3) (T := TX3) (N := 8) C.1 C.2.1 C.2.2.1 gLx3 C.2.2.2.1 C.2.2.2.2 hP.1 9 rfl rfl 3 (by decide) (C.2.2.1 _ hm) (fun _ h9 => h9) rfl hdg kk
theorem rwP_reader_fault (C : gC D k p s m args c cc own) (hP : gWd D (rwW k ad) v f g H) (hD : rwD A k ad) (hS : va_S A H0 H locs) (hm : Cond.fieldLink own idx "RouteWall$LawReader" "fault" "I" ∈ gWs) {x : Int} {v1 : gV} (hx : inR x) (hv : (rwW k ad) (va_up v 16 x) f g = (rwW k ad) v1 f g) (hv2 : va_up v 16 x = v1 ∨ gOk v1 f) (hdg : decode cc pc = .ok (.putfield idx, 3)) (kk : ∀ (H1 : Heap) (locs1 : List Loc), gWd D (rwW k ad) v1 f g H1 → va_S A H0 H1 locs1 → W p l e R s m args below meth c H1 locs1 cells slots Q (F0 m (pc + 3) ls rest)) : W p l e R s m args below meth c H locs cells slots Q (F0 m pc ls (.int (iI x) :: .ref (ad 9) :: rest)) := va_put (D := D) (ci := 3) (ty := .int) (C := RX3) (T := TX3) (N := 8) C.1 C.2.1 C.2.2.1 gLx3 tyX3 tyX3_ok nmX3 C.2.2.2.1 C.2.2.2.2 hP.1 (hD v f g) hS 9 rfl rfl 3 (by decide) (C.2.2.1 _ hm) (fun _ h9 => h9) rfl (by decide +kernel) rfl rfl (Nat.le_of_ble_eq_true rfl) hdg (fun H1 locs1 h1 _ h3 => kk H1 locs1 ⟨hv ▸ (show va_P D vwCl ((rwW k ad) (va_up v 16 x) f g) H1 from h1), hv2.elim (fun q => q ▸ gR_up hP.2 16 hx) id⟩ h3)
theorem rwG_reader_faultPlace (C : gC D k p s m args c cc own) (hP : gWd D (rwW k ad) v f g H) (hm : Cond.fieldLink own idx "RouteWall$LawReader" "faultPlace" "I" ∈ gWs) (hdg : decode cc pc = .ok (.getfield idx, 3)) (kk : W p l e R s m args below meth c H locs cells slots Q (F0 m (pc + 3) ls (.int (iI (v 17)) :: rest))) : W p l e R s m args below meth c H locs cells slots Q (F0 m pc ls (.ref (ad 9) :: rest)) := va_get (D := D) (ci := 3) (C := RX3) (T := TX3) (N := 8) C.1 C.2.1 C.2.2.1 gLx3 C.2.2.2.1 C.2.2.2.2 hP.1 9 rfl rfl 4 (by decide) (C.2.2.1 _ hm) (fun _ h9 => h9) rfl hdg kk
theorem rwP_reader_faultPlace (C : gC D k p s m args c cc own) (hP : gWd D (rwW k ad) v f g H) (hD : rwD A k ad) (hS : va_S A H0 H locs) (hm : Cond.fieldLink own idx "RouteWall$LawReader" "faultPlace" "I" ∈ gWs) {x : Int} {v1 : gV} (hx : inR x) (hv : (rwW k ad) (va_up v 17 x) f g = (rwW k ad) v1 f g) (hv2 : va_up v 17 x = v1 ∨ gOk v1 f) (hdg : decode cc pc = .ok (.putfield idx, 3)) (kk : ∀ (H1 : Heap) (locs1 : List Loc), gWd D (rwW k ad) v1 f g H1 → va_S A H0 H1 locs1 → W p l e R s m args below meth c H1 locs1 cells slots Q (F0 m (pc + 3) ls rest)) : W p l e R s m args below meth c H locs cells slots Q (F0 m pc ls (.int (iI x) :: .ref (ad 9) :: rest)) := va_put (D := D) (ci := 3) (ty := .int) (C := RX3) (T := TX3) (N := 8) C.1 C.2.1 C.2.2.1 gLx3 tyX3 tyX3_ok nmX3 C.2.2.2.1 C.2.2.2.2 hP.1 (hD v f g) hS 9 rfl rfl 4 (by decide) (C.2.2.1 _ hm) (fun _ h9 => h9) rfl (by decide +kernel) rfl rfl (Nat.le_of_ble_eq_true rfl) hdg (fun H1 locs1 h1 _ h3 => kk H1 locs1 ⟨hv ▸ (show va_P D vwCl ((rwW k ad) (va_up v 17 x) f g) H1 from h1), hv2.elim (fun q => q ▸ gR_up hP.2 17 hx) id⟩ h3)
theorem rwG_reader_pointsTold (C : gC D k p s m args c cc own) (hP : gWd D (rwW k ad) v f g H) (hm : Cond.fieldLink own idx "RouteWall$LawReader" "pointsTold" "Z" ∈ gWs) (hdg : decode cc pc = .ok (.getfield idx, 3)) (kk : W p l e R s m args below meth c H locs cells slots Q (F0 m (pc + 3) ls (.int (iI (v 18)) :: rest))) : W p l e R s m args below meth c H locs cells slots Q (F0 m pc ls (.ref (ad 9) :: rest)) := va_get (D := D) (ci := 3) (C := RX3) (T := TX3) (N := 8) C.1 C.2.1 C.2.2.1 gLx3 C.2.2.2.1 C.2.2.2.2 hP.1 9 rfl rfl 5 (by decide) (C.2.2.1 _ hm) (fun _ h9 => h9) rfl hdg kk
theorem rwP_reader_pointsTold (C : gC D k p s m args c cc own) (hP : gWd D (rwW k ad) v f g H) (hD : rwD A k ad) (hS : va_S A H0 H locs) (hm : Cond.fieldLink own idx "RouteWall$LawReader" "pointsTold" "Z" ∈ gWs) {x : Int} {v1 : gV} (hx : inR x) (hb : x = 0 ∨ x = 1) (hv : (rwW k ad) (va_up v 18 x) f g = (rwW k ad) v1 f g) (hv2 : va_up v 18 x = v1 ∨ gOk v1 f) (hdg : decode cc pc = .ok (.putfield idx, 3)) (kk : ∀ (H1 : Heap) (locs1 : List Loc), gWd D (rwW k ad) v1 f g H1 → va_S A H0 H1 locs1 → W p l e R s m args below meth c H1 locs1 cells slots Q (F0 m (pc + 3) ls rest)) : W p l e R s m args below meth c H locs cells slots Q (F0 m pc ls (.int (iI x) :: .ref (ad 9) :: rest)) := va_put (D := D) (ci := 3) (ty := .boolean) (C := RX3) (T := TX3) (N := 8) C.1 C.2.1 C.2.2.1 gLx3 tyX3 tyX3_ok nmX3 C.2.2.2.1 C.2.2.2.2 hP.1 (hD v f g) hS 9 rfl rfl 5 (by decide) (C.2.2.1 _ hm) (fun _ h9 => h9) rfl (by decide +kernel) (by rcases hb with rfl | rfl <;> rfl) (by rcases hb with rfl | rfl <;> rfl) (Nat.le_of_ble_eq_true rfl) hdg (fun H1 locs1 h1 _ h3 => kk H1 locs1 ⟨hv ▸ (show va_P D vwCl ((rwW k ad) (va_up v 18 x) f g) H1 from h1), hv2.elim (fun q => q ▸ gR_up hP.2 18 hx) id⟩ h3)
theorem rwG_reader_keysTold (C : gC D k p s m args c cc own) (hP : gWd D (rwW k ad) v f g H) (hm : Cond.fieldLink own idx "RouteWall$LawReader" "keysTold" "Z" ∈ gWs) (hdg : decode cc pc = .ok (.getfield idx, 3)) (kk : W p l e R s m args below meth c H locs cells slots Q (F0 m (pc + 3) ls (.int (iI (v 19)) :: rest))) : W p l e R s m args below meth c H locs cells slots Q (F0 m pc ls (.ref (ad 9) :: rest)) := va_get (D := D) (ci := 3) (C := RX3) (T := TX3) (N := 8) C.1 C.2.1 C.2.2.1 gLx3 C.2.2.2.1 C.2.2.2.2 hP.1 9 rfl rfl 6 (by decide) (C.2.2.1 _ hm) (fun _ h9 => h9) rfl hdg kk
theorem rwP_reader_keysTold (C : gC D k p s m args c cc own) (hP : gWd D (rwW k ad) v f g H) (hD : rwD A k ad) (hS : va_S A H0 H locs) (hm : Cond.fieldLink own idx "RouteWall$LawReader" "keysTold" "Z" ∈ gWs) {x : Int} {v1 : gV} (hx : inR x) (hb : x = 0 ∨ x = 1) (hv : (rwW k ad) (va_up v 19 x) f g = (rwW k ad) v1 f g) (hv2 : va_up v 19 x = v1 ∨ gOk v1 f) (hdg : decode cc pc = .ok (.putfield idx, 3)) (kk : ∀ (H1 : Heap) (locs1 : List Loc), gWd D (rwW k ad) v1 f g H1 → va_S A H0 H1 locs1 → W p l e R s m args below meth c H1 locs1 cells slots Q (F0 m (pc + 3) ls rest)) : W p l e R s m args below meth c H locs cells slots Q (F0 m pc ls (.int (iI x) :: .ref (ad 9) :: rest)) := va_put (D := D) (ci := 3) (ty := .boolean) (C := RX3) (T := TX3) (N := 8) C.1 C.2.1 C.2.2.1 gLx3 tyX3 tyX3_ok nmX3 C.2.2.2.1 C.2.2.2.2 hP.1 (hD v f g) hS 9 rfl rfl 6 (by decide) (C.2.2.1 _ hm) (fun _ h9 => h9) rfl (by decide +kernel) (by rcases hb with rfl | rfl <;> rfl) (by rcases hb with rfl | rfl <;> rfl) (Nat.le_of_ble_eq_true rfl) hdg (fun H1 locs1 h1 _ h3 => kk H1 locs1 ⟨hv ▸ (show va_P D vwCl ((rwW k ad) (va_up v 19 x) f g) H1 from h1), hv2.elim (fun q => q ▸ gR_up hP.2 19 hx) id⟩ h3)
theorem rwG_reader_tiesTold (C : gC D k p s m args c cc own) (hP : gWd D (rwW k ad) v f g H) (hm : Cond.fieldLink own idx "RouteWall$LawReader" "tiesTold" "Z" ∈ gWs) (hdg : decode cc pc = .ok (.getfield idx, 3)) (kk : W p l e R s m args below meth c H locs cells slots Q (F0 m (pc + 3) ls (.int (iI (v 20)) :: rest))) : W p l e R s m args below meth c H locs cells slots Q (F0 m pc ls (.ref (ad 9) :: rest)) := va_get (D := D) (ci := 3) (C := RX3) (T := TX3) (N := 8) C.1 C.2.1 C.2.2.1 gLx3 C.2.2.2.1 C.2.2.2.2 hP.1 9 rfl rfl 7 (by decide) (C.2.2.1 _ hm) (fun _ h9 => h9) rfl hdg kk
theorem rwP_reader_tiesTold (C : gC D k p s m args c cc own) (hP : gWd D (rwW k ad) v f g H) (hD : rwD A k ad) (hS : va_S A H0 H locs) (hm : Cond.fieldLink own idx "RouteWall$LawReader" "tiesTold" "Z" ∈ gWs) {x : Int} {v1 : gV} (hx : inR x) (hb : x = 0 ∨ x = 1) (hv : (rwW k ad) (va_up v 20 x) f g = (rwW k ad) v1 f g) (hv2 : va_up v 20 x = v1 ∨ gOk v1 f) (hdg : decode cc pc = .ok (.putfield idx, 3)) (kk : ∀ (H1 : Heap) (locs1 : List Loc), gWd D (rwW k ad) v1 f g H1 → va_S A H0 H1 locs1 → W p l e R s m args below meth c H1 locs1 cells slots Q (F0 m (pc + 3) ls rest)) : W p l e R s m args below meth c H locs cells slots Q (F0 m pc ls (.int (iI x) :: .ref (ad 9) :: rest)) := va_put (D := D) (ci := 3) (ty := .boolean) (C := RX3) (T := TX3) (N := 8) C.1 C.2.1 C.2.2.1 gLx3 tyX3 tyX3_ok nmX3 C.2.2.2.1 C.2.2.2.2 hP.1 (hD v f g) hS 9 rfl rfl 7 (by decide) (C.2.2.1 _ hm) (fun _ h9 => h9) rfl (by decide +kernel) (by rcases hb with rfl | rfl <;> rfl) (by rcases hb with rfl | rfl <;> rfl) (Nat.le_of_ble_eq_true rfl) hdg (fun H1 locs1 h1 _ h3 => kk H1 locs1 ⟨hv ▸ (show va_P D vwCl ((rwW k ad) (va_up v 20 x) f g) H1 from h1), hv2.elim (fun q => q ▸ gR_up hP.2 20 hx) id⟩ h3)
theorem rwG_reader_tokens_kinds (C : gC D k p s m args c cc own) (hP : gWd D (rwW k ad) v f g H) (hm : Cond.fieldLink own idx "RouteWall$Tokens" "kinds" "[I" ∈ gWs) (hdg : decode cc pc = .ok (.getfield idx, 3)) (kk : W p l e R s m args below meth c H locs cells slots Q (F0 m (pc + 3) ls (.ref (ad 11) :: rest))) : W p l e R s m args below meth c H locs cells slots Q (F0 m pc ls (.ref (ad 10) :: rest)) := va_get (D := D) (ci := 6) (C := RX6) (T := TX6) (N := 5) C.1 C.2.1 C.2.2.1 gLx6 C.2.2.2.1 C.2.2.2.2 hP.1 10 rfl rfl 0 (by decide) (C.2.2.1 _ hm) (fun _ h9 => h9) rfl hdg kk
theorem rwG_reader_tokens_places (C : gC D k p s m args c cc own) (hP : gWd D (rwW k ad) v f g H) (hm : Cond.fieldLink own idx "RouteWall$Tokens" "places" "[I" ∈ gWs) (hdg : decode cc pc = .ok (.getfield idx, 3)) (kk : W p l e R s m args below meth c H locs cells slots Q (F0 m (pc + 3) ls (.ref (ad 12) :: rest))) : W p l e R s m args below meth c H locs cells slots Q (F0 m pc ls (.ref (ad 10) :: rest)) := va_get (D := D) (ci := 6) (C := RX6) (T := TX6) (N := 5) C.1 C.2.1 C.2.2.1 gLx6 C.2.2.2.1 C.2.2.2.2 hP.1 10 rfl rfl 1 (by decide) (C.2.2.1 _ hm) (fun _ h9 => h9) rfl hdg kk
theorem rwG_reader_tokens_values (C : gC D k p s m args c cc own) (hP : gWd D (rwW k ad) v f g H) (hm : Cond.fieldLink own idx "RouteWall$Tokens" "values" "[I" ∈ gWs) (hdg : decode cc pc = .ok (.getfield idx, 3)) (kk : W p l e R s m args below meth c H locs cells slots Q (F0 m (pc + 3) ls (.ref (ad 13) :: rest))) : W p l e R s m args below meth c H locs cells slots Q (F0 m pc ls (.ref (ad 10) :: rest)) := va_get (D := D) (ci := 6) (C := RX6) (T := TX6) (N := 5) C.1 C.2.1 C.2.2.1 gLx6 C.2.2.2.1 C.2.2.2.2 hP.1 10 rfl rfl 2 (by decide) (C.2.2.1 _ hm) (fun _ h9 => h9) rfl hdg kk
theorem rwG_reader_tokens_many (C : gC D k p s m args c cc own) (hP : gWd D (rwW k ad) v f g H) (hm : Cond.fieldLink own idx "RouteWall$Tokens" "many" "I" ∈ gWs) (hdg : decode cc pc = .ok (.getfield idx, 3)) (kk : W p l e R s m args below meth c H locs cells slots Q (F0 m (pc + 3) ls (.int (iI (v 5)) :: rest))) : W p l e R s m args below meth c H locs cells slots Q (F0 m pc ls (.ref (ad 10) :: rest)) := va_get (D := D) (ci := 6) (C := RX6) (T := TX6) (N := 5) C.1 C.2.1 C.2.2.1 gLx6 C.2.2.2.1 C.2.2.2.2 hP.1 10 rfl rfl 3 (by decide) (C.2.2.1 _ hm) (fun _ h9 => h9) rfl hdg kk
theorem rwP_reader_tokens_many (C : gC D k p s m args c cc own) (hP : gWd D (rwW k ad) v f g H) (hD : rwD A k ad) (hS : va_S A H0 H locs) (hm : Cond.fieldLink own idx "RouteWall$Tokens" "many" "I" ∈ gWs) {x : Int} {v1 : gV} (hx : inR x) (hv : (rwW k ad) (va_up v 5 x) f g = (rwW k ad) v1 f g) (hv2 : va_up v 5 x = v1 ∨ gOk v1 f) (hdg : decode cc pc = .ok (.putfield idx, 3)) (kk : ∀ (H1 : Heap) (locs1 : List Loc), gWd D (rwW k ad) v1 f g H1 → va_S A H0 H1 locs1 → W p l e R s m args below meth c H1 locs1 cells slots Q (F0 m (pc + 3) ls rest)) : W p l e R s m args below meth c H locs cells slots Q (F0 m pc ls (.int (iI x) :: .ref (ad 10) :: rest)) := va_put (D := D) (ci := 6) (ty := .int) (C := RX6) (T := TX6) (N := 5) C.1 C.2.1 C.2.2.1 gLx6 tyX6 tyX6_ok nmX6 C.2.2.2.1 C.2.2.2.2 hP.1 (hD v f g) hS 10 rfl rfl 3 (by decide) (C.2.2.1 _ hm) (fun _ h9 => h9) rfl (by decide +kernel) rfl rfl (Nat.le_of_ble_eq_true rfl) hdg (fun H1 locs1 h1 _ h3 => kk H1 locs1 ⟨hv ▸ (show va_P D vwCl ((rwW k ad) (va_up v 5 x) f g) H1 from h1), hv2.elim (fun q => q ▸ gR_up hP.2 5 hx) id⟩ h3)
theorem rwG_reader_tokens_at (C : gC D k p s m args c cc own) (hP : gWd D (rwW k ad) v f g H) (hm : Cond.fieldLink own idx "RouteWall$Tokens" "at" "I" ∈ gWs) (hdg : decode cc pc = .ok (.getfield idx, 3)) (kk : W p l e R s m args below meth c H locs cells slots Q (F0 m (pc + 3) ls (.int (iI (v 6)) :: rest))) : W p l e R s m args below meth c H locs cells slots Q (F0 m pc ls (.ref (ad 10) :: rest)) := va_get (D := D) (ci := 6) (C := RX6) (T := TX6) (N := 5) C.1 C.2.1 C.2.2.1 gLx6 C.2.2.2.1 C.2.2.2.2 hP.1 10 rfl rfl 4 (by decide) (C.2.2.1 _ hm) (fun _ h9 => h9) rfl hdg kk
theorem rwP_reader_tokens_at (C : gC D k p s m args c cc own) (hP : gWd D (rwW k ad) v f g H) (hD : rwD A k ad) (hS : va_S A H0 H locs) (hm : Cond.fieldLink own idx "RouteWall$Tokens" "at" "I" ∈ gWs) {x : Int} {v1 : gV} (hx : inR x) (hv : (rwW k ad) (va_up v 6 x) f g = (rwW k ad) v1 f g) (hv2 : va_up v 6 x = v1 ∨ gOk v1 f) (hdg : decode cc pc = .ok (.putfield idx, 3)) (kk : ∀ (H1 : Heap) (locs1 : List Loc), gWd D (rwW k ad) v1 f g H1 → va_S A H0 H1 locs1 → W p l e R s m args below meth c H1 locs1 cells slots Q (F0 m (pc + 3) ls rest)) : W p l e R s m args below meth c H locs cells slots Q (F0 m pc ls (.int (iI x) :: .ref (ad 10) :: rest)) := va_put (D := D) (ci := 6) (ty := .int) (C := RX6) (T := TX6) (N := 5) C.1 C.2.1 C.2.2.1 gLx6 tyX6 tyX6_ok nmX6 C.2.2.2.1 C.2.2.2.2 hP.1 (hD v f g) hS 10 rfl rfl 4 (by decide) (C.2.2.1 _ hm) (fun _ h9 => h9) rfl (by decide +kernel) rfl rfl (Nat.le_of_ble_eq_true rfl) hdg (fun H1 locs1 h1 _ h3 => kk H1 locs1 ⟨hv ▸ (show va_P D vwCl ((rwW k ad) (va_up v 6 x) f g) H1 from h1), hv2.elim (fun q => q ▸ gR_up hP.2 6 hx) id⟩ h3)
theorem rwL_reader_tokens_kinds (C : gC D k p s m args c cc own) (hP : gWd D (rwW k ad) v f g H) {i : Int} (h0 : 0 ≤ i) (h1 : i < 701) (hdg : decode cc pc = .ok (.iaload, 1)) (kk : W p l e R s m args below meth c H locs cells slots Q (F0 m (pc + 1) ls (.int (iI (f 6 i)) :: rest))) : W p l e R s m args below meth c H locs cells slots Q (F0 m pc ls (.int (iI i) :: .ref (ad 11) :: rest)) := g_iald C hP.1 11 rfl (by decide) h0 h1 hdg kk
theorem rwS_reader_tokens_kinds (C : gC D k p s m args c cc own) (hP : gWd D (rwW k ad) v f g H) (hD : rwD A k ad) (hS : va_S A H0 H locs) {i x : Int} {f1 : gF} (h0 : 0 ≤ i) (h1 : i < 701) (hx : inR x) (hv : (rwW k ad) v (va_up f 6 (u1 (f 6) i x)) g = (rwW k ad) v f1 g) (hv2 : va_up f 6 (u1 (f 6) i x) = f1 ∨ gOk v f1) (hdg : decode cc pc = .ok (.iastore, 1)) (kk : ∀ (H1 : Heap) (locs1 : List Loc), gWd D (rwW k ad) v f1 g H1 → va_S A H0 H1 locs1 → W p l e R s m args below meth c H1 locs1 cells slots Q (F0 m (pc + 1) ls rest)) : W p l e R s m args below meth c H locs cells slots Q (F0 m pc ls (.int (iI x) :: .int (iI i) :: .ref (ad 11) :: rest)) := g_iast C hP.1 (hD v f g) hS 11 rfl (by decide) h0 h1 (ws' := (rwW k ad) v f1 g) (by rw [← hv]; rfl) hdg (fun H1 locs1 h1 h3 => kk H1 locs1 ⟨h1, hv2.elim (fun q => q ▸ gF_up hP.2 6 (u1_rng (hP.2.2 6) hx)) id⟩ h3)
theorem rwN_reader_tokens_kinds (C : gC D k p s m args c cc own) (hP : gWd D (rwW k ad) v f g H) (hdg : decode cc pc = .ok (.arraylength, 1)) (kk : W p l e R s m args below meth c H locs cells slots Q (F0 m (pc + 1) ls (.int (iI 701) :: rest))) : W p l e R s m args below meth c H locs cells slots Q (F0 m pc ls (.ref (ad 11) :: rest)) := va_alen (D := D) C.1 C.2.1 C.2.2.2.2 hP.1 11 0 rfl rfl (v := iI 701) rfl hdg kk
theorem rwL_reader_tokens_places (C : gC D k p s m args c cc own) (hP : gWd D (rwW k ad) v f g H) {i : Int} (h0 : 0 ≤ i) (h1 : i < 701) (hdg : decode cc pc = .ok (.iaload, 1)) (kk : W p l e R s m args below meth c H locs cells slots Q (F0 m (pc + 1) ls (.int (iI (f 7 i)) :: rest))) : W p l e R s m args below meth c H locs cells slots Q (F0 m pc ls (.int (iI i) :: .ref (ad 12) :: rest)) := g_iald C hP.1 12 rfl (by decide) h0 h1 hdg kk
theorem rwS_reader_tokens_places (C : gC D k p s m args c cc own) (hP : gWd D (rwW k ad) v f g H) (hD : rwD A k ad) (hS : va_S A H0 H locs) {i x : Int} {f1 : gF} (h0 : 0 ≤ i) (h1 : i < 701) (hx : inR x) (hv : (rwW k ad) v (va_up f 7 (u1 (f 7) i x)) g = (rwW k ad) v f1 g) (hv2 : va_up f 7 (u1 (f 7) i x) = f1 ∨ gOk v f1) (hdg : decode cc pc = .ok (.iastore, 1)) (kk : ∀ (H1 : Heap) (locs1 : List Loc), gWd D (rwW k ad) v f1 g H1 → va_S A H0 H1 locs1 → W p l e R s m args below meth c H1 locs1 cells slots Q (F0 m (pc + 1) ls rest)) : W p l e R s m args below meth c H locs cells slots Q (F0 m pc ls (.int (iI x) :: .int (iI i) :: .ref (ad 12) :: rest)) := g_iast C hP.1 (hD v f g) hS 12 rfl (by decide) h0 h1 (ws' := (rwW k ad) v f1 g) (by rw [← hv]; rfl) hdg (fun H1 locs1 h1 h3 => kk H1 locs1 ⟨h1, hv2.elim (fun q => q ▸ gF_up hP.2 7 (u1_rng (hP.2.2 7) hx)) id⟩ h3)
theorem rwN_reader_tokens_places (C : gC D k p s m args c cc own) (hP : gWd D (rwW k ad) v f g H) (hdg : decode cc pc = .ok (.arraylength, 1)) (kk : W p l e R s m args below meth c H locs cells slots Q (F0 m (pc + 1) ls (.int (iI 701) :: rest))) : W p l e R s m args below meth c H locs cells slots Q (F0 m pc ls (.ref (ad 12) :: rest)) := va_alen (D := D) C.1 C.2.1 C.2.2.2.2 hP.1 12 0 rfl rfl (v := iI 701) rfl hdg kk
theorem rwL_reader_tokens_values (C : gC D k p s m args c cc own) (hP : gWd D (rwW k ad) v f g H) {i : Int} (h0 : 0 ≤ i) (h1 : i < 701) (hdg : decode cc pc = .ok (.iaload, 1)) (kk : W p l e R s m args below meth c H locs cells slots Q (F0 m (pc + 1) ls (.int (iI (f 8 i)) :: rest))) : W p l e R s m args below meth c H locs cells slots Q (F0 m pc ls (.int (iI i) :: .ref (ad 13) :: rest)) := g_iald C hP.1 13 rfl (by decide) h0 h1 hdg kk
theorem rwS_reader_tokens_values (C : gC D k p s m args c cc own) (hP : gWd D (rwW k ad) v f g H) (hD : rwD A k ad) (hS : va_S A H0 H locs) {i x : Int} {f1 : gF} (h0 : 0 ≤ i) (h1 : i < 701) (hx : inR x) (hv : (rwW k ad) v (va_up f 8 (u1 (f 8) i x)) g = (rwW k ad) v f1 g) (hv2 : va_up f 8 (u1 (f 8) i x) = f1 ∨ gOk v f1) (hdg : decode cc pc = .ok (.iastore, 1)) (kk : ∀ (H1 : Heap) (locs1 : List Loc), gWd D (rwW k ad) v f1 g H1 → va_S A H0 H1 locs1 → W p l e R s m args below meth c H1 locs1 cells slots Q (F0 m (pc + 1) ls rest)) : W p l e R s m args below meth c H locs cells slots Q (F0 m pc ls (.int (iI x) :: .int (iI i) :: .ref (ad 13) :: rest)) := g_iast C hP.1 (hD v f g) hS 13 rfl (by decide) h0 h1 (ws' := (rwW k ad) v f1 g) (by rw [← hv]; rfl) hdg (fun H1 locs1 h1 h3 => kk H1 locs1 ⟨h1, hv2.elim (fun q => q ▸ gF_up hP.2 8 (u1_rng (hP.2.2 8) hx)) id⟩ h3)
theorem rwN_reader_tokens_values (C : gC D k p s m args c cc own) (hP : gWd D (rwW k ad) v f g H) (hdg : decode cc pc = .ok (.arraylength, 1)) (kk : W p l e R s m args below meth c H locs cells slots Q (F0 m (pc + 1) ls (.int (iI 701) :: rest))) : W p l e R s m args below meth c H locs cells slots Q (F0 m pc ls (.ref (ad 13) :: rest)) := va_alen (D := D) C.1 C.2.1 C.2.2.2.2 hP.1 13 0 rfl rfl (v := iI 701) rfl hdg kk
theorem rwG_reader_draft_rounds (C : gC D k p s m args c cc own) (hP : gWd D (rwW k ad) v f g H) (hm : Cond.fieldLink own idx "RouteWall$Laws" "rounds" "I" ∈ gWs) (hdg : decode cc pc = .ok (.getfield idx, 3)) (kk : W p l e R s m args below meth c H locs cells slots Q (F0 m (pc + 3) ls (.int (iI (v 7)) :: rest))) : W p l e R s m args below meth c H locs cells slots Q (F0 m pc ls (.ref (ad 14) :: rest)) := va_get (D := D) (ci := 4) (C := RX4) (T := TX4) (N := 10) C.1 C.2.1 C.2.2.1 gLx4 C.2.2.2.1 C.2.2.2.2 hP.1 14 rfl rfl 0 (by decide) (C.2.2.1 _ hm) (fun _ h9 => h9) rfl hdg kk
theorem rwP_reader_draft_rounds (C : gC D k p s m args c cc own) (hP : gWd D (rwW k ad) v f g H) (hD : rwD A k ad) (hS : va_S A H0 H locs) (hm : Cond.fieldLink own idx "RouteWall$Laws" "rounds" "I" ∈ gWs) {x : Int} {v1 : gV} (hx : inR x) (hv : (rwW k ad) (va_up v 7 x) f g = (rwW k ad) v1 f g) (hv2 : va_up v 7 x = v1 ∨ gOk v1 f) (hdg : decode cc pc = .ok (.putfield idx, 3)) (kk : ∀ (H1 : Heap) (locs1 : List Loc), gWd D (rwW k ad) v1 f g H1 → va_S A H0 H1 locs1 → W p l e R s m args below meth c H1 locs1 cells slots Q (F0 m (pc + 3) ls rest)) : W p l e R s m args below meth c H locs cells slots Q (F0 m pc ls (.int (iI x) :: .ref (ad 14) :: rest)) := va_put (D := D) (ci := 4) (ty := .int) (C := RX4) (T := TX4) (N := 10) C.1 C.2.1 C.2.2.1 gLx4 tyX4 tyX4_ok nmX4 C.2.2.2.1 C.2.2.2.2 hP.1 (hD v f g) hS 14 rfl rfl 0 (by decide) (C.2.2.1 _ hm) (fun _ h9 => h9) rfl (by decide +kernel) rfl rfl (Nat.le_of_ble_eq_true rfl) hdg (fun H1 locs1 h1 _ h3 => kk H1 locs1 ⟨hv ▸ (show va_P D vwCl ((rwW k ad) (va_up v 7 x) f g) H1 from h1), hv2.elim (fun q => q ▸ gR_up hP.2 7 hx) id⟩ h3)
theorem rwG_reader_draft_shape (C : gC D k p s m args c cc own) (hP : gWd D (rwW k ad) v f g H) (hm : Cond.fieldLink own idx "RouteWall$Laws" "shape" "[I" ∈ gWs) (hdg : decode cc pc = .ok (.getfield idx, 3)) (kk : W p l e R s m args below meth c H locs cells slots Q (F0 m (pc + 3) ls (.ref (ad 15) :: rest))) : W p l e R s m args below meth c H locs cells slots Q (F0 m pc ls (.ref (ad 14) :: rest)) := va_get (D := D) (ci := 4) (C := RX4) (T := TX4) (N := 10) C.1 C.2.1 C.2.2.1 gLx4 C.2.2.2.1 C.2.2.2.2 hP.1 14 rfl rfl 1 (by decide) (C.2.2.1 _ hm) (fun _ h9 => h9) rfl hdg kk
theorem rwG_reader_draft_item (C : gC D k p s m args c cc own) (hP : gWd D (rwW k ad) v f g H) (hm : Cond.fieldLink own idx "RouteWall$Laws" "item" "[I" ∈ gWs) (hdg : decode cc pc = .ok (.getfield idx, 3)) (kk : W p l e R s m args below meth c H locs cells slots Q (F0 m (pc + 3) ls (.ref (ad 16) :: rest))) : W p l e R s m args below meth c H locs cells slots Q (F0 m pc ls (.ref (ad 14) :: rest)) := va_get (D := D) (ci := 4) (C := RX4) (T := TX4) (N := 10) C.1 C.2.1 C.2.2.1 gLx4 C.2.2.2.1 C.2.2.2.2 hP.1 14 rfl rfl 2 (by decide) (C.2.2.1 _ hm) (fun _ h9 => h9) rfl hdg kk
theorem rwG_reader_draft_number (C : gC D k p s m args c cc own) (hP : gWd D (rwW k ad) v f g H) (hm : Cond.fieldLink own idx "RouteWall$Laws" "number" "[I" ∈ gWs) (hdg : decode cc pc = .ok (.getfield idx, 3)) (kk : W p l e R s m args below meth c H locs cells slots Q (F0 m (pc + 3) ls (.ref (ad 17) :: rest))) : W p l e R s m args below meth c H locs cells slots Q (F0 m pc ls (.ref (ad 14) :: rest)) := va_get (D := D) (ci := 4) (C := RX4) (T := TX4) (N := 10) C.1 C.2.1 C.2.2.1 gLx4 C.2.2.2.1 C.2.2.2.2 hP.1 14 rfl rfl 3 (by decide) (C.2.2.1 _ hm) (fun _ h9 => h9) rfl hdg kk
theorem rwG_reader_draft_items (C : gC D k p s m args c cc own) (hP : gWd D (rwW k ad) v f g H) (hm : Cond.fieldLink own idx "RouteWall$Laws" "items" "I" ∈ gWs) (hdg : decode cc pc = .ok (.getfield idx, 3)) (kk : W p l e R s m args below meth c H locs cells slots Q (F0 m (pc + 3) ls (.int (iI (v 8)) :: rest))) : W p l e R s m args below meth c H locs cells slots Q (F0 m pc ls (.ref (ad 14) :: rest)) := va_get (D := D) (ci := 4) (C := RX4) (T := TX4) (N := 10) C.1 C.2.1 C.2.2.1 gLx4 C.2.2.2.1 C.2.2.2.2 hP.1 14 rfl rfl 4 (by decide) (C.2.2.1 _ hm) (fun _ h9 => h9) rfl hdg kk
theorem rwP_reader_draft_items (C : gC D k p s m args c cc own) (hP : gWd D (rwW k ad) v f g H) (hD : rwD A k ad) (hS : va_S A H0 H locs) (hm : Cond.fieldLink own idx "RouteWall$Laws" "items" "I" ∈ gWs) {x : Int} {v1 : gV} (hx : inR x) (hv : (rwW k ad) (va_up v 8 x) f g = (rwW k ad) v1 f g) (hv2 : va_up v 8 x = v1 ∨ gOk v1 f) (hdg : decode cc pc = .ok (.putfield idx, 3)) (kk : ∀ (H1 : Heap) (locs1 : List Loc), gWd D (rwW k ad) v1 f g H1 → va_S A H0 H1 locs1 → W p l e R s m args below meth c H1 locs1 cells slots Q (F0 m (pc + 3) ls rest)) : W p l e R s m args below meth c H locs cells slots Q (F0 m pc ls (.int (iI x) :: .ref (ad 14) :: rest)) := va_put (D := D) (ci := 4) (ty := .int) (C := RX4) (T := TX4) (N := 10) C.1 C.2.1 C.2.2.1 gLx4 tyX4 tyX4_ok nmX4 C.2.2.2.1 C.2.2.2.2 hP.1 (hD v f g) hS 14 rfl rfl 4 (by decide) (C.2.2.1 _ hm) (fun _ h9 => h9) rfl (by decide +kernel) rfl rfl (Nat.le_of_ble_eq_true rfl) hdg (fun H1 locs1 h1 _ h3 => kk H1 locs1 ⟨hv ▸ (show va_P D vwCl ((rwW k ad) (va_up v 8 x) f g) H1 from h1), hv2.elim (fun q => q ▸ gR_up hP.2 8 hx) id⟩ h3)
theorem rwG_reader_draft_keyKind (C : gC D k p s m args c cc own) (hP : gWd D (rwW k ad) v f g H) (hm : Cond.fieldLink own idx "RouteWall$Laws" "keyKind" "[I" ∈ gWs) (hdg : decode cc pc = .ok (.getfield idx, 3)) (kk : W p l e R s m args below meth c H locs cells slots Q (F0 m (pc + 3) ls (.ref (ad 18) :: rest))) : W p l e R s m args below meth c H locs cells slots Q (F0 m pc ls (.ref (ad 14) :: rest)) := va_get (D := D) (ci := 4) (C := RX4) (T := TX4) (N := 10) C.1 C.2.1 C.2.2.1 gLx4 C.2.2.2.1 C.2.2.2.2 hP.1 14 rfl rfl 5 (by decide) (C.2.2.1 _ hm) (fun _ h9 => h9) rfl hdg kk
theorem rwG_reader_draft_keyDown (C : gC D k p s m args c cc own) (hP : gWd D (rwW k ad) v f g H) (hm : Cond.fieldLink own idx "RouteWall$Laws" "keyDown" "[I" ∈ gWs) (hdg : decode cc pc = .ok (.getfield idx, 3)) (kk : W p l e R s m args below meth c H locs cells slots Q (F0 m (pc + 3) ls (.ref (ad 19) :: rest))) : W p l e R s m args below meth c H locs cells slots Q (F0 m pc ls (.ref (ad 14) :: rest)) := va_get (D := D) (ci := 4) (C := RX4) (T := TX4) (N := 10) C.1 C.2.1 C.2.2.1 gLx4 C.2.2.2.1 C.2.2.2.2 hP.1 14 rfl rfl 6 (by decide) (C.2.2.1 _ hm) (fun _ h9 => h9) rfl hdg kk
theorem rwG_reader_draft_keys (C : gC D k p s m args c cc own) (hP : gWd D (rwW k ad) v f g H) (hm : Cond.fieldLink own idx "RouteWall$Laws" "keys" "I" ∈ gWs) (hdg : decode cc pc = .ok (.getfield idx, 3)) (kk : W p l e R s m args below meth c H locs cells slots Q (F0 m (pc + 3) ls (.int (iI (v 9)) :: rest))) : W p l e R s m args below meth c H locs cells slots Q (F0 m pc ls (.ref (ad 14) :: rest)) := va_get (D := D) (ci := 4) (C := RX4) (T := TX4) (N := 10) C.1 C.2.1 C.2.2.1 gLx4 C.2.2.2.1 C.2.2.2.2 hP.1 14 rfl rfl 7 (by decide) (C.2.2.1 _ hm) (fun _ h9 => h9) rfl hdg kk
theorem rwP_reader_draft_keys (C : gC D k p s m args c cc own) (hP : gWd D (rwW k ad) v f g H) (hD : rwD A k ad) (hS : va_S A H0 H locs) (hm : Cond.fieldLink own idx "RouteWall$Laws" "keys" "I" ∈ gWs) {x : Int} {v1 : gV} (hx : inR x) (hv : (rwW k ad) (va_up v 9 x) f g = (rwW k ad) v1 f g) (hv2 : va_up v 9 x = v1 ∨ gOk v1 f) (hdg : decode cc pc = .ok (.putfield idx, 3)) (kk : ∀ (H1 : Heap) (locs1 : List Loc), gWd D (rwW k ad) v1 f g H1 → va_S A H0 H1 locs1 → W p l e R s m args below meth c H1 locs1 cells slots Q (F0 m (pc + 3) ls rest)) : W p l e R s m args below meth c H locs cells slots Q (F0 m pc ls (.int (iI x) :: .ref (ad 14) :: rest)) := va_put (D := D) (ci := 4) (ty := .int) (C := RX4) (T := TX4) (N := 10) C.1 C.2.1 C.2.2.1 gLx4 tyX4 tyX4_ok nmX4 C.2.2.2.1 C.2.2.2.2 hP.1 (hD v f g) hS 14 rfl rfl 7 (by decide) (C.2.2.1 _ hm) (fun _ h9 => h9) rfl (by decide +kernel) rfl rfl (Nat.le_of_ble_eq_true rfl) hdg (fun H1 locs1 h1 _ h3 => kk H1 locs1 ⟨hv ▸ (show va_P D vwCl ((rwW k ad) (va_up v 9 x) f g) H1 from h1), hv2.elim (fun q => q ▸ gR_up hP.2 9 hx) id⟩ h3)
theorem rwG_reader_draft_back (C : gC D k p s m args c cc own) (hP : gWd D (rwW k ad) v f g H) (hm : Cond.fieldLink own idx "RouteWall$Laws" "back" "Z" ∈ gWs) (hdg : decode cc pc = .ok (.getfield idx, 3)) (kk : W p l e R s m args below meth c H locs cells slots Q (F0 m (pc + 3) ls (.int (iI (v 10)) :: rest))) : W p l e R s m args below meth c H locs cells slots Q (F0 m pc ls (.ref (ad 14) :: rest)) := va_get (D := D) (ci := 4) (C := RX4) (T := TX4) (N := 10) C.1 C.2.1 C.2.2.1 gLx4 C.2.2.2.1 C.2.2.2.2 hP.1 14 rfl rfl 8 (by decide) (C.2.2.1 _ hm) (fun _ h9 => h9) rfl hdg kk
theorem rwP_reader_draft_back (C : gC D k p s m args c cc own) (hP : gWd D (rwW k ad) v f g H) (hD : rwD A k ad) (hS : va_S A H0 H locs) (hm : Cond.fieldLink own idx "RouteWall$Laws" "back" "Z" ∈ gWs) {x : Int} {v1 : gV} (hx : inR x) (hb : x = 0 ∨ x = 1) (hv : (rwW k ad) (va_up v 10 x) f g = (rwW k ad) v1 f g) (hv2 : va_up v 10 x = v1 ∨ gOk v1 f) (hdg : decode cc pc = .ok (.putfield idx, 3)) (kk : ∀ (H1 : Heap) (locs1 : List Loc), gWd D (rwW k ad) v1 f g H1 → va_S A H0 H1 locs1 → W p l e R s m args below meth c H1 locs1 cells slots Q (F0 m (pc + 3) ls rest)) : W p l e R s m args below meth c H locs cells slots Q (F0 m pc ls (.int (iI x) :: .ref (ad 14) :: rest)) := va_put (D := D) (ci := 4) (ty := .boolean) (C := RX4) (T := TX4) (N := 10) C.1 C.2.1 C.2.2.1 gLx4 tyX4 tyX4_ok nmX4 C.2.2.2.1 C.2.2.2.2 hP.1 (hD v f g) hS 14 rfl rfl 8 (by decide) (C.2.2.1 _ hm) (fun _ h9 => h9) rfl (by decide +kernel) (by rcases hb with rfl | rfl <;> rfl) (by rcases hb with rfl | rfl <;> rfl) (Nat.le_of_ble_eq_true rfl) hdg (fun H1 locs1 h1 _ h3 => kk H1 locs1 ⟨hv ▸ (show va_P D vwCl ((rwW k ad) (va_up v 10 x) f g) H1 from h1), hv2.elim (fun q => q ▸ gR_up hP.2 10 hx) id⟩ h3)
theorem rwG_reader_draft_stack (C : gC D k p s m args c cc own) (hP : gWd D (rwW k ad) v f g H) (hm : Cond.fieldLink own idx "RouteWall$Laws" "stack" "[J" ∈ gWs) (hdg : decode cc pc = .ok (.getfield idx, 3)) (kk : W p l e R s m args below meth c H locs cells slots Q (F0 m (pc + 3) ls (.ref (ad 20) :: rest))) : W p l e R s m args below meth c H locs cells slots Q (F0 m pc ls (.ref (ad 14) :: rest)) := va_get (D := D) (ci := 4) (C := RX4) (T := TX4) (N := 10) C.1 C.2.1 C.2.2.1 gLx4 C.2.2.2.1 C.2.2.2.2 hP.1 14 rfl rfl 9 (by decide) (C.2.2.1 _ hm) (fun _ h9 => h9) rfl hdg kk
theorem rwL_reader_draft_shape (C : gC D k p s m args c cc own) (hP : gWd D (rwW k ad) v f g H) {i : Int} (h0 : 0 ≤ i) (h1 : i < 16) (hdg : decode cc pc = .ok (.iaload, 1)) (kk : W p l e R s m args below meth c H locs cells slots Q (F0 m (pc + 1) ls (.int (iI (f 9 i)) :: rest))) : W p l e R s m args below meth c H locs cells slots Q (F0 m pc ls (.int (iI i) :: .ref (ad 15) :: rest)) := g_iald C hP.1 15 rfl (by decide) h0 h1 hdg kk
theorem rwS_reader_draft_shape (C : gC D k p s m args c cc own) (hP : gWd D (rwW k ad) v f g H) (hD : rwD A k ad) (hS : va_S A H0 H locs) {i x : Int} {f1 : gF} (h0 : 0 ≤ i) (h1 : i < 16) (hx : inR x) (hv : (rwW k ad) v (va_up f 9 (u1 (f 9) i x)) g = (rwW k ad) v f1 g) (hv2 : va_up f 9 (u1 (f 9) i x) = f1 ∨ gOk v f1) (hdg : decode cc pc = .ok (.iastore, 1)) (kk : ∀ (H1 : Heap) (locs1 : List Loc), gWd D (rwW k ad) v f1 g H1 → va_S A H0 H1 locs1 → W p l e R s m args below meth c H1 locs1 cells slots Q (F0 m (pc + 1) ls rest)) : W p l e R s m args below meth c H locs cells slots Q (F0 m pc ls (.int (iI x) :: .int (iI i) :: .ref (ad 15) :: rest)) := g_iast C hP.1 (hD v f g) hS 15 rfl (by decide) h0 h1 (ws' := (rwW k ad) v f1 g) (by rw [← hv]; rfl) hdg (fun H1 locs1 h1 h3 => kk H1 locs1 ⟨h1, hv2.elim (fun q => q ▸ gF_up hP.2 9 (u1_rng (hP.2.2 9) hx)) id⟩ h3)
theorem rwN_reader_draft_shape (C : gC D k p s m args c cc own) (hP : gWd D (rwW k ad) v f g H) (hdg : decode cc pc = .ok (.arraylength, 1)) (kk : W p l e R s m args below meth c H locs cells slots Q (F0 m (pc + 1) ls (.int (iI 16) :: rest))) : W p l e R s m args below meth c H locs cells slots Q (F0 m pc ls (.ref (ad 15) :: rest)) := va_alen (D := D) C.1 C.2.1 C.2.2.2.2 hP.1 15 0 rfl rfl (v := iI 16) rfl hdg kk
theorem rwL_reader_draft_item (C : gC D k p s m args c cc own) (hP : gWd D (rwW k ad) v f g H) {i : Int} (h0 : 0 ≤ i) (h1 : i < 40) (hdg : decode cc pc = .ok (.iaload, 1)) (kk : W p l e R s m args below meth c H locs cells slots Q (F0 m (pc + 1) ls (.int (iI (f 10 i)) :: rest))) : W p l e R s m args below meth c H locs cells slots Q (F0 m pc ls (.int (iI i) :: .ref (ad 16) :: rest)) := g_iald C hP.1 16 rfl (by decide) h0 h1 hdg kk
theorem rwS_reader_draft_item (C : gC D k p s m args c cc own) (hP : gWd D (rwW k ad) v f g H) (hD : rwD A k ad) (hS : va_S A H0 H locs) {i x : Int} {f1 : gF} (h0 : 0 ≤ i) (h1 : i < 40) (hx : inR x) (hv : (rwW k ad) v (va_up f 10 (u1 (f 10) i x)) g = (rwW k ad) v f1 g) (hv2 : va_up f 10 (u1 (f 10) i x) = f1 ∨ gOk v f1) (hdg : decode cc pc = .ok (.iastore, 1)) (kk : ∀ (H1 : Heap) (locs1 : List Loc), gWd D (rwW k ad) v f1 g H1 → va_S A H0 H1 locs1 → W p l e R s m args below meth c H1 locs1 cells slots Q (F0 m (pc + 1) ls rest)) : W p l e R s m args below meth c H locs cells slots Q (F0 m pc ls (.int (iI x) :: .int (iI i) :: .ref (ad 16) :: rest)) := g_iast C hP.1 (hD v f g) hS 16 rfl (by decide) h0 h1 (ws' := (rwW k ad) v f1 g) (by rw [← hv]; rfl) hdg (fun H1 locs1 h1 h3 => kk H1 locs1 ⟨h1, hv2.elim (fun q => q ▸ gF_up hP.2 10 (u1_rng (hP.2.2 10) hx)) id⟩ h3)
theorem rwN_reader_draft_item (C : gC D k p s m args c cc own) (hP : gWd D (rwW k ad) v f g H) (hdg : decode cc pc = .ok (.arraylength, 1)) (kk : W p l e R s m args below meth c H locs cells slots Q (F0 m (pc + 1) ls (.int (iI 40) :: rest))) : W p l e R s m args below meth c H locs cells slots Q (F0 m pc ls (.ref (ad 16) :: rest)) := va_alen (D := D) C.1 C.2.1 C.2.2.2.2 hP.1 16 0 rfl rfl (v := iI 40) rfl hdg kk
theorem rwL_reader_draft_number (C : gC D k p s m args c cc own) (hP : gWd D (rwW k ad) v f g H) {i : Int} (h0 : 0 ≤ i) (h1 : i < 40) (hdg : decode cc pc = .ok (.iaload, 1)) (kk : W p l e R s m args below meth c H locs cells slots Q (F0 m (pc + 1) ls (.int (iI (f 11 i)) :: rest))) : W p l e R s m args below meth c H locs cells slots Q (F0 m pc ls (.int (iI i) :: .ref (ad 17) :: rest)) := g_iald C hP.1 17 rfl (by decide) h0 h1 hdg kk
theorem rwS_reader_draft_number (C : gC D k p s m args c cc own) (hP : gWd D (rwW k ad) v f g H) (hD : rwD A k ad) (hS : va_S A H0 H locs) {i x : Int} {f1 : gF} (h0 : 0 ≤ i) (h1 : i < 40) (hx : inR x) (hv : (rwW k ad) v (va_up f 11 (u1 (f 11) i x)) g = (rwW k ad) v f1 g) (hv2 : va_up f 11 (u1 (f 11) i x) = f1 ∨ gOk v f1) (hdg : decode cc pc = .ok (.iastore, 1)) (kk : ∀ (H1 : Heap) (locs1 : List Loc), gWd D (rwW k ad) v f1 g H1 → va_S A H0 H1 locs1 → W p l e R s m args below meth c H1 locs1 cells slots Q (F0 m (pc + 1) ls rest)) : W p l e R s m args below meth c H locs cells slots Q (F0 m pc ls (.int (iI x) :: .int (iI i) :: .ref (ad 17) :: rest)) := g_iast C hP.1 (hD v f g) hS 17 rfl (by decide) h0 h1 (ws' := (rwW k ad) v f1 g) (by rw [← hv]; rfl) hdg (fun H1 locs1 h1 h3 => kk H1 locs1 ⟨h1, hv2.elim (fun q => q ▸ gF_up hP.2 11 (u1_rng (hP.2.2 11) hx)) id⟩ h3)
theorem rwN_reader_draft_number (C : gC D k p s m args c cc own) (hP : gWd D (rwW k ad) v f g H) (hdg : decode cc pc = .ok (.arraylength, 1)) (kk : W p l e R s m args below meth c H locs cells slots Q (F0 m (pc + 1) ls (.int (iI 40) :: rest))) : W p l e R s m args below meth c H locs cells slots Q (F0 m pc ls (.ref (ad 17) :: rest)) := va_alen (D := D) C.1 C.2.1 C.2.2.2.2 hP.1 17 0 rfl rfl (v := iI 40) rfl hdg kk
theorem rwL_reader_draft_keyKind (C : gC D k p s m args c cc own) (hP : gWd D (rwW k ad) v f g H) {i : Int} (h0 : 0 ≤ i) (h1 : i < 4) (hdg : decode cc pc = .ok (.iaload, 1)) (kk : W p l e R s m args below meth c H locs cells slots Q (F0 m (pc + 1) ls (.int (iI (f 12 i)) :: rest))) : W p l e R s m args below meth c H locs cells slots Q (F0 m pc ls (.int (iI i) :: .ref (ad 18) :: rest)) := g_iald C hP.1 18 rfl (by decide) h0 h1 hdg kk
theorem rwS_reader_draft_keyKind (C : gC D k p s m args c cc own) (hP : gWd D (rwW k ad) v f g H) (hD : rwD A k ad) (hS : va_S A H0 H locs) {i x : Int} {f1 : gF} (h0 : 0 ≤ i) (h1 : i < 4) (hx : inR x) (hv : (rwW k ad) v (va_up f 12 (u1 (f 12) i x)) g = (rwW k ad) v f1 g) (hv2 : va_up f 12 (u1 (f 12) i x) = f1 ∨ gOk v f1) (hdg : decode cc pc = .ok (.iastore, 1)) (kk : ∀ (H1 : Heap) (locs1 : List Loc), gWd D (rwW k ad) v f1 g H1 → va_S A H0 H1 locs1 → W p l e R s m args below meth c H1 locs1 cells slots Q (F0 m (pc + 1) ls rest)) : W p l e R s m args below meth c H locs cells slots Q (F0 m pc ls (.int (iI x) :: .int (iI i) :: .ref (ad 18) :: rest)) := g_iast C hP.1 (hD v f g) hS 18 rfl (by decide) h0 h1 (ws' := (rwW k ad) v f1 g) (by rw [← hv]; rfl) hdg (fun H1 locs1 h1 h3 => kk H1 locs1 ⟨h1, hv2.elim (fun q => q ▸ gF_up hP.2 12 (u1_rng (hP.2.2 12) hx)) id⟩ h3)
theorem rwN_reader_draft_keyKind (C : gC D k p s m args c cc own) (hP : gWd D (rwW k ad) v f g H) (hdg : decode cc pc = .ok (.arraylength, 1)) (kk : W p l e R s m args below meth c H locs cells slots Q (F0 m (pc + 1) ls (.int (iI 4) :: rest))) : W p l e R s m args below meth c H locs cells slots Q (F0 m pc ls (.ref (ad 18) :: rest)) := va_alen (D := D) C.1 C.2.1 C.2.2.2.2 hP.1 18 0 rfl rfl (v := iI 4) rfl hdg kk
theorem rwL_reader_draft_keyDown (C : gC D k p s m args c cc own) (hP : gWd D (rwW k ad) v f g H) {i : Int} (h0 : 0 ≤ i) (h1 : i < 4) (hdg : decode cc pc = .ok (.iaload, 1)) (kk : W p l e R s m args below meth c H locs cells slots Q (F0 m (pc + 1) ls (.int (iI (f 13 i)) :: rest))) : W p l e R s m args below meth c H locs cells slots Q (F0 m pc ls (.int (iI i) :: .ref (ad 19) :: rest)) := g_iald C hP.1 19 rfl (by decide) h0 h1 hdg kk
theorem rwS_reader_draft_keyDown (C : gC D k p s m args c cc own) (hP : gWd D (rwW k ad) v f g H) (hD : rwD A k ad) (hS : va_S A H0 H locs) {i x : Int} {f1 : gF} (h0 : 0 ≤ i) (h1 : i < 4) (hx : inR x) (hv : (rwW k ad) v (va_up f 13 (u1 (f 13) i x)) g = (rwW k ad) v f1 g) (hv2 : va_up f 13 (u1 (f 13) i x) = f1 ∨ gOk v f1) (hdg : decode cc pc = .ok (.iastore, 1)) (kk : ∀ (H1 : Heap) (locs1 : List Loc), gWd D (rwW k ad) v f1 g H1 → va_S A H0 H1 locs1 → W p l e R s m args below meth c H1 locs1 cells slots Q (F0 m (pc + 1) ls rest)) : W p l e R s m args below meth c H locs cells slots Q (F0 m pc ls (.int (iI x) :: .int (iI i) :: .ref (ad 19) :: rest)) := g_iast C hP.1 (hD v f g) hS 19 rfl (by decide) h0 h1 (ws' := (rwW k ad) v f1 g) (by rw [← hv]; rfl) hdg (fun H1 locs1 h1 h3 => kk H1 locs1 ⟨h1, hv2.elim (fun q => q ▸ gF_up hP.2 13 (u1_rng (hP.2.2 13) hx)) id⟩ h3)
theorem rwN_reader_draft_keyDown (C : gC D k p s m args c cc own) (hP : gWd D (rwW k ad) v f g H) (hdg : decode cc pc = .ok (.arraylength, 1)) (kk : W p l e R s m args below meth c H locs cells slots Q (F0 m (pc + 1) ls (.int (iI 4) :: rest))) : W p l e R s m args below meth c H locs cells slots Q (F0 m pc ls (.ref (ad 19) :: rest)) := va_alen (D := D) C.1 C.2.1 C.2.2.2.2 hP.1 19 0 rfl rfl (v := iI 4) rfl hdg kk
theorem rwL_reader_draft_stack (C : gC D k p s m args c cc own) (hP : gWd D (rwW k ad) v f g H) {i : Int} (h0 : 0 ≤ i) (h1 : i < 40) (hdg : decode cc pc = .ok (.laload, 1)) (kk : W p l e R s m args below meth c H locs cells slots Q (F0 m (pc + 1) ls (.long (iL (g 1 i)) :: rest))) : W p l e R s m args below meth c H locs cells slots Q (F0 m pc ls (.int (iI i) :: .ref (ad 20) :: rest)) := g_lald C hP.1 20 rfl (by decide) h0 h1 hdg kk
theorem rwS_reader_draft_stack (C : gC D k p s m args c cc own) (hP : gWd D (rwW k ad) v f g H) (hD : rwD A k ad) (hS : va_S A H0 H locs) {i x : Int} {g1 : gF} (h0 : 0 ≤ i) (h1 : i < 40) (hv : (rwW k ad) v f (va_up g 1 (u1 (g 1) i x)) = (rwW k ad) v f g1) (hdg : decode cc pc = .ok (.lastore, 1)) (kk : ∀ (H1 : Heap) (locs1 : List Loc), gWd D (rwW k ad) v f g1 H1 → va_S A H0 H1 locs1 → W p l e R s m args below meth c H1 locs1 cells slots Q (F0 m (pc + 1) ls rest)) : W p l e R s m args below meth c H locs cells slots Q (F0 m pc ls (.long (iL x) :: .int (iI i) :: .ref (ad 20) :: rest)) := g_last C hP.1 (hD v f g) hS 20 rfl (by decide) h0 h1 (ws' := (rwW k ad) v f g1) (by rw [← hv]; rfl) hdg (fun H1 locs1 h1 h3 => kk H1 locs1 ⟨h1, hP.2⟩ h3)
theorem rwN_reader_draft_stack (C : gC D k p s m args c cc own) (hP : gWd D (rwW k ad) v f g H) (hdg : decode cc pc = .ok (.arraylength, 1)) (kk : W p l e R s m args below meth c H locs cells slots Q (F0 m (pc + 1) ls (.int (iI 40) :: rest))) : W p l e R s m args below meth c H locs cells slots Q (F0 m pc ls (.ref (ad 20) :: rest)) := va_alen (D := D) C.1 C.2.1 C.2.2.2.2 hP.1 20 1 rfl rfl (v := iI 40) rfl hdg kk
theorem rwG_reader_expression_waiting (C : gC D k p s m args c cc own) (hP : gWd D (rwW k ad) v f g H) (hm : Cond.fieldLink own idx "RouteWall$Expression" "waiting" "[I" ∈ gWs) (hdg : decode cc pc = .ok (.getfield idx, 3)) (kk : W p l e R s m args below meth c H locs cells slots Q (F0 m (pc + 3) ls (.ref (ad 22) :: rest))) : W p l e R s m args below meth c H locs cells slots Q (F0 m pc ls (.ref (ad 21) :: rest)) := va_get (D := D) (ci := 1) (C := RX1) (T := TX1) (N := 6) C.1 C.2.1 C.2.2.1 gLx1 C.2.2.2.1 C.2.2.2.2 hP.1 21 rfl rfl 0 (by decide) (C.2.2.1 _ hm) (fun _ h9 => h9) rfl hdg kk
theorem rwG_reader_expression_waits (C : gC D k p s m args c cc own) (hP : gWd D (rwW k ad) v f g H) (hm : Cond.fieldLink own idx "RouteWall$Expression" "waits" "I" ∈ gWs) (hdg : decode cc pc = .ok (.getfield idx, 3)) (kk : W p l e R s m args below meth c H locs cells slots Q (F0 m (pc + 3) ls (.int (iI (v 11)) :: rest))) : W p l e R s m args below meth c H locs cells slots Q (F0 m pc ls (.ref (ad 21) :: rest)) := va_get (D := D) (ci := 1) (C := RX1) (T := TX1) (N := 6) C.1 C.2.1 C.2.2.1 gLx1 C.2.2.2.1 C.2.2.2.2 hP.1 21 rfl rfl 1 (by decide) (C.2.2.1 _ hm) (fun _ h9 => h9) rfl hdg kk
theorem rwP_reader_expression_waits (C : gC D k p s m args c cc own) (hP : gWd D (rwW k ad) v f g H) (hD : rwD A k ad) (hS : va_S A H0 H locs) (hm : Cond.fieldLink own idx "RouteWall$Expression" "waits" "I" ∈ gWs) {x : Int} {v1 : gV} (hx : inR x) (hv : (rwW k ad) (va_up v 11 x) f g = (rwW k ad) v1 f g) (hv2 : va_up v 11 x = v1 ∨ gOk v1 f) (hdg : decode cc pc = .ok (.putfield idx, 3)) (kk : ∀ (H1 : Heap) (locs1 : List Loc), gWd D (rwW k ad) v1 f g H1 → va_S A H0 H1 locs1 → W p l e R s m args below meth c H1 locs1 cells slots Q (F0 m (pc + 3) ls rest)) : W p l e R s m args below meth c H locs cells slots Q (F0 m pc ls (.int (iI x) :: .ref (ad 21) :: rest)) := va_put (D := D) (ci := 1) (ty := .int) (C := RX1) (T := TX1) (N := 6) C.1 C.2.1 C.2.2.1 gLx1 tyX1 tyX1_ok nmX1 C.2.2.2.1 C.2.2.2.2 hP.1 (hD v f g) hS 21 rfl rfl 1 (by decide) (C.2.2.1 _ hm) (fun _ h9 => h9) rfl (by decide +kernel) rfl rfl (Nat.le_of_ble_eq_true rfl) hdg (fun H1 locs1 h1 _ h3 => kk H1 locs1 ⟨hv ▸ (show va_P D vwCl ((rwW k ad) (va_up v 11 x) f g) H1 from h1), hv2.elim (fun q => q ▸ gR_up hP.2 11 hx) id⟩ h3)
theorem rwG_reader_expression_nested (C : gC D k p s m args c cc own) (hP : gWd D (rwW k ad) v f g H) (hm : Cond.fieldLink own idx "RouteWall$Expression" "nested" "I" ∈ gWs) (hdg : decode cc pc = .ok (.getfield idx, 3)) (kk : W p l e R s m args below meth c H locs cells slots Q (F0 m (pc + 3) ls (.int (iI (v 12)) :: rest))) : W p l e R s m args below meth c H locs cells slots Q (F0 m pc ls (.ref (ad 21) :: rest)) := va_get (D := D) (ci := 1) (C := RX1) (T := TX1) (N := 6) C.1 C.2.1 C.2.2.1 gLx1 C.2.2.2.1 C.2.2.2.2 hP.1 21 rfl rfl 2 (by decide) (C.2.2.1 _ hm) (fun _ h9 => h9) rfl hdg kk
theorem rwP_reader_expression_nested (C : gC D k p s m args c cc own) (hP : gWd D (rwW k ad) v f g H) (hD : rwD A k ad) (hS : va_S A H0 H locs) (hm : Cond.fieldLink own idx "RouteWall$Expression" "nested" "I" ∈ gWs) {x : Int} {v1 : gV} (hx : inR x) (hv : (rwW k ad) (va_up v 12 x) f g = (rwW k ad) v1 f g) (hv2 : va_up v 12 x = v1 ∨ gOk v1 f) (hdg : decode cc pc = .ok (.putfield idx, 3)) (kk : ∀ (H1 : Heap) (locs1 : List Loc), gWd D (rwW k ad) v1 f g H1 → va_S A H0 H1 locs1 → W p l e R s m args below meth c H1 locs1 cells slots Q (F0 m (pc + 3) ls rest)) : W p l e R s m args below meth c H locs cells slots Q (F0 m pc ls (.int (iI x) :: .ref (ad 21) :: rest)) := va_put (D := D) (ci := 1) (ty := .int) (C := RX1) (T := TX1) (N := 6) C.1 C.2.1 C.2.2.1 gLx1 tyX1 tyX1_ok nmX1 C.2.2.2.1 C.2.2.2.2 hP.1 (hD v f g) hS 21 rfl rfl 2 (by decide) (C.2.2.1 _ hm) (fun _ h9 => h9) rfl (by decide +kernel) rfl rfl (Nat.le_of_ble_eq_true rfl) hdg (fun H1 locs1 h1 _ h3 => kk H1 locs1 ⟨hv ▸ (show va_P D vwCl ((rwW k ad) (va_up v 12 x) f g) H1 from h1), hv2.elim (fun q => q ▸ gR_up hP.2 12 hx) id⟩ h3)
theorem rwG_reader_expression_parens (C : gC D k p s m args c cc own) (hP : gWd D (rwW k ad) v f g H) (hm : Cond.fieldLink own idx "RouteWall$Expression" "parens" "I" ∈ gWs) (hdg : decode cc pc = .ok (.getfield idx, 3)) (kk : W p l e R s m args below meth c H locs cells slots Q (F0 m (pc + 3) ls (.int (iI (v 13)) :: rest))) : W p l e R s m args below meth c H locs cells slots Q (F0 m pc ls (.ref (ad 21) :: rest)) := va_get (D := D) (ci := 1) (C := RX1) (T := TX1) (N := 6) C.1 C.2.1 C.2.2.1 gLx1 C.2.2.2.1 C.2.2.2.2 hP.1 21 rfl rfl 3 (by decide) (C.2.2.1 _ hm) (fun _ h9 => h9) rfl hdg kk
theorem rwP_reader_expression_parens (C : gC D k p s m args c cc own) (hP : gWd D (rwW k ad) v f g H) (hD : rwD A k ad) (hS : va_S A H0 H locs) (hm : Cond.fieldLink own idx "RouteWall$Expression" "parens" "I" ∈ gWs) {x : Int} {v1 : gV} (hx : inR x) (hv : (rwW k ad) (va_up v 13 x) f g = (rwW k ad) v1 f g) (hv2 : va_up v 13 x = v1 ∨ gOk v1 f) (hdg : decode cc pc = .ok (.putfield idx, 3)) (kk : ∀ (H1 : Heap) (locs1 : List Loc), gWd D (rwW k ad) v1 f g H1 → va_S A H0 H1 locs1 → W p l e R s m args below meth c H1 locs1 cells slots Q (F0 m (pc + 3) ls rest)) : W p l e R s m args below meth c H locs cells slots Q (F0 m pc ls (.int (iI x) :: .ref (ad 21) :: rest)) := va_put (D := D) (ci := 1) (ty := .int) (C := RX1) (T := TX1) (N := 6) C.1 C.2.1 C.2.2.1 gLx1 tyX1 tyX1_ok nmX1 C.2.2.2.1 C.2.2.2.2 hP.1 (hD v f g) hS 21 rfl rfl 3 (by decide) (C.2.2.1 _ hm) (fun _ h9 => h9) rfl (by decide +kernel) rfl rfl (Nat.le_of_ble_eq_true rfl) hdg (fun H1 locs1 h1 _ h3 => kk H1 locs1 ⟨hv ▸ (show va_P D vwCl ((rwW k ad) (va_up v 13 x) f g) H1 from h1), hv2.elim (fun q => q ▸ gR_up hP.2 13 hx) id⟩ h3)
theorem rwG_reader_expression_items (C : gC D k p s m args c cc own) (hP : gWd D (rwW k ad) v f g H) (hm : Cond.fieldLink own idx "RouteWall$Expression" "items" "I" ∈ gWs) (hdg : decode cc pc = .ok (.getfield idx, 3)) (kk : W p l e R s m args below meth c H locs cells slots Q (F0 m (pc + 3) ls (.int (iI (v 14)) :: rest))) : W p l e R s m args below meth c H locs cells slots Q (F0 m pc ls (.ref (ad 21) :: rest)) := va_get (D := D) (ci := 1) (C := RX1) (T := TX1) (N := 6) C.1 C.2.1 C.2.2.1 gLx1 C.2.2.2.1 C.2.2.2.2 hP.1 21 rfl rfl 4 (by decide) (C.2.2.1 _ hm) (fun _ h9 => h9) rfl hdg kk
theorem rwP_reader_expression_items (C : gC D k p s m args c cc own) (hP : gWd D (rwW k ad) v f g H) (hD : rwD A k ad) (hS : va_S A H0 H locs) (hm : Cond.fieldLink own idx "RouteWall$Expression" "items" "I" ∈ gWs) {x : Int} {v1 : gV} (hx : inR x) (hv : (rwW k ad) (va_up v 14 x) f g = (rwW k ad) v1 f g) (hv2 : va_up v 14 x = v1 ∨ gOk v1 f) (hdg : decode cc pc = .ok (.putfield idx, 3)) (kk : ∀ (H1 : Heap) (locs1 : List Loc), gWd D (rwW k ad) v1 f g H1 → va_S A H0 H1 locs1 → W p l e R s m args below meth c H1 locs1 cells slots Q (F0 m (pc + 3) ls rest)) : W p l e R s m args below meth c H locs cells slots Q (F0 m pc ls (.int (iI x) :: .ref (ad 21) :: rest)) := va_put (D := D) (ci := 1) (ty := .int) (C := RX1) (T := TX1) (N := 6) C.1 C.2.1 C.2.2.1 gLx1 tyX1 tyX1_ok nmX1 C.2.2.2.1 C.2.2.2.2 hP.1 (hD v f g) hS 21 rfl rfl 4 (by decide) (C.2.2.1 _ hm) (fun _ h9 => h9) rfl (by decide +kernel) rfl rfl (Nat.le_of_ble_eq_true rfl) hdg (fun H1 locs1 h1 _ h3 => kk H1 locs1 ⟨hv ▸ (show va_P D vwCl ((rwW k ad) (va_up v 14 x) f g) H1 from h1), hv2.elim (fun q => q ▸ gR_up hP.2 14 hx) id⟩ h3)
theorem rwG_reader_expression_fault (C : gC D k p s m args c cc own) (hP : gWd D (rwW k ad) v f g H) (hm : Cond.fieldLink own idx "RouteWall$Expression" "fault" "I" ∈ gWs) (hdg : decode cc pc = .ok (.getfield idx, 3)) (kk : W p l e R s m args below meth c H locs cells slots Q (F0 m (pc + 3) ls (.int (iI (v 15)) :: rest))) : W p l e R s m args below meth c H locs cells slots Q (F0 m pc ls (.ref (ad 21) :: rest)) := va_get (D := D) (ci := 1) (C := RX1) (T := TX1) (N := 6) C.1 C.2.1 C.2.2.1 gLx1 C.2.2.2.1 C.2.2.2.2 hP.1 21 rfl rfl 5 (by decide) (C.2.2.1 _ hm) (fun _ h9 => h9) rfl hdg kk
theorem rwP_reader_expression_fault (C : gC D k p s m args c cc own) (hP : gWd D (rwW k ad) v f g H) (hD : rwD A k ad) (hS : va_S A H0 H locs) (hm : Cond.fieldLink own idx "RouteWall$Expression" "fault" "I" ∈ gWs) {x : Int} {v1 : gV} (hx : inR x) (hv : (rwW k ad) (va_up v 15 x) f g = (rwW k ad) v1 f g) (hv2 : va_up v 15 x = v1 ∨ gOk v1 f) (hdg : decode cc pc = .ok (.putfield idx, 3)) (kk : ∀ (H1 : Heap) (locs1 : List Loc), gWd D (rwW k ad) v1 f g H1 → va_S A H0 H1 locs1 → W p l e R s m args below meth c H1 locs1 cells slots Q (F0 m (pc + 3) ls rest)) : W p l e R s m args below meth c H locs cells slots Q (F0 m pc ls (.int (iI x) :: .ref (ad 21) :: rest)) := va_put (D := D) (ci := 1) (ty := .int) (C := RX1) (T := TX1) (N := 6) C.1 C.2.1 C.2.2.1 gLx1 tyX1 tyX1_ok nmX1 C.2.2.2.1 C.2.2.2.2 hP.1 (hD v f g) hS 21 rfl rfl 5 (by decide) (C.2.2.1 _ hm) (fun _ h9 => h9) rfl (by decide +kernel) rfl rfl (Nat.le_of_ble_eq_true rfl) hdg (fun H1 locs1 h1 _ h3 => kk H1 locs1 ⟨hv ▸ (show va_P D vwCl ((rwW k ad) (va_up v 15 x) f g) H1 from h1), hv2.elim (fun q => q ▸ gR_up hP.2 15 hx) id⟩ h3)
theorem rwL_reader_expression_waiting (C : gC D k p s m args c cc own) (hP : gWd D (rwW k ad) v f g H) {i : Int} (h0 : 0 ≤ i) (h1 : i < 27) (hdg : decode cc pc = .ok (.iaload, 1)) (kk : W p l e R s m args below meth c H locs cells slots Q (F0 m (pc + 1) ls (.int (iI (f 14 i)) :: rest))) : W p l e R s m args below meth c H locs cells slots Q (F0 m pc ls (.int (iI i) :: .ref (ad 22) :: rest)) := g_iald C hP.1 22 rfl (by decide) h0 h1 hdg kk
theorem rwS_reader_expression_waiting (C : gC D k p s m args c cc own) (hP : gWd D (rwW k ad) v f g H) (hD : rwD A k ad) (hS : va_S A H0 H locs) {i x : Int} {f1 : gF} (h0 : 0 ≤ i) (h1 : i < 27) (hx : inR x) (hv : (rwW k ad) v (va_up f 14 (u1 (f 14) i x)) g = (rwW k ad) v f1 g) (hv2 : va_up f 14 (u1 (f 14) i x) = f1 ∨ gOk v f1) (hdg : decode cc pc = .ok (.iastore, 1)) (kk : ∀ (H1 : Heap) (locs1 : List Loc), gWd D (rwW k ad) v f1 g H1 → va_S A H0 H1 locs1 → W p l e R s m args below meth c H1 locs1 cells slots Q (F0 m (pc + 1) ls rest)) : W p l e R s m args below meth c H locs cells slots Q (F0 m pc ls (.int (iI x) :: .int (iI i) :: .ref (ad 22) :: rest)) := g_iast C hP.1 (hD v f g) hS 22 rfl (by decide) h0 h1 (ws' := (rwW k ad) v f1 g) (by rw [← hv]; rfl) hdg (fun H1 locs1 h1 h3 => kk H1 locs1 ⟨h1, hv2.elim (fun q => q ▸ gF_up hP.2 14 (u1_rng (hP.2.2 14) hx)) id⟩ h3)
theorem rwN_reader_expression_waiting (C : gC D k p s m args c cc own) (hP : gWd D (rwW k ad) v f g H) (hdg : decode cc pc = .ok (.arraylength, 1)) (kk : W p l e R s m args below meth c H locs cells slots Q (F0 m (pc + 1) ls (.int (iI 27) :: rest))) : W p l e R s m args below meth c H locs cells slots Q (F0 m pc ls (.ref (ad 22) :: rest)) := va_alen (D := D) C.1 C.2.1 C.2.2.2.2 hP.1 22 0 rfl rfl (v := iI 27) rfl hdg kk
theorem rwG_wall_holds (C : gC D k p s m args c cc own) (hP : gWd D (rwW k ad) v f g H) (hm : Cond.fieldLink own idx "RouteWall$Wall" "holds" "[I" ∈ gWs) (hdg : decode cc pc = .ok (.getfield idx, 3)) (kk : W p l e R s m args below meth c H locs cells slots Q (F0 m (pc + 3) ls (.ref (ad 24) :: rest))) : W p l e R s m args below meth c H locs cells slots Q (F0 m pc ls (.ref (ad 23) :: rest)) := va_get (D := D) (ci := 8) (C := RX8) (T := TX8) (N := 3) C.1 C.2.1 C.2.2.1 gLx8 C.2.2.2.1 C.2.2.2.2 hP.1 23 rfl rfl 0 (by decide) (C.2.2.1 _ hm) (fun _ h9 => h9) rfl hdg kk
theorem rwG_wall_begun (C : gC D k p s m args c cc own) (hP : gWd D (rwW k ad) v f g H) (hm : Cond.fieldLink own idx "RouteWall$Wall" "begun" "[I" ∈ gWs) (hdg : decode cc pc = .ok (.getfield idx, 3)) (kk : W p l e R s m args below meth c H locs cells slots Q (F0 m (pc + 3) ls (.ref (ad 25) :: rest))) : W p l e R s m args below meth c H locs cells slots Q (F0 m pc ls (.ref (ad 23) :: rest)) := va_get (D := D) (ci := 8) (C := RX8) (T := TX8) (N := 3) C.1 C.2.1 C.2.2.1 gLx8 C.2.2.2.1 C.2.2.2.2 hP.1 23 rfl rfl 1 (by decide) (C.2.2.1 _ hm) (fun _ h9 => h9) rfl hdg kk
theorem rwG_wall_zones (C : gC D k p s m args c cc own) (hP : gWd D (rwW k ad) v f g H) (hm : Cond.fieldLink own idx "RouteWall$Wall" "zones" "[I" ∈ gWs) (hdg : decode cc pc = .ok (.getfield idx, 3)) (kk : W p l e R s m args below meth c H locs cells slots Q (F0 m (pc + 3) ls (.ref (ad 26) :: rest))) : W p l e R s m args below meth c H locs cells slots Q (F0 m pc ls (.ref (ad 23) :: rest)) := va_get (D := D) (ci := 8) (C := RX8) (T := TX8) (N := 3) C.1 C.2.1 C.2.2.1 gLx8 C.2.2.2.1 C.2.2.2.2 hP.1 23 rfl rfl 2 (by decide) (C.2.2.1 _ hm) (fun _ h9 => h9) rfl hdg kk
theorem rwL_wall_holds (C : gC D k p s m args c cc own) (hP : gWd D (rwW k ad) v f g H) {i : Int} (h0 : 0 ≤ i) (h1 : i < 20) (hdg : decode cc pc = .ok (.iaload, 1)) (kk : W p l e R s m args below meth c H locs cells slots Q (F0 m (pc + 1) ls (.int (iI (f 15 i)) :: rest))) : W p l e R s m args below meth c H locs cells slots Q (F0 m pc ls (.int (iI i) :: .ref (ad 24) :: rest)) := g_iald C hP.1 24 rfl (by decide) h0 h1 hdg kk
theorem rwS_wall_holds (C : gC D k p s m args c cc own) (hP : gWd D (rwW k ad) v f g H) (hD : rwD A k ad) (hS : va_S A H0 H locs) {i x : Int} {f1 : gF} (h0 : 0 ≤ i) (h1 : i < 20) (hx : inR x) (hv : (rwW k ad) v (va_up f 15 (u1 (f 15) i x)) g = (rwW k ad) v f1 g) (hv2 : va_up f 15 (u1 (f 15) i x) = f1 ∨ gOk v f1) (hdg : decode cc pc = .ok (.iastore, 1)) (kk : ∀ (H1 : Heap) (locs1 : List Loc), gWd D (rwW k ad) v f1 g H1 → va_S A H0 H1 locs1 → W p l e R s m args below meth c H1 locs1 cells slots Q (F0 m (pc + 1) ls rest)) : W p l e R s m args below meth c H locs cells slots Q (F0 m pc ls (.int (iI x) :: .int (iI i) :: .ref (ad 24) :: rest)) := g_iast C hP.1 (hD v f g) hS 24 rfl (by decide) h0 h1 (ws' := (rwW k ad) v f1 g) (by rw [← hv]; rfl) hdg (fun H1 locs1 h1 h3 => kk H1 locs1 ⟨h1, hv2.elim (fun q => q ▸ gF_up hP.2 15 (u1_rng (hP.2.2 15) hx)) id⟩ h3)
theorem rwN_wall_holds (C : gC D k p s m args c cc own) (hP : gWd D (rwW k ad) v f g H) (hdg : decode cc pc = .ok (.arraylength, 1)) (kk : W p l e R s m args below meth c H locs cells slots Q (F0 m (pc + 1) ls (.int (iI 20) :: rest))) : W p l e R s m args below meth c H locs cells slots Q (F0 m pc ls (.ref (ad 24) :: rest)) := va_alen (D := D) C.1 C.2.1 C.2.2.2.2 hP.1 24 0 rfl rfl (v := iI 20) rfl hdg kk
theorem rwL_wall_begun (C : gC D k p s m args c cc own) (hP : gWd D (rwW k ad) v f g H) {i : Int} (h0 : 0 ≤ i) (h1 : i < 20) (hdg : decode cc pc = .ok (.iaload, 1)) (kk : W p l e R s m args below meth c H locs cells slots Q (F0 m (pc + 1) ls (.int (iI (f 16 i)) :: rest))) : W p l e R s m args below meth c H locs cells slots Q (F0 m pc ls (.int (iI i) :: .ref (ad 25) :: rest)) := g_iald C hP.1 25 rfl (by decide) h0 h1 hdg kk
theorem rwS_wall_begun (C : gC D k p s m args c cc own) (hP : gWd D (rwW k ad) v f g H) (hD : rwD A k ad) (hS : va_S A H0 H locs) {i x : Int} {f1 : gF} (h0 : 0 ≤ i) (h1 : i < 20) (hx : inR x) (hv : (rwW k ad) v (va_up f 16 (u1 (f 16) i x)) g = (rwW k ad) v f1 g) (hv2 : va_up f 16 (u1 (f 16) i x) = f1 ∨ gOk v f1) (hdg : decode cc pc = .ok (.iastore, 1)) (kk : ∀ (H1 : Heap) (locs1 : List Loc), gWd D (rwW k ad) v f1 g H1 → va_S A H0 H1 locs1 → W p l e R s m args below meth c H1 locs1 cells slots Q (F0 m (pc + 1) ls rest)) : W p l e R s m args below meth c H locs cells slots Q (F0 m pc ls (.int (iI x) :: .int (iI i) :: .ref (ad 25) :: rest)) := g_iast C hP.1 (hD v f g) hS 25 rfl (by decide) h0 h1 (ws' := (rwW k ad) v f1 g) (by rw [← hv]; rfl) hdg (fun H1 locs1 h1 h3 => kk H1 locs1 ⟨h1, hv2.elim (fun q => q ▸ gF_up hP.2 16 (u1_rng (hP.2.2 16) hx)) id⟩ h3)
theorem rwN_wall_begun (C : gC D k p s m args c cc own) (hP : gWd D (rwW k ad) v f g H) (hdg : decode cc pc = .ok (.arraylength, 1)) (kk : W p l e R s m args below meth c H locs cells slots Q (F0 m (pc + 1) ls (.int (iI 20) :: rest))) : W p l e R s m args below meth c H locs cells slots Q (F0 m pc ls (.ref (ad 25) :: rest)) := va_alen (D := D) C.1 C.2.1 C.2.2.2.2 hP.1 25 0 rfl rfl (v := iI 20) rfl hdg kk
theorem rwL_wall_zones (C : gC D k p s m args c cc own) (hP : gWd D (rwW k ad) v f g H) {i : Int} (h0 : 0 ≤ i) (h1 : i < 60) (hdg : decode cc pc = .ok (.iaload, 1)) (kk : W p l e R s m args below meth c H locs cells slots Q (F0 m (pc + 1) ls (.int (iI (f 17 i)) :: rest))) : W p l e R s m args below meth c H locs cells slots Q (F0 m pc ls (.int (iI i) :: .ref (ad 26) :: rest)) := g_iald C hP.1 26 rfl (by decide) h0 h1 hdg kk
theorem rwS_wall_zones (C : gC D k p s m args c cc own) (hP : gWd D (rwW k ad) v f g H) (hD : rwD A k ad) (hS : va_S A H0 H locs) {i x : Int} {f1 : gF} (h0 : 0 ≤ i) (h1 : i < 60) (hx : inR x) (hv : (rwW k ad) v (va_up f 17 (u1 (f 17) i x)) g = (rwW k ad) v f1 g) (hv2 : va_up f 17 (u1 (f 17) i x) = f1 ∨ gOk v f1) (hdg : decode cc pc = .ok (.iastore, 1)) (kk : ∀ (H1 : Heap) (locs1 : List Loc), gWd D (rwW k ad) v f1 g H1 → va_S A H0 H1 locs1 → W p l e R s m args below meth c H1 locs1 cells slots Q (F0 m (pc + 1) ls rest)) : W p l e R s m args below meth c H locs cells slots Q (F0 m pc ls (.int (iI x) :: .int (iI i) :: .ref (ad 26) :: rest)) := g_iast C hP.1 (hD v f g) hS 26 rfl (by decide) h0 h1 (ws' := (rwW k ad) v f1 g) (by rw [← hv]; rfl) hdg (fun H1 locs1 h1 h3 => kk H1 locs1 ⟨h1, hv2.elim (fun q => q ▸ gF_up hP.2 17 (u1_rng (hP.2.2 17) hx)) id⟩ h3)
theorem rwN_wall_zones (C : gC D k p s m args c cc own) (hP : gWd D (rwW k ad) v f g H) (hdg : decode cc pc = .ok (.arraylength, 1)) (kk : W p l e R s m args below meth c H locs cells slots Q (F0 m (pc + 1) ls (.int (iI 60) :: rest))) : W p l e R s m args below meth c H locs cells slots Q (F0 m pc ls (.ref (ad 26) :: rest)) := va_alen (D := D) C.1 C.2.1 C.2.2.2.2 hP.1 26 0 rfl rfl (v := iI 60) rfl hdg kk
theorem rwG_field_climbers (C : gC D k p s m args c cc own) (hP : gWd D (rwW k ad) v f g H) (hm : Cond.fieldLink own idx "RouteWall$Field" "climbers" "I" ∈ gWs) (hdg : decode cc pc = .ok (.getfield idx, 3)) (kk : W p l e R s m args below meth c H locs cells slots Q (F0 m (pc + 3) ls (.int (iI (v 21)) :: rest))) : W p l e R s m args below meth c H locs cells slots Q (F0 m pc ls (.ref (ad 27) :: rest)) := va_get (D := D) (ci := 2) (C := RX2) (T := TX2) (N := 4) C.1 C.2.1 C.2.2.1 gLx2 C.2.2.2.1 C.2.2.2.2 hP.1 27 rfl rfl 0 (by decide) (C.2.2.1 _ hm) (fun _ h9 => h9) rfl hdg kk
theorem rwP_field_climbers (C : gC D k p s m args c cc own) (hP : gWd D (rwW k ad) v f g H) (hD : rwD A k ad) (hS : va_S A H0 H locs) (hm : Cond.fieldLink own idx "RouteWall$Field" "climbers" "I" ∈ gWs) {x : Int} {v1 : gV} (hx : inR x) (hv : (rwW k ad) (va_up v 21 x) f g = (rwW k ad) v1 f g) (hv2 : va_up v 21 x = v1 ∨ gOk v1 f) (hdg : decode cc pc = .ok (.putfield idx, 3)) (kk : ∀ (H1 : Heap) (locs1 : List Loc), gWd D (rwW k ad) v1 f g H1 → va_S A H0 H1 locs1 → W p l e R s m args below meth c H1 locs1 cells slots Q (F0 m (pc + 3) ls rest)) : W p l e R s m args below meth c H locs cells slots Q (F0 m pc ls (.int (iI x) :: .ref (ad 27) :: rest)) := va_put (D := D) (ci := 2) (ty := .int) (C := RX2) (T := TX2) (N := 4) C.1 C.2.1 C.2.2.1 gLx2 tyX2 tyX2_ok nmX2 C.2.2.2.1 C.2.2.2.2 hP.1 (hD v f g) hS 27 rfl rfl 0 (by decide) (C.2.2.1 _ hm) (fun _ h9 => h9) rfl (by decide +kernel) rfl rfl (Nat.le_of_ble_eq_true rfl) hdg (fun H1 locs1 h1 _ h3 => kk H1 locs1 ⟨hv ▸ (show va_P D vwCl ((rwW k ad) (va_up v 21 x) f g) H1 from h1), hv2.elim (fun q => q ▸ gR_up hP.2 21 hx) id⟩ h3)
theorem rwG_field_open (C : gC D k p s m args c cc own) (hP : gWd D (rwW k ad) v f g H) (hm : Cond.fieldLink own idx "RouteWall$Field" "open" "I" ∈ gWs) (hdg : decode cc pc = .ok (.getfield idx, 3)) (kk : W p l e R s m args below meth c H locs cells slots Q (F0 m (pc + 3) ls (.int (iI (v 22)) :: rest))) : W p l e R s m args below meth c H locs cells slots Q (F0 m pc ls (.ref (ad 27) :: rest)) := va_get (D := D) (ci := 2) (C := RX2) (T := TX2) (N := 4) C.1 C.2.1 C.2.2.1 gLx2 C.2.2.2.1 C.2.2.2.2 hP.1 27 rfl rfl 1 (by decide) (C.2.2.1 _ hm) (fun _ h9 => h9) rfl hdg kk
theorem rwP_field_open (C : gC D k p s m args c cc own) (hP : gWd D (rwW k ad) v f g H) (hD : rwD A k ad) (hS : va_S A H0 H locs) (hm : Cond.fieldLink own idx "RouteWall$Field" "open" "I" ∈ gWs) {x : Int} {v1 : gV} (hx : inR x) (hv : (rwW k ad) (va_up v 22 x) f g = (rwW k ad) v1 f g) (hv2 : va_up v 22 x = v1 ∨ gOk v1 f) (hdg : decode cc pc = .ok (.putfield idx, 3)) (kk : ∀ (H1 : Heap) (locs1 : List Loc), gWd D (rwW k ad) v1 f g H1 → va_S A H0 H1 locs1 → W p l e R s m args below meth c H1 locs1 cells slots Q (F0 m (pc + 3) ls rest)) : W p l e R s m args below meth c H locs cells slots Q (F0 m pc ls (.int (iI x) :: .ref (ad 27) :: rest)) := va_put (D := D) (ci := 2) (ty := .int) (C := RX2) (T := TX2) (N := 4) C.1 C.2.1 C.2.2.1 gLx2 tyX2 tyX2_ok nmX2 C.2.2.2.1 C.2.2.2.2 hP.1 (hD v f g) hS 27 rfl rfl 1 (by decide) (C.2.2.1 _ hm) (fun _ h9 => h9) rfl (by decide +kernel) rfl rfl (Nat.le_of_ble_eq_true rfl) hdg (fun H1 locs1 h1 _ h3 => kk H1 locs1 ⟨hv ▸ (show va_P D vwCl ((rwW k ad) (va_up v 22 x) f g) H1 from h1), hv2.elim (fun q => q ▸ gR_up hP.2 22 hx) id⟩ h3)
theorem rwG_field_latest (C : gC D k p s m args c cc own) (hP : gWd D (rwW k ad) v f g H) (hm : Cond.fieldLink own idx "RouteWall$Field" "latest" "[I" ∈ gWs) (hdg : decode cc pc = .ok (.getfield idx, 3)) (kk : W p l e R s m args below meth c H locs cells slots Q (F0 m (pc + 3) ls (.ref (ad 28) :: rest))) : W p l e R s m args below meth c H locs cells slots Q (F0 m pc ls (.ref (ad 27) :: rest)) := va_get (D := D) (ci := 2) (C := RX2) (T := TX2) (N := 4) C.1 C.2.1 C.2.2.1 gLx2 C.2.2.2.1 C.2.2.2.2 hP.1 27 rfl rfl 2 (by decide) (C.2.2.1 _ hm) (fun _ h9 => h9) rfl hdg kk
theorem rwG_field_cutDay (C : gC D k p s m args c cc own) (hP : gWd D (rwW k ad) v f g H) (hm : Cond.fieldLink own idx "RouteWall$Field" "cutDay" "[I" ∈ gWs) (hdg : decode cc pc = .ok (.getfield idx, 3)) (kk : W p l e R s m args below meth c H locs cells slots Q (F0 m (pc + 3) ls (.ref (ad 29) :: rest))) : W p l e R s m args below meth c H locs cells slots Q (F0 m pc ls (.ref (ad 27) :: rest)) := va_get (D := D) (ci := 2) (C := RX2) (T := TX2) (N := 4) C.1 C.2.1 C.2.2.1 gLx2 C.2.2.2.1 C.2.2.2.2 hP.1 27 rfl rfl 3 (by decide) (C.2.2.1 _ hm) (fun _ h9 => h9) rfl hdg kk
theorem rwL_field_latest (C : gC D k p s m args c cc own) (hP : gWd D (rwW k ad) v f g H) {i : Int} (h0 : 0 ≤ i) (h1 : i < 16) (hdg : decode cc pc = .ok (.iaload, 1)) (kk : W p l e R s m args below meth c H locs cells slots Q (F0 m (pc + 1) ls (.int (iI (f 18 i)) :: rest))) : W p l e R s m args below meth c H locs cells slots Q (F0 m pc ls (.int (iI i) :: .ref (ad 28) :: rest)) := g_iald C hP.1 28 rfl (by decide) h0 h1 hdg kk
theorem rwS_field_latest (C : gC D k p s m args c cc own) (hP : gWd D (rwW k ad) v f g H) (hD : rwD A k ad) (hS : va_S A H0 H locs) {i x : Int} {f1 : gF} (h0 : 0 ≤ i) (h1 : i < 16) (hx : inR x) (hv : (rwW k ad) v (va_up f 18 (u1 (f 18) i x)) g = (rwW k ad) v f1 g) (hv2 : va_up f 18 (u1 (f 18) i x) = f1 ∨ gOk v f1) (hdg : decode cc pc = .ok (.iastore, 1)) (kk : ∀ (H1 : Heap) (locs1 : List Loc), gWd D (rwW k ad) v f1 g H1 → va_S A H0 H1 locs1 → W p l e R s m args below meth c H1 locs1 cells slots Q (F0 m (pc + 1) ls rest)) : W p l e R s m args below meth c H locs cells slots Q (F0 m pc ls (.int (iI x) :: .int (iI i) :: .ref (ad 28) :: rest)) := g_iast C hP.1 (hD v f g) hS 28 rfl (by decide) h0 h1 (ws' := (rwW k ad) v f1 g) (by rw [← hv]; rfl) hdg (fun H1 locs1 h1 h3 => kk H1 locs1 ⟨h1, hv2.elim (fun q => q ▸ gF_up hP.2 18 (u1_rng (hP.2.2 18) hx)) id⟩ h3)
theorem rwN_field_latest (C : gC D k p s m args c cc own) (hP : gWd D (rwW k ad) v f g H) (hdg : decode cc pc = .ok (.arraylength, 1)) (kk : W p l e R s m args below meth c H locs cells slots Q (F0 m (pc + 1) ls (.int (iI 16) :: rest))) : W p l e R s m args below meth c H locs cells slots Q (F0 m pc ls (.ref (ad 28) :: rest)) := va_alen (D := D) C.1 C.2.1 C.2.2.2.2 hP.1 28 0 rfl rfl (v := iI 16) rfl hdg kk
theorem rwL_field_cutDay (C : gC D k p s m args c cc own) (hP : gWd D (rwW k ad) v f g H) {i : Int} (h0 : 0 ≤ i) (h1 : i < 4) (hdg : decode cc pc = .ok (.iaload, 1)) (kk : W p l e R s m args below meth c H locs cells slots Q (F0 m (pc + 1) ls (.int (iI (f 19 i)) :: rest))) : W p l e R s m args below meth c H locs cells slots Q (F0 m pc ls (.int (iI i) :: .ref (ad 29) :: rest)) := g_iald C hP.1 29 rfl (by decide) h0 h1 hdg kk
theorem rwS_field_cutDay (C : gC D k p s m args c cc own) (hP : gWd D (rwW k ad) v f g H) (hD : rwD A k ad) (hS : va_S A H0 H locs) {i x : Int} {f1 : gF} (h0 : 0 ≤ i) (h1 : i < 4) (hx : inR x) (hv : (rwW k ad) v (va_up f 19 (u1 (f 19) i x)) g = (rwW k ad) v f1 g) (hv2 : va_up f 19 (u1 (f 19) i x) = f1 ∨ gOk v f1) (hdg : decode cc pc = .ok (.iastore, 1)) (kk : ∀ (H1 : Heap) (locs1 : List Loc), gWd D (rwW k ad) v f1 g H1 → va_S A H0 H1 locs1 → W p l e R s m args below meth c H1 locs1 cells slots Q (F0 m (pc + 1) ls rest)) : W p l e R s m args below meth c H locs cells slots Q (F0 m pc ls (.int (iI x) :: .int (iI i) :: .ref (ad 29) :: rest)) := g_iast C hP.1 (hD v f g) hS 29 rfl (by decide) h0 h1 (ws' := (rwW k ad) v f1 g) (by rw [← hv]; rfl) hdg (fun H1 locs1 h1 h3 => kk H1 locs1 ⟨h1, hv2.elim (fun q => q ▸ gF_up hP.2 19 (u1_rng (hP.2.2 19) hx)) id⟩ h3)
theorem rwN_field_cutDay (C : gC D k p s m args c cc own) (hP : gWd D (rwW k ad) v f g H) (hdg : decode cc pc = .ok (.arraylength, 1)) (kk : W p l e R s m args below meth c H locs cells slots Q (F0 m (pc + 1) ls (.int (iI 4) :: rest))) : W p l e R s m args below meth c H locs cells slots Q (F0 m pc ls (.ref (ad 29) :: rest)) := va_alen (D := D) C.1 C.2.1 C.2.2.2.2 hP.1 29 0 rfl rfl (v := iI 4) rfl hdg kk
theorem rwG_tries_many (C : gC D k p s m args c cc own) (hP : gWd D (rwW k ad) v f g H) (hm : Cond.fieldLink own idx "RouteWall$Tries" "many" "I" ∈ gWs) (hdg : decode cc pc = .ok (.getfield idx, 3)) (kk : W p l e R s m args below meth c H locs cells slots Q (F0 m (pc + 3) ls (.int (iI (v 23)) :: rest))) : W p l e R s m args below meth c H locs cells slots Q (F0 m pc ls (.ref (ad 30) :: rest)) := va_get (D := D) (ci := 7) (C := RX7) (T := TX7) (N := 9) C.1 C.2.1 C.2.2.1 gLx7 C.2.2.2.1 C.2.2.2.2 hP.1 30 rfl rfl 0 (by decide) (C.2.2.1 _ hm) (fun _ h9 => h9) rfl hdg kk
theorem rwP_tries_many (C : gC D k p s m args c cc own) (hP : gWd D (rwW k ad) v f g H) (hD : rwD A k ad) (hS : va_S A H0 H locs) (hm : Cond.fieldLink own idx "RouteWall$Tries" "many" "I" ∈ gWs) {x : Int} {v1 : gV} (hx : inR x) (hv : (rwW k ad) (va_up v 23 x) f g = (rwW k ad) v1 f g) (hv2 : va_up v 23 x = v1 ∨ gOk v1 f) (hdg : decode cc pc = .ok (.putfield idx, 3)) (kk : ∀ (H1 : Heap) (locs1 : List Loc), gWd D (rwW k ad) v1 f g H1 → va_S A H0 H1 locs1 → W p l e R s m args below meth c H1 locs1 cells slots Q (F0 m (pc + 3) ls rest)) : W p l e R s m args below meth c H locs cells slots Q (F0 m pc ls (.int (iI x) :: .ref (ad 30) :: rest)) := va_put (D := D) (ci := 7) (ty := .int) (C := RX7) (T := TX7) (N := 9) C.1 C.2.1 C.2.2.1 gLx7 tyX7 tyX7_ok nmX7 C.2.2.2.1 C.2.2.2.2 hP.1 (hD v f g) hS 30 rfl rfl 0 (by decide) (C.2.2.1 _ hm) (fun _ h9 => h9) rfl (by decide +kernel) rfl rfl (Nat.le_of_ble_eq_true rfl) hdg (fun H1 locs1 h1 _ h3 => kk H1 locs1 ⟨hv ▸ (show va_P D vwCl ((rwW k ad) (va_up v 23 x) f g) H1 from h1), hv2.elim (fun q => q ▸ gR_up hP.2 23 hx) id⟩ h3)
theorem rwG_tries_climber (C : gC D k p s m args c cc own) (hP : gWd D (rwW k ad) v f g H) (hm : Cond.fieldLink own idx "RouteWall$Tries" "climber" "[I" ∈ gWs) (hdg : decode cc pc = .ok (.getfield idx, 3)) (kk : W p l e R s m args below meth c H locs cells slots Q (F0 m (pc + 3) ls (.ref (ad 31) :: rest))) : W p l e R s m args below meth c H locs cells slots Q (F0 m pc ls (.ref (ad 30) :: rest)) := va_get (D := D) (ci := 7) (C := RX7) (T := TX7) (N := 9) C.1 C.2.1 C.2.2.1 gLx7 C.2.2.2.1 C.2.2.2.2 hP.1 30 rfl rfl 1 (by decide) (C.2.2.1 _ hm) (fun _ h9 => h9) rfl hdg kk
theorem rwG_tries_round (C : gC D k p s m args c cc own) (hP : gWd D (rwW k ad) v f g H) (hm : Cond.fieldLink own idx "RouteWall$Tries" "round" "[I" ∈ gWs) (hdg : decode cc pc = .ok (.getfield idx, 3)) (kk : W p l e R s m args below meth c H locs cells slots Q (F0 m (pc + 3) ls (.ref (ad 32) :: rest))) : W p l e R s m args below meth c H locs cells slots Q (F0 m pc ls (.ref (ad 30) :: rest)) := va_get (D := D) (ci := 7) (C := RX7) (T := TX7) (N := 9) C.1 C.2.1 C.2.2.1 gLx7 C.2.2.2.1 C.2.2.2.2 hP.1 30 rfl rfl 2 (by decide) (C.2.2.1 _ hm) (fun _ h9 => h9) rfl hdg kk
theorem rwG_tries_route (C : gC D k p s m args c cc own) (hP : gWd D (rwW k ad) v f g H) (hm : Cond.fieldLink own idx "RouteWall$Tries" "route" "[I" ∈ gWs) (hdg : decode cc pc = .ok (.getfield idx, 3)) (kk : W p l e R s m args below meth c H locs cells slots Q (F0 m (pc + 3) ls (.ref (ad 33) :: rest))) : W p l e R s m args below meth c H locs cells slots Q (F0 m pc ls (.ref (ad 30) :: rest)) := va_get (D := D) (ci := 7) (C := RX7) (T := TX7) (N := 9) C.1 C.2.1 C.2.2.1 gLx7 C.2.2.2.1 C.2.2.2.2 hP.1 30 rfl rfl 3 (by decide) (C.2.2.1 _ hm) (fun _ h9 => h9) rfl hdg kk
theorem rwG_tries_begun (C : gC D k p s m args c cc own) (hP : gWd D (rwW k ad) v f g H) (hm : Cond.fieldLink own idx "RouteWall$Tries" "begun" "[I" ∈ gWs) (hdg : decode cc pc = .ok (.getfield idx, 3)) (kk : W p l e R s m args below meth c H locs cells slots Q (F0 m (pc + 3) ls (.ref (ad 34) :: rest))) : W p l e R s m args below meth c H locs cells slots Q (F0 m pc ls (.ref (ad 30) :: rest)) := va_get (D := D) (ci := 7) (C := RX7) (T := TX7) (N := 9) C.1 C.2.1 C.2.2.1 gLx7 C.2.2.2.1 C.2.2.2.2 hP.1 30 rfl rfl 4 (by decide) (C.2.2.1 _ hm) (fun _ h9 => h9) rfl hdg kk
theorem rwG_tries_ended (C : gC D k p s m args c cc own) (hP : gWd D (rwW k ad) v f g H) (hm : Cond.fieldLink own idx "RouteWall$Tries" "ended" "[I" ∈ gWs) (hdg : decode cc pc = .ok (.getfield idx, 3)) (kk : W p l e R s m args below meth c H locs cells slots Q (F0 m (pc + 3) ls (.ref (ad 35) :: rest))) : W p l e R s m args below meth c H locs cells slots Q (F0 m pc ls (.ref (ad 30) :: rest)) := va_get (D := D) (ci := 7) (C := RX7) (T := TX7) (N := 9) C.1 C.2.1 C.2.2.1 gLx7 C.2.2.2.1 C.2.2.2.2 hP.1 30 rfl rfl 5 (by decide) (C.2.2.1 _ hm) (fun _ h9 => h9) rfl hdg kk
theorem rwG_tries_hold (C : gC D k p s m args c cc own) (hP : gWd D (rwW k ad) v f g H) (hm : Cond.fieldLink own idx "RouteWall$Tries" "hold" "[I" ∈ gWs) (hdg : decode cc pc = .ok (.getfield idx, 3)) (kk : W p l e R s m args below meth c H locs cells slots Q (F0 m (pc + 3) ls (.ref (ad 36) :: rest))) : W p l e R s m args below meth c H locs cells slots Q (F0 m pc ls (.ref (ad 30) :: rest)) := va_get (D := D) (ci := 7) (C := RX7) (T := TX7) (N := 9) C.1 C.2.1 C.2.2.1 gLx7 C.2.2.2.1 C.2.2.2.2 hP.1 30 rfl rfl 6 (by decide) (C.2.2.1 _ hm) (fun _ h9 => h9) rfl hdg kk
theorem rwG_tries_how (C : gC D k p s m args c cc own) (hP : gWd D (rwW k ad) v f g H) (hm : Cond.fieldLink own idx "RouteWall$Tries" "how" "[I" ∈ gWs) (hdg : decode cc pc = .ok (.getfield idx, 3)) (kk : W p l e R s m args below meth c H locs cells slots Q (F0 m (pc + 3) ls (.ref (ad 37) :: rest))) : W p l e R s m args below meth c H locs cells slots Q (F0 m pc ls (.ref (ad 30) :: rest)) := va_get (D := D) (ci := 7) (C := RX7) (T := TX7) (N := 9) C.1 C.2.1 C.2.2.1 gLx7 C.2.2.2.1 C.2.2.2.2 hP.1 30 rfl rfl 7 (by decide) (C.2.2.1 _ hm) (fun _ h9 => h9) rfl hdg kk
theorem rwG_tries_openNext (C : gC D k p s m args c cc own) (hP : gWd D (rwW k ad) v f g H) (hm : Cond.fieldLink own idx "RouteWall$Tries" "openNext" "[I" ∈ gWs) (hdg : decode cc pc = .ok (.getfield idx, 3)) (kk : W p l e R s m args below meth c H locs cells slots Q (F0 m (pc + 3) ls (.ref (ad 38) :: rest))) : W p l e R s m args below meth c H locs cells slots Q (F0 m pc ls (.ref (ad 30) :: rest)) := va_get (D := D) (ci := 7) (C := RX7) (T := TX7) (N := 9) C.1 C.2.1 C.2.2.1 gLx7 C.2.2.2.1 C.2.2.2.2 hP.1 30 rfl rfl 8 (by decide) (C.2.2.1 _ hm) (fun _ h9 => h9) rfl hdg kk
theorem rwL_tries_climber (C : gC D k p s m args c cc own) (hP : gWd D (rwW k ad) v f g H) {i : Int} (h0 : 0 ≤ i) (h1 : i < 300) (hdg : decode cc pc = .ok (.iaload, 1)) (kk : W p l e R s m args below meth c H locs cells slots Q (F0 m (pc + 1) ls (.int (iI (f 20 i)) :: rest))) : W p l e R s m args below meth c H locs cells slots Q (F0 m pc ls (.int (iI i) :: .ref (ad 31) :: rest)) := g_iald C hP.1 31 rfl (by decide) h0 h1 hdg kk
theorem rwS_tries_climber (C : gC D k p s m args c cc own) (hP : gWd D (rwW k ad) v f g H) (hD : rwD A k ad) (hS : va_S A H0 H locs) {i x : Int} {f1 : gF} (h0 : 0 ≤ i) (h1 : i < 300) (hx : inR x) (hv : (rwW k ad) v (va_up f 20 (u1 (f 20) i x)) g = (rwW k ad) v f1 g) (hv2 : va_up f 20 (u1 (f 20) i x) = f1 ∨ gOk v f1) (hdg : decode cc pc = .ok (.iastore, 1)) (kk : ∀ (H1 : Heap) (locs1 : List Loc), gWd D (rwW k ad) v f1 g H1 → va_S A H0 H1 locs1 → W p l e R s m args below meth c H1 locs1 cells slots Q (F0 m (pc + 1) ls rest)) : W p l e R s m args below meth c H locs cells slots Q (F0 m pc ls (.int (iI x) :: .int (iI i) :: .ref (ad 31) :: rest)) := g_iast C hP.1 (hD v f g) hS 31 rfl (by decide) h0 h1 (ws' := (rwW k ad) v f1 g) (by rw [← hv]; rfl) hdg (fun H1 locs1 h1 h3 => kk H1 locs1 ⟨h1, hv2.elim (fun q => q ▸ gF_up hP.2 20 (u1_rng (hP.2.2 20) hx)) id⟩ h3)
theorem rwN_tries_climber (C : gC D k p s m args c cc own) (hP : gWd D (rwW k ad) v f g H) (hdg : decode cc pc = .ok (.arraylength, 1)) (kk : W p l e R s m args below meth c H locs cells slots Q (F0 m (pc + 1) ls (.int (iI 300) :: rest))) : W p l e R s m args below meth c H locs cells slots Q (F0 m pc ls (.ref (ad 31) :: rest)) := va_alen (D := D) C.1 C.2.1 C.2.2.2.2 hP.1 31 0 rfl rfl (v := iI 300) rfl hdg kk
theorem rwL_tries_round (C : gC D k p s m args c cc own) (hP : gWd D (rwW k ad) v f g H) {i : Int} (h0 : 0 ≤ i) (h1 : i < 300) (hdg : decode cc pc = .ok (.iaload, 1)) (kk : W p l e R s m args below meth c H locs cells slots Q (F0 m (pc + 1) ls (.int (iI (f 21 i)) :: rest))) : W p l e R s m args below meth c H locs cells slots Q (F0 m pc ls (.int (iI i) :: .ref (ad 32) :: rest)) := g_iald C hP.1 32 rfl (by decide) h0 h1 hdg kk
theorem rwS_tries_round (C : gC D k p s m args c cc own) (hP : gWd D (rwW k ad) v f g H) (hD : rwD A k ad) (hS : va_S A H0 H locs) {i x : Int} {f1 : gF} (h0 : 0 ≤ i) (h1 : i < 300) (hx : inR x) (hv : (rwW k ad) v (va_up f 21 (u1 (f 21) i x)) g = (rwW k ad) v f1 g) (hv2 : va_up f 21 (u1 (f 21) i x) = f1 ∨ gOk v f1) (hdg : decode cc pc = .ok (.iastore, 1)) (kk : ∀ (H1 : Heap) (locs1 : List Loc), gWd D (rwW k ad) v f1 g H1 → va_S A H0 H1 locs1 → W p l e R s m args below meth c H1 locs1 cells slots Q (F0 m (pc + 1) ls rest)) : W p l e R s m args below meth c H locs cells slots Q (F0 m pc ls (.int (iI x) :: .int (iI i) :: .ref (ad 32) :: rest)) := g_iast C hP.1 (hD v f g) hS 32 rfl (by decide) h0 h1 (ws' := (rwW k ad) v f1 g) (by rw [← hv]; rfl) hdg (fun H1 locs1 h1 h3 => kk H1 locs1 ⟨h1, hv2.elim (fun q => q ▸ gF_up hP.2 21 (u1_rng (hP.2.2 21) hx)) id⟩ h3)
theorem rwN_tries_round (C : gC D k p s m args c cc own) (hP : gWd D (rwW k ad) v f g H) (hdg : decode cc pc = .ok (.arraylength, 1)) (kk : W p l e R s m args below meth c H locs cells slots Q (F0 m (pc + 1) ls (.int (iI 300) :: rest))) : W p l e R s m args below meth c H locs cells slots Q (F0 m pc ls (.ref (ad 32) :: rest)) := va_alen (D := D) C.1 C.2.1 C.2.2.2.2 hP.1 32 0 rfl rfl (v := iI 300) rfl hdg kk
theorem rwL_tries_route (C : gC D k p s m args c cc own) (hP : gWd D (rwW k ad) v f g H) {i : Int} (h0 : 0 ≤ i) (h1 : i < 300) (hdg : decode cc pc = .ok (.iaload, 1)) (kk : W p l e R s m args below meth c H locs cells slots Q (F0 m (pc + 1) ls (.int (iI (f 22 i)) :: rest))) : W p l e R s m args below meth c H locs cells slots Q (F0 m pc ls (.int (iI i) :: .ref (ad 33) :: rest)) := g_iald C hP.1 33 rfl (by decide) h0 h1 hdg kk
theorem rwS_tries_route (C : gC D k p s m args c cc own) (hP : gWd D (rwW k ad) v f g H) (hD : rwD A k ad) (hS : va_S A H0 H locs) {i x : Int} {f1 : gF} (h0 : 0 ≤ i) (h1 : i < 300) (hx : inR x) (hv : (rwW k ad) v (va_up f 22 (u1 (f 22) i x)) g = (rwW k ad) v f1 g) (hv2 : va_up f 22 (u1 (f 22) i x) = f1 ∨ gOk v f1) (hdg : decode cc pc = .ok (.iastore, 1)) (kk : ∀ (H1 : Heap) (locs1 : List Loc), gWd D (rwW k ad) v f1 g H1 → va_S A H0 H1 locs1 → W p l e R s m args below meth c H1 locs1 cells slots Q (F0 m (pc + 1) ls rest)) : W p l e R s m args below meth c H locs cells slots Q (F0 m pc ls (.int (iI x) :: .int (iI i) :: .ref (ad 33) :: rest)) := g_iast C hP.1 (hD v f g) hS 33 rfl (by decide) h0 h1 (ws' := (rwW k ad) v f1 g) (by rw [← hv]; rfl) hdg (fun H1 locs1 h1 h3 => kk H1 locs1 ⟨h1, hv2.elim (fun q => q ▸ gF_up hP.2 22 (u1_rng (hP.2.2 22) hx)) id⟩ h3)
theorem rwN_tries_route (C : gC D k p s m args c cc own) (hP : gWd D (rwW k ad) v f g H) (hdg : decode cc pc = .ok (.arraylength, 1)) (kk : W p l e R s m args below meth c H locs cells slots Q (F0 m (pc + 1) ls (.int (iI 300) :: rest))) : W p l e R s m args below meth c H locs cells slots Q (F0 m pc ls (.ref (ad 33) :: rest)) := va_alen (D := D) C.1 C.2.1 C.2.2.2.2 hP.1 33 0 rfl rfl (v := iI 300) rfl hdg kk
theorem rwL_tries_begun (C : gC D k p s m args c cc own) (hP : gWd D (rwW k ad) v f g H) {i : Int} (h0 : 0 ≤ i) (h1 : i < 300) (hdg : decode cc pc = .ok (.iaload, 1)) (kk : W p l e R s m args below meth c H locs cells slots Q (F0 m (pc + 1) ls (.int (iI (f 23 i)) :: rest))) : W p l e R s m args below meth c H locs cells slots Q (F0 m pc ls (.int (iI i) :: .ref (ad 34) :: rest)) := g_iald C hP.1 34 rfl (by decide) h0 h1 hdg kk
theorem rwS_tries_begun (C : gC D k p s m args c cc own) (hP : gWd D (rwW k ad) v f g H) (hD : rwD A k ad) (hS : va_S A H0 H locs) {i x : Int} {f1 : gF} (h0 : 0 ≤ i) (h1 : i < 300) (hx : inR x) (hv : (rwW k ad) v (va_up f 23 (u1 (f 23) i x)) g = (rwW k ad) v f1 g) (hv2 : va_up f 23 (u1 (f 23) i x) = f1 ∨ gOk v f1) (hdg : decode cc pc = .ok (.iastore, 1)) (kk : ∀ (H1 : Heap) (locs1 : List Loc), gWd D (rwW k ad) v f1 g H1 → va_S A H0 H1 locs1 → W p l e R s m args below meth c H1 locs1 cells slots Q (F0 m (pc + 1) ls rest)) : W p l e R s m args below meth c H locs cells slots Q (F0 m pc ls (.int (iI x) :: .int (iI i) :: .ref (ad 34) :: rest)) := g_iast C hP.1 (hD v f g) hS 34 rfl (by decide) h0 h1 (ws' := (rwW k ad) v f1 g) (by rw [← hv]; rfl) hdg (fun H1 locs1 h1 h3 => kk H1 locs1 ⟨h1, hv2.elim (fun q => q ▸ gF_up hP.2 23 (u1_rng (hP.2.2 23) hx)) id⟩ h3)
theorem rwN_tries_begun (C : gC D k p s m args c cc own) (hP : gWd D (rwW k ad) v f g H) (hdg : decode cc pc = .ok (.arraylength, 1)) (kk : W p l e R s m args below meth c H locs cells slots Q (F0 m (pc + 1) ls (.int (iI 300) :: rest))) : W p l e R s m args below meth c H locs cells slots Q (F0 m pc ls (.ref (ad 34) :: rest)) := va_alen (D := D) C.1 C.2.1 C.2.2.2.2 hP.1 34 0 rfl rfl (v := iI 300) rfl hdg kk
theorem rwL_tries_ended (C : gC D k p s m args c cc own) (hP : gWd D (rwW k ad) v f g H) {i : Int} (h0 : 0 ≤ i) (h1 : i < 300) (hdg : decode cc pc = .ok (.iaload, 1)) (kk : W p l e R s m args below meth c H locs cells slots Q (F0 m (pc + 1) ls (.int (iI (f 24 i)) :: rest))) : W p l e R s m args below meth c H locs cells slots Q (F0 m pc ls (.int (iI i) :: .ref (ad 35) :: rest)) := g_iald C hP.1 35 rfl (by decide) h0 h1 hdg kk
theorem rwS_tries_ended (C : gC D k p s m args c cc own) (hP : gWd D (rwW k ad) v f g H) (hD : rwD A k ad) (hS : va_S A H0 H locs) {i x : Int} {f1 : gF} (h0 : 0 ≤ i) (h1 : i < 300) (hx : inR x) (hv : (rwW k ad) v (va_up f 24 (u1 (f 24) i x)) g = (rwW k ad) v f1 g) (hv2 : va_up f 24 (u1 (f 24) i x) = f1 ∨ gOk v f1) (hdg : decode cc pc = .ok (.iastore, 1)) (kk : ∀ (H1 : Heap) (locs1 : List Loc), gWd D (rwW k ad) v f1 g H1 → va_S A H0 H1 locs1 → W p l e R s m args below meth c H1 locs1 cells slots Q (F0 m (pc + 1) ls rest)) : W p l e R s m args below meth c H locs cells slots Q (F0 m pc ls (.int (iI x) :: .int (iI i) :: .ref (ad 35) :: rest)) := g_iast C hP.1 (hD v f g) hS 35 rfl (by decide) h0 h1 (ws' := (rwW k ad) v f1 g) (by rw [← hv]; rfl) hdg (fun H1 locs1 h1 h3 => kk H1 locs1 ⟨h1, hv2.elim (fun q => q ▸ gF_up hP.2 24 (u1_rng (hP.2.2 24) hx)) id⟩ h3)
theorem rwN_tries_ended (C : gC D k p s m args c cc own) (hP : gWd D (rwW k ad) v f g H) (hdg : decode cc pc = .ok (.arraylength, 1)) (kk : W p l e R s m args below meth c H locs cells slots Q (F0 m (pc + 1) ls (.int (iI 300) :: rest))) : W p l e R s m args below meth c H locs cells slots Q (F0 m pc ls (.ref (ad 35) :: rest)) := va_alen (D := D) C.1 C.2.1 C.2.2.2.2 hP.1 35 0 rfl rfl (v := iI 300) rfl hdg kk
theorem rwL_tries_hold (C : gC D k p s m args c cc own) (hP : gWd D (rwW k ad) v f g H) {i : Int} (h0 : 0 ≤ i) (h1 : i < 300) (hdg : decode cc pc = .ok (.iaload, 1)) (kk : W p l e R s m args below meth c H locs cells slots Q (F0 m (pc + 1) ls (.int (iI (f 25 i)) :: rest))) : W p l e R s m args below meth c H locs cells slots Q (F0 m pc ls (.int (iI i) :: .ref (ad 36) :: rest)) := g_iald C hP.1 36 rfl (by decide) h0 h1 hdg kk
theorem rwS_tries_hold (C : gC D k p s m args c cc own) (hP : gWd D (rwW k ad) v f g H) (hD : rwD A k ad) (hS : va_S A H0 H locs) {i x : Int} {f1 : gF} (h0 : 0 ≤ i) (h1 : i < 300) (hx : inR x) (hv : (rwW k ad) v (va_up f 25 (u1 (f 25) i x)) g = (rwW k ad) v f1 g) (hv2 : va_up f 25 (u1 (f 25) i x) = f1 ∨ gOk v f1) (hdg : decode cc pc = .ok (.iastore, 1)) (kk : ∀ (H1 : Heap) (locs1 : List Loc), gWd D (rwW k ad) v f1 g H1 → va_S A H0 H1 locs1 → W p l e R s m args below meth c H1 locs1 cells slots Q (F0 m (pc + 1) ls rest)) : W p l e R s m args below meth c H locs cells slots Q (F0 m pc ls (.int (iI x) :: .int (iI i) :: .ref (ad 36) :: rest)) := g_iast C hP.1 (hD v f g) hS 36 rfl (by decide) h0 h1 (ws' := (rwW k ad) v f1 g) (by rw [← hv]; rfl) hdg (fun H1 locs1 h1 h3 => kk H1 locs1 ⟨h1, hv2.elim (fun q => q ▸ gF_up hP.2 25 (u1_rng (hP.2.2 25) hx)) id⟩ h3)
theorem rwN_tries_hold (C : gC D k p s m args c cc own) (hP : gWd D (rwW k ad) v f g H) (hdg : decode cc pc = .ok (.arraylength, 1)) (kk : W p l e R s m args below meth c H locs cells slots Q (F0 m (pc + 1) ls (.int (iI 300) :: rest))) : W p l e R s m args below meth c H locs cells slots Q (F0 m pc ls (.ref (ad 36) :: rest)) := va_alen (D := D) C.1 C.2.1 C.2.2.2.2 hP.1 36 0 rfl rfl (v := iI 300) rfl hdg kk
theorem rwL_tries_how (C : gC D k p s m args c cc own) (hP : gWd D (rwW k ad) v f g H) {i : Int} (h0 : 0 ≤ i) (h1 : i < 300) (hdg : decode cc pc = .ok (.iaload, 1)) (kk : W p l e R s m args below meth c H locs cells slots Q (F0 m (pc + 1) ls (.int (iI (f 26 i)) :: rest))) : W p l e R s m args below meth c H locs cells slots Q (F0 m pc ls (.int (iI i) :: .ref (ad 37) :: rest)) := g_iald C hP.1 37 rfl (by decide) h0 h1 hdg kk
theorem rwS_tries_how (C : gC D k p s m args c cc own) (hP : gWd D (rwW k ad) v f g H) (hD : rwD A k ad) (hS : va_S A H0 H locs) {i x : Int} {f1 : gF} (h0 : 0 ≤ i) (h1 : i < 300) (hx : inR x) (hv : (rwW k ad) v (va_up f 26 (u1 (f 26) i x)) g = (rwW k ad) v f1 g) (hv2 : va_up f 26 (u1 (f 26) i x) = f1 ∨ gOk v f1) (hdg : decode cc pc = .ok (.iastore, 1)) (kk : ∀ (H1 : Heap) (locs1 : List Loc), gWd D (rwW k ad) v f1 g H1 → va_S A H0 H1 locs1 → W p l e R s m args below meth c H1 locs1 cells slots Q (F0 m (pc + 1) ls rest)) : W p l e R s m args below meth c H locs cells slots Q (F0 m pc ls (.int (iI x) :: .int (iI i) :: .ref (ad 37) :: rest)) := g_iast C hP.1 (hD v f g) hS 37 rfl (by decide) h0 h1 (ws' := (rwW k ad) v f1 g) (by rw [← hv]; rfl) hdg (fun H1 locs1 h1 h3 => kk H1 locs1 ⟨h1, hv2.elim (fun q => q ▸ gF_up hP.2 26 (u1_rng (hP.2.2 26) hx)) id⟩ h3)
theorem rwN_tries_how (C : gC D k p s m args c cc own) (hP : gWd D (rwW k ad) v f g H) (hdg : decode cc pc = .ok (.arraylength, 1)) (kk : W p l e R s m args below meth c H locs cells slots Q (F0 m (pc + 1) ls (.int (iI 300) :: rest))) : W p l e R s m args below meth c H locs cells slots Q (F0 m pc ls (.ref (ad 37) :: rest)) := va_alen (D := D) C.1 C.2.1 C.2.2.2.2 hP.1 37 0 rfl rfl (v := iI 300) rfl hdg kk
theorem rwL_tries_openNext (C : gC D k p s m args c cc own) (hP : gWd D (rwW k ad) v f g H) {i : Int} (h0 : 0 ≤ i) (h1 : i < 16) (hdg : decode cc pc = .ok (.iaload, 1)) (kk : W p l e R s m args below meth c H locs cells slots Q (F0 m (pc + 1) ls (.int (iI (f 27 i)) :: rest))) : W p l e R s m args below meth c H locs cells slots Q (F0 m pc ls (.int (iI i) :: .ref (ad 38) :: rest)) := g_iald C hP.1 38 rfl (by decide) h0 h1 hdg kk
theorem rwS_tries_openNext (C : gC D k p s m args c cc own) (hP : gWd D (rwW k ad) v f g H) (hD : rwD A k ad) (hS : va_S A H0 H locs) {i x : Int} {f1 : gF} (h0 : 0 ≤ i) (h1 : i < 16) (hx : inR x) (hv : (rwW k ad) v (va_up f 27 (u1 (f 27) i x)) g = (rwW k ad) v f1 g) (hv2 : va_up f 27 (u1 (f 27) i x) = f1 ∨ gOk v f1) (hdg : decode cc pc = .ok (.iastore, 1)) (kk : ∀ (H1 : Heap) (locs1 : List Loc), gWd D (rwW k ad) v f1 g H1 → va_S A H0 H1 locs1 → W p l e R s m args below meth c H1 locs1 cells slots Q (F0 m (pc + 1) ls rest)) : W p l e R s m args below meth c H locs cells slots Q (F0 m pc ls (.int (iI x) :: .int (iI i) :: .ref (ad 38) :: rest)) := g_iast C hP.1 (hD v f g) hS 38 rfl (by decide) h0 h1 (ws' := (rwW k ad) v f1 g) (by rw [← hv]; rfl) hdg (fun H1 locs1 h1 h3 => kk H1 locs1 ⟨h1, hv2.elim (fun q => q ▸ gF_up hP.2 27 (u1_rng (hP.2.2 27) hx)) id⟩ h3)
theorem rwN_tries_openNext (C : gC D k p s m args c cc own) (hP : gWd D (rwW k ad) v f g H) (hdg : decode cc pc = .ok (.arraylength, 1)) (kk : W p l e R s m args below meth c H locs cells slots Q (F0 m (pc + 1) ls (.int (iI 16) :: rest))) : W p l e R s m args below meth c H locs cells slots Q (F0 m pc ls (.ref (ad 38) :: rest)) := va_alen (D := D) C.1 C.2.1 C.2.2.2.2 hP.1 38 0 rfl rfl (v := iI 16) rfl hdg kk
theorem rwG_appeals_many (C : gC D k p s m args c cc own) (hP : gWd D (rwW k ad) v f g H) (hm : Cond.fieldLink own idx "RouteWall$Appeals" "many" "I" ∈ gWs) (hdg : decode cc pc = .ok (.getfield idx, 3)) (kk : W p l e R s m args below meth c H locs cells slots Q (F0 m (pc + 3) ls (.int (iI (v 24)) :: rest))) : W p l e R s m args below meth c H locs cells slots Q (F0 m pc ls (.ref (ad 39) :: rest)) := va_get (D := D) (ci := 0) (C := RX0) (T := TX0) (N := 4) C.1 C.2.1 C.2.2.1 gLx0 C.2.2.2.1 C.2.2.2.2 hP.1 39 rfl rfl 0 (by decide) (C.2.2.1 _ hm) (fun _ h9 => h9) rfl hdg kk
theorem rwP_appeals_many (C : gC D k p s m args c cc own) (hP : gWd D (rwW k ad) v f g H) (hD : rwD A k ad) (hS : va_S A H0 H locs) (hm : Cond.fieldLink own idx "RouteWall$Appeals" "many" "I" ∈ gWs) {x : Int} {v1 : gV} (hx : inR x) (hv : (rwW k ad) (va_up v 24 x) f g = (rwW k ad) v1 f g) (hv2 : va_up v 24 x = v1 ∨ gOk v1 f) (hdg : decode cc pc = .ok (.putfield idx, 3)) (kk : ∀ (H1 : Heap) (locs1 : List Loc), gWd D (rwW k ad) v1 f g H1 → va_S A H0 H1 locs1 → W p l e R s m args below meth c H1 locs1 cells slots Q (F0 m (pc + 3) ls rest)) : W p l e R s m args below meth c H locs cells slots Q (F0 m pc ls (.int (iI x) :: .ref (ad 39) :: rest)) := va_put (D := D) (ci := 0) (ty := .int) (C := RX0) (T := TX0) (N := 4) C.1 C.2.1 C.2.2.1 gLx0 tyX0 tyX0_ok nmX0 C.2.2.2.1 C.2.2.2.2 hP.1 (hD v f g) hS 39 rfl rfl 0 (by decide) (C.2.2.1 _ hm) (fun _ h9 => h9) rfl (by decide +kernel) rfl rfl (Nat.le_of_ble_eq_true rfl) hdg (fun H1 locs1 h1 _ h3 => kk H1 locs1 ⟨hv ▸ (show va_P D vwCl ((rwW k ad) (va_up v 24 x) f g) H1 from h1), hv2.elim (fun q => q ▸ gR_up hP.2 24 hx) id⟩ h3)
theorem rwG_appeals_number (C : gC D k p s m args c cc own) (hP : gWd D (rwW k ad) v f g H) (hm : Cond.fieldLink own idx "RouteWall$Appeals" "number" "[I" ∈ gWs) (hdg : decode cc pc = .ok (.getfield idx, 3)) (kk : W p l e R s m args below meth c H locs cells slots Q (F0 m (pc + 3) ls (.ref (ad 40) :: rest))) : W p l e R s m args below meth c H locs cells slots Q (F0 m pc ls (.ref (ad 39) :: rest)) := va_get (D := D) (ci := 0) (C := RX0) (T := TX0) (N := 4) C.1 C.2.1 C.2.2.1 gLx0 C.2.2.2.1 C.2.2.2.2 hP.1 39 rfl rfl 1 (by decide) (C.2.2.1 _ hm) (fun _ h9 => h9) rfl hdg kk
theorem rwG_appeals_hold (C : gC D k p s m args c cc own) (hP : gWd D (rwW k ad) v f g H) (hm : Cond.fieldLink own idx "RouteWall$Appeals" "hold" "[I" ∈ gWs) (hdg : decode cc pc = .ok (.getfield idx, 3)) (kk : W p l e R s m args below meth c H locs cells slots Q (F0 m (pc + 3) ls (.ref (ad 41) :: rest))) : W p l e R s m args below meth c H locs cells slots Q (F0 m pc ls (.ref (ad 39) :: rest)) := va_get (D := D) (ci := 0) (C := RX0) (T := TX0) (N := 4) C.1 C.2.1 C.2.2.1 gLx0 C.2.2.2.1 C.2.2.2.2 hP.1 39 rfl rfl 2 (by decide) (C.2.2.1 _ hm) (fun _ h9 => h9) rfl hdg kk
theorem rwG_appeals_day (C : gC D k p s m args c cc own) (hP : gWd D (rwW k ad) v f g H) (hm : Cond.fieldLink own idx "RouteWall$Appeals" "day" "[I" ∈ gWs) (hdg : decode cc pc = .ok (.getfield idx, 3)) (kk : W p l e R s m args below meth c H locs cells slots Q (F0 m (pc + 3) ls (.ref (ad 42) :: rest))) : W p l e R s m args below meth c H locs cells slots Q (F0 m pc ls (.ref (ad 39) :: rest)) := va_get (D := D) (ci := 0) (C := RX0) (T := TX0) (N := 4) C.1 C.2.1 C.2.2.1 gLx0 C.2.2.2.1 C.2.2.2.2 hP.1 39 rfl rfl 3 (by decide) (C.2.2.1 _ hm) (fun _ h9 => h9) rfl hdg kk
theorem rwL_appeals_number (C : gC D k p s m args c cc own) (hP : gWd D (rwW k ad) v f g H) {i : Int} (h0 : 0 ≤ i) (h1 : i < 40) (hdg : decode cc pc = .ok (.iaload, 1)) (kk : W p l e R s m args below meth c H locs cells slots Q (F0 m (pc + 1) ls (.int (iI (f 28 i)) :: rest))) : W p l e R s m args below meth c H locs cells slots Q (F0 m pc ls (.int (iI i) :: .ref (ad 40) :: rest)) := g_iald C hP.1 40 rfl (by decide) h0 h1 hdg kk
theorem rwS_appeals_number (C : gC D k p s m args c cc own) (hP : gWd D (rwW k ad) v f g H) (hD : rwD A k ad) (hS : va_S A H0 H locs) {i x : Int} {f1 : gF} (h0 : 0 ≤ i) (h1 : i < 40) (hx : inR x) (hv : (rwW k ad) v (va_up f 28 (u1 (f 28) i x)) g = (rwW k ad) v f1 g) (hv2 : va_up f 28 (u1 (f 28) i x) = f1 ∨ gOk v f1) (hdg : decode cc pc = .ok (.iastore, 1)) (kk : ∀ (H1 : Heap) (locs1 : List Loc), gWd D (rwW k ad) v f1 g H1 → va_S A H0 H1 locs1 → W p l e R s m args below meth c H1 locs1 cells slots Q (F0 m (pc + 1) ls rest)) : W p l e R s m args below meth c H locs cells slots Q (F0 m pc ls (.int (iI x) :: .int (iI i) :: .ref (ad 40) :: rest)) := g_iast C hP.1 (hD v f g) hS 40 rfl (by decide) h0 h1 (ws' := (rwW k ad) v f1 g) (by rw [← hv]; rfl) hdg (fun H1 locs1 h1 h3 => kk H1 locs1 ⟨h1, hv2.elim (fun q => q ▸ gF_up hP.2 28 (u1_rng (hP.2.2 28) hx)) id⟩ h3)
theorem rwN_appeals_number (C : gC D k p s m args c cc own) (hP : gWd D (rwW k ad) v f g H) (hdg : decode cc pc = .ok (.arraylength, 1)) (kk : W p l e R s m args below meth c H locs cells slots Q (F0 m (pc + 1) ls (.int (iI 40) :: rest))) : W p l e R s m args below meth c H locs cells slots Q (F0 m pc ls (.ref (ad 40) :: rest)) := va_alen (D := D) C.1 C.2.1 C.2.2.2.2 hP.1 40 0 rfl rfl (v := iI 40) rfl hdg kk
theorem rwL_appeals_hold (C : gC D k p s m args c cc own) (hP : gWd D (rwW k ad) v f g H) {i : Int} (h0 : 0 ≤ i) (h1 : i < 40) (hdg : decode cc pc = .ok (.iaload, 1)) (kk : W p l e R s m args below meth c H locs cells slots Q (F0 m (pc + 1) ls (.int (iI (f 29 i)) :: rest))) : W p l e R s m args below meth c H locs cells slots Q (F0 m pc ls (.int (iI i) :: .ref (ad 41) :: rest)) := g_iald C hP.1 41 rfl (by decide) h0 h1 hdg kk
theorem rwS_appeals_hold (C : gC D k p s m args c cc own) (hP : gWd D (rwW k ad) v f g H) (hD : rwD A k ad) (hS : va_S A H0 H locs) {i x : Int} {f1 : gF} (h0 : 0 ≤ i) (h1 : i < 40) (hx : inR x) (hv : (rwW k ad) v (va_up f 29 (u1 (f 29) i x)) g = (rwW k ad) v f1 g) (hv2 : va_up f 29 (u1 (f 29) i x) = f1 ∨ gOk v f1) (hdg : decode cc pc = .ok (.iastore, 1)) (kk : ∀ (H1 : Heap) (locs1 : List Loc), gWd D (rwW k ad) v f1 g H1 → va_S A H0 H1 locs1 → W p l e R s m args below meth c H1 locs1 cells slots Q (F0 m (pc + 1) ls rest)) : W p l e R s m args below meth c H locs cells slots Q (F0 m pc ls (.int (iI x) :: .int (iI i) :: .ref (ad 41) :: rest)) := g_iast C hP.1 (hD v f g) hS 41 rfl (by decide) h0 h1 (ws' := (rwW k ad) v f1 g) (by rw [← hv]; rfl) hdg (fun H1 locs1 h1 h3 => kk H1 locs1 ⟨h1, hv2.elim (fun q => q ▸ gF_up hP.2 29 (u1_rng (hP.2.2 29) hx)) id⟩ h3)
theorem rwN_appeals_hold (C : gC D k p s m args c cc own) (hP : gWd D (rwW k ad) v f g H) (hdg : decode cc pc = .ok (.arraylength, 1)) (kk : W p l e R s m args below meth c H locs cells slots Q (F0 m (pc + 1) ls (.int (iI 40) :: rest))) : W p l e R s m args below meth c H locs cells slots Q (F0 m pc ls (.ref (ad 41) :: rest)) := va_alen (D := D) C.1 C.2.1 C.2.2.2.2 hP.1 41 0 rfl rfl (v := iI 40) rfl hdg kk
theorem rwL_appeals_day (C : gC D k p s m args c cc own) (hP : gWd D (rwW k ad) v f g H) {i : Int} (h0 : 0 ≤ i) (h1 : i < 40) (hdg : decode cc pc = .ok (.iaload, 1)) (kk : W p l e R s m args below meth c H locs cells slots Q (F0 m (pc + 1) ls (.int (iI (f 30 i)) :: rest))) : W p l e R s m args below meth c H locs cells slots Q (F0 m pc ls (.int (iI i) :: .ref (ad 42) :: rest)) := g_iald C hP.1 42 rfl (by decide) h0 h1 hdg kk
theorem rwS_appeals_day (C : gC D k p s m args c cc own) (hP : gWd D (rwW k ad) v f g H) (hD : rwD A k ad) (hS : va_S A H0 H locs) {i x : Int} {f1 : gF} (h0 : 0 ≤ i) (h1 : i < 40) (hx : inR x) (hv : (rwW k ad) v (va_up f 30 (u1 (f 30) i x)) g = (rwW k ad) v f1 g) (hv2 : va_up f 30 (u1 (f 30) i x) = f1 ∨ gOk v f1) (hdg : decode cc pc = .ok (.iastore, 1)) (kk : ∀ (H1 : Heap) (locs1 : List Loc), gWd D (rwW k ad) v f1 g H1 → va_S A H0 H1 locs1 → W p l e R s m args below meth c H1 locs1 cells slots Q (F0 m (pc + 1) ls rest)) : W p l e R s m args below meth c H locs cells slots Q (F0 m pc ls (.int (iI x) :: .int (iI i) :: .ref (ad 42) :: rest)) := g_iast C hP.1 (hD v f g) hS 42 rfl (by decide) h0 h1 (ws' := (rwW k ad) v f1 g) (by rw [← hv]; rfl) hdg (fun H1 locs1 h1 h3 => kk H1 locs1 ⟨h1, hv2.elim (fun q => q ▸ gF_up hP.2 30 (u1_rng (hP.2.2 30) hx)) id⟩ h3)
theorem rwN_appeals_day (C : gC D k p s m args c cc own) (hP : gWd D (rwW k ad) v f g H) (hdg : decode cc pc = .ok (.arraylength, 1)) (kk : W p l e R s m args below meth c H locs cells slots Q (F0 m (pc + 1) ls (.int (iI 40) :: rest))) : W p l e R s m args below meth c H locs cells slots Q (F0 m pc ls (.ref (ad 42) :: rest)) := va_alen (D := D) C.1 C.2.1 C.2.2.2.2 hP.1 42 0 rfl rfl (v := iI 40) rfl hdg kk
theorem rwG_watch_times (C : gC D k p s m args c cc own) (hP : gWd D (rwW k ad) v f g H) (hm : Cond.fieldLink own idx "RouteWall$Watch" "times" "[I" ∈ gWs) (hdg : decode cc pc = .ok (.getfield idx, 3)) (kk : W p l e R s m args below meth c H locs cells slots Q (F0 m (pc + 3) ls (.ref (ad 44) :: rest))) : W p l e R s m args below meth c H locs cells slots Q (F0 m pc ls (.ref (ad 43) :: rest)) := va_get (D := D) (ci := 9) (C := RX9) (T := TX9) (N := 3) C.1 C.2.1 C.2.2.1 gLx9 C.2.2.2.1 C.2.2.2.2 hP.1 43 rfl rfl 0 (by decide) (C.2.2.1 _ hm) (fun _ h9 => h9) rfl hdg kk
theorem rwG_watch_wentOut (C : gC D k p s m args c cc own) (hP : gWd D (rwW k ad) v f g H) (hm : Cond.fieldLink own idx "RouteWall$Watch" "wentOut" "[I" ∈ gWs) (hdg : decode cc pc = .ok (.getfield idx, 3)) (kk : W p l e R s m args below meth c H locs cells slots Q (F0 m (pc + 3) ls (.ref (ad 45) :: rest))) : W p l e R s m args below meth c H locs cells slots Q (F0 m pc ls (.ref (ad 43) :: rest)) := va_get (D := D) (ci := 9) (C := RX9) (T := TX9) (N := 3) C.1 C.2.1 C.2.2.1 gLx9 C.2.2.2.1 C.2.2.2.2 hP.1 43 rfl rfl 1 (by decide) (C.2.2.1 _ hm) (fun _ h9 => h9) rfl hdg kk
theorem rwG_watch_cameIn (C : gC D k p s m args c cc own) (hP : gWd D (rwW k ad) v f g H) (hm : Cond.fieldLink own idx "RouteWall$Watch" "cameIn" "[I" ∈ gWs) (hdg : decode cc pc = .ok (.getfield idx, 3)) (kk : W p l e R s m args below meth c H locs cells slots Q (F0 m (pc + 3) ls (.ref (ad 46) :: rest))) : W p l e R s m args below meth c H locs cells slots Q (F0 m pc ls (.ref (ad 43) :: rest)) := va_get (D := D) (ci := 9) (C := RX9) (T := TX9) (N := 3) C.1 C.2.1 C.2.2.1 gLx9 C.2.2.2.1 C.2.2.2.2 hP.1 43 rfl rfl 2 (by decide) (C.2.2.1 _ hm) (fun _ h9 => h9) rfl hdg kk
theorem rwL_watch_times (C : gC D k p s m args c cc own) (hP : gWd D (rwW k ad) v f g H) {i : Int} (h0 : 0 ≤ i) (h1 : i < 16) (hdg : decode cc pc = .ok (.iaload, 1)) (kk : W p l e R s m args below meth c H locs cells slots Q (F0 m (pc + 1) ls (.int (iI (f 31 i)) :: rest))) : W p l e R s m args below meth c H locs cells slots Q (F0 m pc ls (.int (iI i) :: .ref (ad 44) :: rest)) := g_iald C hP.1 44 rfl (by decide) h0 h1 hdg kk
theorem rwS_watch_times (C : gC D k p s m args c cc own) (hP : gWd D (rwW k ad) v f g H) (hD : rwD A k ad) (hS : va_S A H0 H locs) {i x : Int} {f1 : gF} (h0 : 0 ≤ i) (h1 : i < 16) (hx : inR x) (hv : (rwW k ad) v (va_up f 31 (u1 (f 31) i x)) g = (rwW k ad) v f1 g) (hv2 : va_up f 31 (u1 (f 31) i x) = f1 ∨ gOk v f1) (hdg : decode cc pc = .ok (.iastore, 1)) (kk : ∀ (H1 : Heap) (locs1 : List Loc), gWd D (rwW k ad) v f1 g H1 → va_S A H0 H1 locs1 → W p l e R s m args below meth c H1 locs1 cells slots Q (F0 m (pc + 1) ls rest)) : W p l e R s m args below meth c H locs cells slots Q (F0 m pc ls (.int (iI x) :: .int (iI i) :: .ref (ad 44) :: rest)) := g_iast C hP.1 (hD v f g) hS 44 rfl (by decide) h0 h1 (ws' := (rwW k ad) v f1 g) (by rw [← hv]; rfl) hdg (fun H1 locs1 h1 h3 => kk H1 locs1 ⟨h1, hv2.elim (fun q => q ▸ gF_up hP.2 31 (u1_rng (hP.2.2 31) hx)) id⟩ h3)
theorem rwN_watch_times (C : gC D k p s m args c cc own) (hP : gWd D (rwW k ad) v f g H) (hdg : decode cc pc = .ok (.arraylength, 1)) (kk : W p l e R s m args below meth c H locs cells slots Q (F0 m (pc + 1) ls (.int (iI 16) :: rest))) : W p l e R s m args below meth c H locs cells slots Q (F0 m pc ls (.ref (ad 44) :: rest)) := va_alen (D := D) C.1 C.2.1 C.2.2.2.2 hP.1 44 0 rfl rfl (v := iI 16) rfl hdg kk
theorem rwL_watch_wentOut (C : gC D k p s m args c cc own) (hP : gWd D (rwW k ad) v f g H) {i : Int} (h0 : 0 ≤ i) (h1 : i < 320) (hdg : decode cc pc = .ok (.iaload, 1)) (kk : W p l e R s m args below meth c H locs cells slots Q (F0 m (pc + 1) ls (.int (iI (f 32 i)) :: rest))) : W p l e R s m args below meth c H locs cells slots Q (F0 m pc ls (.int (iI i) :: .ref (ad 45) :: rest)) := g_iald C hP.1 45 rfl (by decide) h0 h1 hdg kk
theorem rwS_watch_wentOut (C : gC D k p s m args c cc own) (hP : gWd D (rwW k ad) v f g H) (hD : rwD A k ad) (hS : va_S A H0 H locs) {i x : Int} {f1 : gF} (h0 : 0 ≤ i) (h1 : i < 320) (hx : inR x) (hv : (rwW k ad) v (va_up f 32 (u1 (f 32) i x)) g = (rwW k ad) v f1 g) (hv2 : va_up f 32 (u1 (f 32) i x) = f1 ∨ gOk v f1) (hdg : decode cc pc = .ok (.iastore, 1)) (kk : ∀ (H1 : Heap) (locs1 : List Loc), gWd D (rwW k ad) v f1 g H1 → va_S A H0 H1 locs1 → W p l e R s m args below meth c H1 locs1 cells slots Q (F0 m (pc + 1) ls rest)) : W p l e R s m args below meth c H locs cells slots Q (F0 m pc ls (.int (iI x) :: .int (iI i) :: .ref (ad 45) :: rest)) := g_iast C hP.1 (hD v f g) hS 45 rfl (by decide) h0 h1 (ws' := (rwW k ad) v f1 g) (by rw [← hv]; rfl) hdg (fun H1 locs1 h1 h3 => kk H1 locs1 ⟨h1, hv2.elim (fun q => q ▸ gF_up hP.2 32 (u1_rng (hP.2.2 32) hx)) id⟩ h3)
theorem rwN_watch_wentOut (C : gC D k p s m args c cc own) (hP : gWd D (rwW k ad) v f g H) (hdg : decode cc pc = .ok (.arraylength, 1)) (kk : W p l e R s m args below meth c H locs cells slots Q (F0 m (pc + 1) ls (.int (iI 320) :: rest))) : W p l e R s m args below meth c H locs cells slots Q (F0 m pc ls (.ref (ad 45) :: rest)) := va_alen (D := D) C.1 C.2.1 C.2.2.2.2 hP.1 45 0 rfl rfl (v := iI 320) rfl hdg kk
theorem rwL_watch_cameIn (C : gC D k p s m args c cc own) (hP : gWd D (rwW k ad) v f g H) {i : Int} (h0 : 0 ≤ i) (h1 : i < 320) (hdg : decode cc pc = .ok (.iaload, 1)) (kk : W p l e R s m args below meth c H locs cells slots Q (F0 m (pc + 1) ls (.int (iI (f 33 i)) :: rest))) : W p l e R s m args below meth c H locs cells slots Q (F0 m pc ls (.int (iI i) :: .ref (ad 46) :: rest)) := g_iald C hP.1 46 rfl (by decide) h0 h1 hdg kk
theorem rwS_watch_cameIn (C : gC D k p s m args c cc own) (hP : gWd D (rwW k ad) v f g H) (hD : rwD A k ad) (hS : va_S A H0 H locs) {i x : Int} {f1 : gF} (h0 : 0 ≤ i) (h1 : i < 320) (hx : inR x) (hv : (rwW k ad) v (va_up f 33 (u1 (f 33) i x)) g = (rwW k ad) v f1 g) (hv2 : va_up f 33 (u1 (f 33) i x) = f1 ∨ gOk v f1) (hdg : decode cc pc = .ok (.iastore, 1)) (kk : ∀ (H1 : Heap) (locs1 : List Loc), gWd D (rwW k ad) v f1 g H1 → va_S A H0 H1 locs1 → W p l e R s m args below meth c H1 locs1 cells slots Q (F0 m (pc + 1) ls rest)) : W p l e R s m args below meth c H locs cells slots Q (F0 m pc ls (.int (iI x) :: .int (iI i) :: .ref (ad 46) :: rest)) := g_iast C hP.1 (hD v f g) hS 46 rfl (by decide) h0 h1 (ws' := (rwW k ad) v f1 g) (by rw [← hv]; rfl) hdg (fun H1 locs1 h1 h3 => kk H1 locs1 ⟨h1, hv2.elim (fun q => q ▸ gF_up hP.2 33 (u1_rng (hP.2.2 33) hx)) id⟩ h3)
theorem rwN_watch_cameIn (C : gC D k p s m args c cc own) (hP : gWd D (rwW k ad) v f g H) (hdg : decode cc pc = .ok (.arraylength, 1)) (kk : W p l e R s m args below meth c H locs cells slots Q (F0 m (pc + 1) ls (.int (iI 320) :: rest))) : W p l e R s m args below meth c H locs cells slots Q (F0 m pc ls (.ref (ad 46) :: rest)) := va_alen (D := D) C.1 C.2.1 C.2.2.2.2 hP.1 46 0 rfl rfl (v := iI 320) rfl hdg kk
theorem rwG_results_laws (C : gC D k p s m args c cc own) (hP : gWd D (rwW k ad) v f g H) (hm : Cond.fieldLink own idx "RouteWall$Results" "laws" "LRouteWall$Laws;" ∈ gWs) (hdg : decode cc pc = .ok (.getfield idx, 3)) (kk : W p l e R s m args below meth c H locs cells slots Q (F0 m (pc + 3) ls (.ref (ad 2) :: rest))) : W p l e R s m args below meth c H locs cells slots Q (F0 m pc ls (.ref (ad 47) :: rest)) := va_get (D := D) (ci := 5) (C := RX5) (T := TX5) (N := 15) C.1 C.2.1 C.2.2.1 gLx5 C.2.2.2.1 C.2.2.2.2 hP.1 47 rfl rfl 0 (by decide) (C.2.2.1 _ hm) (fun _ h9 => h9) rfl hdg kk
theorem rwG_results_wall (C : gC D k p s m args c cc own) (hP : gWd D (rwW k ad) v f g H) (hm : Cond.fieldLink own idx "RouteWall$Results" "wall" "LRouteWall$Wall;" ∈ gWs) (hdg : decode cc pc = .ok (.getfield idx, 3)) (kk : W p l e R s m args below meth c H locs cells slots Q (F0 m (pc + 3) ls (.ref (ad 23) :: rest))) : W p l e R s m args below meth c H locs cells slots Q (F0 m pc ls (.ref (ad 47) :: rest)) := va_get (D := D) (ci := 5) (C := RX5) (T := TX5) (N := 15) C.1 C.2.1 C.2.2.1 gLx5 C.2.2.2.1 C.2.2.2.2 hP.1 47 rfl rfl 1 (by decide) (C.2.2.1 _ hm) (fun _ h9 => h9) rfl hdg kk
theorem rwG_results_field (C : gC D k p s m args c cc own) (hP : gWd D (rwW k ad) v f g H) (hm : Cond.fieldLink own idx "RouteWall$Results" "field" "LRouteWall$Field;" ∈ gWs) (hdg : decode cc pc = .ok (.getfield idx, 3)) (kk : W p l e R s m args below meth c H locs cells slots Q (F0 m (pc + 3) ls (.ref (ad 27) :: rest))) : W p l e R s m args below meth c H locs cells slots Q (F0 m pc ls (.ref (ad 47) :: rest)) := va_get (D := D) (ci := 5) (C := RX5) (T := TX5) (N := 15) C.1 C.2.1 C.2.2.1 gLx5 C.2.2.2.1 C.2.2.2.2 hP.1 47 rfl rfl 2 (by decide) (C.2.2.1 _ hm) (fun _ h9 => h9) rfl hdg kk
theorem rwG_results_tries (C : gC D k p s m args c cc own) (hP : gWd D (rwW k ad) v f g H) (hm : Cond.fieldLink own idx "RouteWall$Results" "tries" "LRouteWall$Tries;" ∈ gWs) (hdg : decode cc pc = .ok (.getfield idx, 3)) (kk : W p l e R s m args below meth c H locs cells slots Q (F0 m (pc + 3) ls (.ref (ad 30) :: rest))) : W p l e R s m args below meth c H locs cells slots Q (F0 m pc ls (.ref (ad 47) :: rest)) := va_get (D := D) (ci := 5) (C := RX5) (T := TX5) (N := 15) C.1 C.2.1 C.2.2.1 gLx5 C.2.2.2.1 C.2.2.2.2 hP.1 47 rfl rfl 3 (by decide) (C.2.2.1 _ hm) (fun _ h9 => h9) rfl hdg kk
theorem rwG_results_appeals (C : gC D k p s m args c cc own) (hP : gWd D (rwW k ad) v f g H) (hm : Cond.fieldLink own idx "RouteWall$Results" "appeals" "LRouteWall$Appeals;" ∈ gWs) (hdg : decode cc pc = .ok (.getfield idx, 3)) (kk : W p l e R s m args below meth c H locs cells slots Q (F0 m (pc + 3) ls (.ref (ad 39) :: rest))) : W p l e R s m args below meth c H locs cells slots Q (F0 m pc ls (.ref (ad 47) :: rest)) := va_get (D := D) (ci := 5) (C := RX5) (T := TX5) (N := 15) C.1 C.2.1 C.2.2.1 gLx5 C.2.2.2.1 C.2.2.2.2 hP.1 47 rfl rfl 4 (by decide) (C.2.2.1 _ hm) (fun _ h9 => h9) rfl hdg kk
theorem rwG_results_known (C : gC D k p s m args c cc own) (hP : gWd D (rwW k ad) v f g H) (hm : Cond.fieldLink own idx "RouteWall$Results" "known" "[I" ∈ gWs) (hdg : decode cc pc = .ok (.getfield idx, 3)) (kk : W p l e R s m args below meth c H locs cells slots Q (F0 m (pc + 3) ls (.ref (ad 48) :: rest))) : W p l e R s m args below meth c H locs cells slots Q (F0 m pc ls (.ref (ad 47) :: rest)) := va_get (D := D) (ci := 5) (C := RX5) (T := TX5) (N := 15) C.1 C.2.1 C.2.2.1 gLx5 C.2.2.2.1 C.2.2.2.2 hP.1 47 rfl rfl 5 (by decide) (C.2.2.1 _ hm) (fun _ h9 => h9) rfl hdg kk
theorem rwG_results_knownDay (C : gC D k p s m args c cc own) (hP : gWd D (rwW k ad) v f g H) (hm : Cond.fieldLink own idx "RouteWall$Results" "knownDay" "[I" ∈ gWs) (hdg : decode cc pc = .ok (.getfield idx, 3)) (kk : W p l e R s m args below meth c H locs cells slots Q (F0 m (pc + 3) ls (.ref (ad 49) :: rest))) : W p l e R s m args below meth c H locs cells slots Q (F0 m pc ls (.ref (ad 47) :: rest)) := va_get (D := D) (ci := 5) (C := RX5) (T := TX5) (N := 15) C.1 C.2.1 C.2.2.1 gLx5 C.2.2.2.1 C.2.2.2.2 hP.1 47 rfl rfl 6 (by decide) (C.2.2.1 _ hm) (fun _ h9 => h9) rfl hdg kk
theorem rwG_results_counted (C : gC D k p s m args c cc own) (hP : gWd D (rwW k ad) v f g H) (hm : Cond.fieldLink own idx "RouteWall$Results" "counted" "[I" ∈ gWs) (hdg : decode cc pc = .ok (.getfield idx, 3)) (kk : W p l e R s m args below meth c H locs cells slots Q (F0 m (pc + 3) ls (.ref (ad 50) :: rest))) : W p l e R s m args below meth c H locs cells slots Q (F0 m pc ls (.ref (ad 47) :: rest)) := va_get (D := D) (ci := 5) (C := RX5) (T := TX5) (N := 15) C.1 C.2.1 C.2.2.1 gLx5 C.2.2.2.1 C.2.2.2.2 hP.1 47 rfl rfl 7 (by decide) (C.2.2.1 _ hm) (fun _ h9 => h9) rfl hdg kk
theorem rwG_results_best (C : gC D k p s m args c cc own) (hP : gWd D (rwW k ad) v f g H) (hm : Cond.fieldLink own idx "RouteWall$Results" "best" "[I" ∈ gWs) (hdg : decode cc pc = .ok (.getfield idx, 3)) (kk : W p l e R s m args below meth c H locs cells slots Q (F0 m (pc + 3) ls (.ref (ad 51) :: rest))) : W p l e R s m args below meth c H locs cells slots Q (F0 m pc ls (.ref (ad 47) :: rest)) := va_get (D := D) (ci := 5) (C := RX5) (T := TX5) (N := 15) C.1 C.2.1 C.2.2.1 gLx5 C.2.2.2.1 C.2.2.2.2 hP.1 47 rfl rfl 8 (by decide) (C.2.2.1 _ hm) (fun _ h9 => h9) rfl hdg kk
theorem rwG_results_bestNumber (C : gC D k p s m args c cc own) (hP : gWd D (rwW k ad) v f g H) (hm : Cond.fieldLink own idx "RouteWall$Results" "bestNumber" "[I" ∈ gWs) (hdg : decode cc pc = .ok (.getfield idx, 3)) (kk : W p l e R s m args below meth c H locs cells slots Q (F0 m (pc + 3) ls (.ref (ad 52) :: rest))) : W p l e R s m args below meth c H locs cells slots Q (F0 m pc ls (.ref (ad 47) :: rest)) := va_get (D := D) (ci := 5) (C := RX5) (T := TX5) (N := 15) C.1 C.2.1 C.2.2.1 gLx5 C.2.2.2.1 C.2.2.2.2 hP.1 47 rfl rfl 9 (by decide) (C.2.2.1 _ hm) (fun _ h9 => h9) rfl hdg kk
theorem rwG_results_facts (C : gC D k p s m args c cc own) (hP : gWd D (rwW k ad) v f g H) (hm : Cond.fieldLink own idx "RouteWall$Results" "facts" "[I" ∈ gWs) (hdg : decode cc pc = .ok (.getfield idx, 3)) (kk : W p l e R s m args below meth c H locs cells slots Q (F0 m (pc + 3) ls (.ref (ad 53) :: rest))) : W p l e R s m args below meth c H locs cells slots Q (F0 m pc ls (.ref (ad 47) :: rest)) := va_get (D := D) (ci := 5) (C := RX5) (T := TX5) (N := 15) C.1 C.2.1 C.2.2.1 gLx5 C.2.2.2.1 C.2.2.2.2 hP.1 47 rfl rfl 10 (by decide) (C.2.2.1 _ hm) (fun _ h9 => h9) rfl hdg kk
theorem rwG_results_points (C : gC D k p s m args c cc own) (hP : gWd D (rwW k ad) v f g H) (hm : Cond.fieldLink own idx "RouteWall$Results" "points" "[I" ∈ gWs) (hdg : decode cc pc = .ok (.getfield idx, 3)) (kk : W p l e R s m args below meth c H locs cells slots Q (F0 m (pc + 3) ls (.ref (ad 54) :: rest))) : W p l e R s m args below meth c H locs cells slots Q (F0 m pc ls (.ref (ad 47) :: rest)) := va_get (D := D) (ci := 5) (C := RX5) (T := TX5) (N := 15) C.1 C.2.1 C.2.2.1 gLx5 C.2.2.2.1 C.2.2.2.2 hP.1 47 rfl rfl 11 (by decide) (C.2.2.1 _ hm) (fun _ h9 => h9) rfl hdg kk
theorem rwG_results_totals (C : gC D k p s m args c cc own) (hP : gWd D (rwW k ad) v f g H) (hm : Cond.fieldLink own idx "RouteWall$Results" "totals" "[J" ∈ gWs) (hdg : decode cc pc = .ok (.getfield idx, 3)) (kk : W p l e R s m args below meth c H locs cells slots Q (F0 m (pc + 3) ls (.ref (ad 55) :: rest))) : W p l e R s m args below meth c H locs cells slots Q (F0 m pc ls (.ref (ad 47) :: rest)) := va_get (D := D) (ci := 5) (C := RX5) (T := TX5) (N := 15) C.1 C.2.1 C.2.2.1 gLx5 C.2.2.2.1 C.2.2.2.2 hP.1 47 rfl rfl 12 (by decide) (C.2.2.1 _ hm) (fun _ h9 => h9) rfl hdg kk
theorem rwG_results_keyRows (C : gC D k p s m args c cc own) (hP : gWd D (rwW k ad) v f g H) (hm : Cond.fieldLink own idx "RouteWall$Results" "keyRows" "[J" ∈ gWs) (hdg : decode cc pc = .ok (.getfield idx, 3)) (kk : W p l e R s m args below meth c H locs cells slots Q (F0 m (pc + 3) ls (.ref (ad 56) :: rest))) : W p l e R s m args below meth c H locs cells slots Q (F0 m pc ls (.ref (ad 47) :: rest)) := va_get (D := D) (ci := 5) (C := RX5) (T := TX5) (N := 15) C.1 C.2.1 C.2.2.1 gLx5 C.2.2.2.1 C.2.2.2.2 hP.1 47 rfl rfl 13 (by decide) (C.2.2.1 _ hm) (fun _ h9 => h9) rfl hdg kk
theorem rwG_results_ranks (C : gC D k p s m args c cc own) (hP : gWd D (rwW k ad) v f g H) (hm : Cond.fieldLink own idx "RouteWall$Results" "ranks" "[I" ∈ gWs) (hdg : decode cc pc = .ok (.getfield idx, 3)) (kk : W p l e R s m args below meth c H locs cells slots Q (F0 m (pc + 3) ls (.ref (ad 57) :: rest))) : W p l e R s m args below meth c H locs cells slots Q (F0 m pc ls (.ref (ad 47) :: rest)) := va_get (D := D) (ci := 5) (C := RX5) (T := TX5) (N := 15) C.1 C.2.1 C.2.2.1 gLx5 C.2.2.2.1 C.2.2.2.2 hP.1 47 rfl rfl 14 (by decide) (C.2.2.1 _ hm) (fun _ h9 => h9) rfl hdg kk
theorem rwL_results_known (C : gC D k p s m args c cc own) (hP : gWd D (rwW k ad) v f g H) {i : Int} (h0 : 0 ≤ i) (h1 : i < 300) (hdg : decode cc pc = .ok (.iaload, 1)) (kk : W p l e R s m args below meth c H locs cells slots Q (F0 m (pc + 1) ls (.int (iI (f 34 i)) :: rest))) : W p l e R s m args below meth c H locs cells slots Q (F0 m pc ls (.int (iI i) :: .ref (ad 48) :: rest)) := g_iald C hP.1 48 rfl (by decide) h0 h1 hdg kk
theorem rwS_results_known (C : gC D k p s m args c cc own) (hP : gWd D (rwW k ad) v f g H) (hD : rwD A k ad) (hS : va_S A H0 H locs) {i x : Int} {f1 : gF} (h0 : 0 ≤ i) (h1 : i < 300) (hx : inR x) (hv : (rwW k ad) v (va_up f 34 (u1 (f 34) i x)) g = (rwW k ad) v f1 g) (hv2 : va_up f 34 (u1 (f 34) i x) = f1 ∨ gOk v f1) (hdg : decode cc pc = .ok (.iastore, 1)) (kk : ∀ (H1 : Heap) (locs1 : List Loc), gWd D (rwW k ad) v f1 g H1 → va_S A H0 H1 locs1 → W p l e R s m args below meth c H1 locs1 cells slots Q (F0 m (pc + 1) ls rest)) : W p l e R s m args below meth c H locs cells slots Q (F0 m pc ls (.int (iI x) :: .int (iI i) :: .ref (ad 48) :: rest)) := g_iast C hP.1 (hD v f g) hS 48 rfl (by decide) h0 h1 (ws' := (rwW k ad) v f1 g) (by rw [← hv]; rfl) hdg (fun H1 locs1 h1 h3 => kk H1 locs1 ⟨h1, hv2.elim (fun q => q ▸ gF_up hP.2 34 (u1_rng (hP.2.2 34) hx)) id⟩ h3)
theorem rwN_results_known (C : gC D k p s m args c cc own) (hP : gWd D (rwW k ad) v f g H) (hdg : decode cc pc = .ok (.arraylength, 1)) (kk : W p l e R s m args below meth c H locs cells slots Q (F0 m (pc + 1) ls (.int (iI 300) :: rest))) : W p l e R s m args below meth c H locs cells slots Q (F0 m pc ls (.ref (ad 48) :: rest)) := va_alen (D := D) C.1 C.2.1 C.2.2.2.2 hP.1 48 0 rfl rfl (v := iI 300) rfl hdg kk
theorem rwL_results_knownDay (C : gC D k p s m args c cc own) (hP : gWd D (rwW k ad) v f g H) {i : Int} (h0 : 0 ≤ i) (h1 : i < 300) (hdg : decode cc pc = .ok (.iaload, 1)) (kk : W p l e R s m args below meth c H locs cells slots Q (F0 m (pc + 1) ls (.int (iI (f 35 i)) :: rest))) : W p l e R s m args below meth c H locs cells slots Q (F0 m pc ls (.int (iI i) :: .ref (ad 49) :: rest)) := g_iald C hP.1 49 rfl (by decide) h0 h1 hdg kk
theorem rwS_results_knownDay (C : gC D k p s m args c cc own) (hP : gWd D (rwW k ad) v f g H) (hD : rwD A k ad) (hS : va_S A H0 H locs) {i x : Int} {f1 : gF} (h0 : 0 ≤ i) (h1 : i < 300) (hx : inR x) (hv : (rwW k ad) v (va_up f 35 (u1 (f 35) i x)) g = (rwW k ad) v f1 g) (hv2 : va_up f 35 (u1 (f 35) i x) = f1 ∨ gOk v f1) (hdg : decode cc pc = .ok (.iastore, 1)) (kk : ∀ (H1 : Heap) (locs1 : List Loc), gWd D (rwW k ad) v f1 g H1 → va_S A H0 H1 locs1 → W p l e R s m args below meth c H1 locs1 cells slots Q (F0 m (pc + 1) ls rest)) : W p l e R s m args below meth c H locs cells slots Q (F0 m pc ls (.int (iI x) :: .int (iI i) :: .ref (ad 49) :: rest)) := g_iast C hP.1 (hD v f g) hS 49 rfl (by decide) h0 h1 (ws' := (rwW k ad) v f1 g) (by rw [← hv]; rfl) hdg (fun H1 locs1 h1 h3 => kk H1 locs1 ⟨h1, hv2.elim (fun q => q ▸ gF_up hP.2 35 (u1_rng (hP.2.2 35) hx)) id⟩ h3)
theorem rwN_results_knownDay (C : gC D k p s m args c cc own) (hP : gWd D (rwW k ad) v f g H) (hdg : decode cc pc = .ok (.arraylength, 1)) (kk : W p l e R s m args below meth c H locs cells slots Q (F0 m (pc + 1) ls (.int (iI 300) :: rest))) : W p l e R s m args below meth c H locs cells slots Q (F0 m pc ls (.ref (ad 49) :: rest)) := va_alen (D := D) C.1 C.2.1 C.2.2.2.2 hP.1 49 0 rfl rfl (v := iI 300) rfl hdg kk
theorem rwL_results_counted (C : gC D k p s m args c cc own) (hP : gWd D (rwW k ad) v f g H) {i : Int} (h0 : 0 ≤ i) (h1 : i < 320) (hdg : decode cc pc = .ok (.iaload, 1)) (kk : W p l e R s m args below meth c H locs cells slots Q (F0 m (pc + 1) ls (.int (iI (f 36 i)) :: rest))) : W p l e R s m args below meth c H locs cells slots Q (F0 m pc ls (.int (iI i) :: .ref (ad 50) :: rest)) := g_iald C hP.1 50 rfl (by decide) h0 h1 hdg kk
theorem rwS_results_counted (C : gC D k p s m args c cc own) (hP : gWd D (rwW k ad) v f g H) (hD : rwD A k ad) (hS : va_S A H0 H locs) {i x : Int} {f1 : gF} (h0 : 0 ≤ i) (h1 : i < 320) (hx : inR x) (hv : (rwW k ad) v (va_up f 36 (u1 (f 36) i x)) g = (rwW k ad) v f1 g) (hv2 : va_up f 36 (u1 (f 36) i x) = f1 ∨ gOk v f1) (hdg : decode cc pc = .ok (.iastore, 1)) (kk : ∀ (H1 : Heap) (locs1 : List Loc), gWd D (rwW k ad) v f1 g H1 → va_S A H0 H1 locs1 → W p l e R s m args below meth c H1 locs1 cells slots Q (F0 m (pc + 1) ls rest)) : W p l e R s m args below meth c H locs cells slots Q (F0 m pc ls (.int (iI x) :: .int (iI i) :: .ref (ad 50) :: rest)) := g_iast C hP.1 (hD v f g) hS 50 rfl (by decide) h0 h1 (ws' := (rwW k ad) v f1 g) (by rw [← hv]; rfl) hdg (fun H1 locs1 h1 h3 => kk H1 locs1 ⟨h1, hv2.elim (fun q => q ▸ gF_up hP.2 36 (u1_rng (hP.2.2 36) hx)) id⟩ h3)
theorem rwN_results_counted (C : gC D k p s m args c cc own) (hP : gWd D (rwW k ad) v f g H) (hdg : decode cc pc = .ok (.arraylength, 1)) (kk : W p l e R s m args below meth c H locs cells slots Q (F0 m (pc + 1) ls (.int (iI 320) :: rest))) : W p l e R s m args below meth c H locs cells slots Q (F0 m pc ls (.ref (ad 50) :: rest)) := va_alen (D := D) C.1 C.2.1 C.2.2.2.2 hP.1 50 0 rfl rfl (v := iI 320) rfl hdg kk
theorem rwL_results_best (C : gC D k p s m args c cc own) (hP : gWd D (rwW k ad) v f g H) {i : Int} (h0 : 0 ≤ i) (h1 : i < 320) (hdg : decode cc pc = .ok (.iaload, 1)) (kk : W p l e R s m args below meth c H locs cells slots Q (F0 m (pc + 1) ls (.int (iI (f 37 i)) :: rest))) : W p l e R s m args below meth c H locs cells slots Q (F0 m pc ls (.int (iI i) :: .ref (ad 51) :: rest)) := g_iald C hP.1 51 rfl (by decide) h0 h1 hdg kk
theorem rwS_results_best (C : gC D k p s m args c cc own) (hP : gWd D (rwW k ad) v f g H) (hD : rwD A k ad) (hS : va_S A H0 H locs) {i x : Int} {f1 : gF} (h0 : 0 ≤ i) (h1 : i < 320) (hx : inR x) (hv : (rwW k ad) v (va_up f 37 (u1 (f 37) i x)) g = (rwW k ad) v f1 g) (hv2 : va_up f 37 (u1 (f 37) i x) = f1 ∨ gOk v f1) (hdg : decode cc pc = .ok (.iastore, 1)) (kk : ∀ (H1 : Heap) (locs1 : List Loc), gWd D (rwW k ad) v f1 g H1 → va_S A H0 H1 locs1 → W p l e R s m args below meth c H1 locs1 cells slots Q (F0 m (pc + 1) ls rest)) : W p l e R s m args below meth c H locs cells slots Q (F0 m pc ls (.int (iI x) :: .int (iI i) :: .ref (ad 51) :: rest)) := g_iast C hP.1 (hD v f g) hS 51 rfl (by decide) h0 h1 (ws' := (rwW k ad) v f1 g) (by rw [← hv]; rfl) hdg (fun H1 locs1 h1 h3 => kk H1 locs1 ⟨h1, hv2.elim (fun q => q ▸ gF_up hP.2 37 (u1_rng (hP.2.2 37) hx)) id⟩ h3)
theorem rwN_results_best (C : gC D k p s m args c cc own) (hP : gWd D (rwW k ad) v f g H) (hdg : decode cc pc = .ok (.arraylength, 1)) (kk : W p l e R s m args below meth c H locs cells slots Q (F0 m (pc + 1) ls (.int (iI 320) :: rest))) : W p l e R s m args below meth c H locs cells slots Q (F0 m pc ls (.ref (ad 51) :: rest)) := va_alen (D := D) C.1 C.2.1 C.2.2.2.2 hP.1 51 0 rfl rfl (v := iI 320) rfl hdg kk
theorem rwL_results_bestNumber (C : gC D k p s m args c cc own) (hP : gWd D (rwW k ad) v f g H) {i : Int} (h0 : 0 ≤ i) (h1 : i < 320) (hdg : decode cc pc = .ok (.iaload, 1)) (kk : W p l e R s m args below meth c H locs cells slots Q (F0 m (pc + 1) ls (.int (iI (f 38 i)) :: rest))) : W p l e R s m args below meth c H locs cells slots Q (F0 m pc ls (.int (iI i) :: .ref (ad 52) :: rest)) := g_iald C hP.1 52 rfl (by decide) h0 h1 hdg kk
theorem rwS_results_bestNumber (C : gC D k p s m args c cc own) (hP : gWd D (rwW k ad) v f g H) (hD : rwD A k ad) (hS : va_S A H0 H locs) {i x : Int} {f1 : gF} (h0 : 0 ≤ i) (h1 : i < 320) (hx : inR x) (hv : (rwW k ad) v (va_up f 38 (u1 (f 38) i x)) g = (rwW k ad) v f1 g) (hv2 : va_up f 38 (u1 (f 38) i x) = f1 ∨ gOk v f1) (hdg : decode cc pc = .ok (.iastore, 1)) (kk : ∀ (H1 : Heap) (locs1 : List Loc), gWd D (rwW k ad) v f1 g H1 → va_S A H0 H1 locs1 → W p l e R s m args below meth c H1 locs1 cells slots Q (F0 m (pc + 1) ls rest)) : W p l e R s m args below meth c H locs cells slots Q (F0 m pc ls (.int (iI x) :: .int (iI i) :: .ref (ad 52) :: rest)) := g_iast C hP.1 (hD v f g) hS 52 rfl (by decide) h0 h1 (ws' := (rwW k ad) v f1 g) (by rw [← hv]; rfl) hdg (fun H1 locs1 h1 h3 => kk H1 locs1 ⟨h1, hv2.elim (fun q => q ▸ gF_up hP.2 38 (u1_rng (hP.2.2 38) hx)) id⟩ h3)
theorem rwN_results_bestNumber (C : gC D k p s m args c cc own) (hP : gWd D (rwW k ad) v f g H) (hdg : decode cc pc = .ok (.arraylength, 1)) (kk : W p l e R s m args below meth c H locs cells slots Q (F0 m (pc + 1) ls (.int (iI 320) :: rest))) : W p l e R s m args below meth c H locs cells slots Q (F0 m pc ls (.ref (ad 52) :: rest)) := va_alen (D := D) C.1 C.2.1 C.2.2.2.2 hP.1 52 0 rfl rfl (v := iI 320) rfl hdg kk
theorem rwL_results_facts (C : gC D k p s m args c cc own) (hP : gWd D (rwW k ad) v f g H) {i : Int} (h0 : 0 ≤ i) (h1 : i < 6) (hdg : decode cc pc = .ok (.iaload, 1)) (kk : W p l e R s m args below meth c H locs cells slots Q (F0 m (pc + 1) ls (.int (iI (f 39 i)) :: rest))) : W p l e R s m args below meth c H locs cells slots Q (F0 m pc ls (.int (iI i) :: .ref (ad 53) :: rest)) := g_iald C hP.1 53 rfl (by decide) h0 h1 hdg kk
theorem rwS_results_facts (C : gC D k p s m args c cc own) (hP : gWd D (rwW k ad) v f g H) (hD : rwD A k ad) (hS : va_S A H0 H locs) {i x : Int} {f1 : gF} (h0 : 0 ≤ i) (h1 : i < 6) (hx : inR x) (hv : (rwW k ad) v (va_up f 39 (u1 (f 39) i x)) g = (rwW k ad) v f1 g) (hv2 : va_up f 39 (u1 (f 39) i x) = f1 ∨ gOk v f1) (hdg : decode cc pc = .ok (.iastore, 1)) (kk : ∀ (H1 : Heap) (locs1 : List Loc), gWd D (rwW k ad) v f1 g H1 → va_S A H0 H1 locs1 → W p l e R s m args below meth c H1 locs1 cells slots Q (F0 m (pc + 1) ls rest)) : W p l e R s m args below meth c H locs cells slots Q (F0 m pc ls (.int (iI x) :: .int (iI i) :: .ref (ad 53) :: rest)) := g_iast C hP.1 (hD v f g) hS 53 rfl (by decide) h0 h1 (ws' := (rwW k ad) v f1 g) (by rw [← hv]; rfl) hdg (fun H1 locs1 h1 h3 => kk H1 locs1 ⟨h1, hv2.elim (fun q => q ▸ gF_up hP.2 39 (u1_rng (hP.2.2 39) hx)) id⟩ h3)
theorem rwN_results_facts (C : gC D k p s m args c cc own) (hP : gWd D (rwW k ad) v f g H) (hdg : decode cc pc = .ok (.arraylength, 1)) (kk : W p l e R s m args below meth c H locs cells slots Q (F0 m (pc + 1) ls (.int (iI 6) :: rest))) : W p l e R s m args below meth c H locs cells slots Q (F0 m pc ls (.ref (ad 53) :: rest)) := va_alen (D := D) C.1 C.2.1 C.2.2.2.2 hP.1 53 0 rfl rfl (v := iI 6) rfl hdg kk
theorem rwL_results_points (C : gC D k p s m args c cc own) (hP : gWd D (rwW k ad) v f g H) {i : Int} (h0 : 0 ≤ i) (h1 : i < 80) (hdg : decode cc pc = .ok (.iaload, 1)) (kk : W p l e R s m args below meth c H locs cells slots Q (F0 m (pc + 1) ls (.int (iI (f 40 i)) :: rest))) : W p l e R s m args below meth c H locs cells slots Q (F0 m pc ls (.int (iI i) :: .ref (ad 54) :: rest)) := g_iald C hP.1 54 rfl (by decide) h0 h1 hdg kk
theorem rwS_results_points (C : gC D k p s m args c cc own) (hP : gWd D (rwW k ad) v f g H) (hD : rwD A k ad) (hS : va_S A H0 H locs) {i x : Int} {f1 : gF} (h0 : 0 ≤ i) (h1 : i < 80) (hx : inR x) (hv : (rwW k ad) v (va_up f 40 (u1 (f 40) i x)) g = (rwW k ad) v f1 g) (hv2 : va_up f 40 (u1 (f 40) i x) = f1 ∨ gOk v f1) (hdg : decode cc pc = .ok (.iastore, 1)) (kk : ∀ (H1 : Heap) (locs1 : List Loc), gWd D (rwW k ad) v f1 g H1 → va_S A H0 H1 locs1 → W p l e R s m args below meth c H1 locs1 cells slots Q (F0 m (pc + 1) ls rest)) : W p l e R s m args below meth c H locs cells slots Q (F0 m pc ls (.int (iI x) :: .int (iI i) :: .ref (ad 54) :: rest)) := g_iast C hP.1 (hD v f g) hS 54 rfl (by decide) h0 h1 (ws' := (rwW k ad) v f1 g) (by rw [← hv]; rfl) hdg (fun H1 locs1 h1 h3 => kk H1 locs1 ⟨h1, hv2.elim (fun q => q ▸ gF_up hP.2 40 (u1_rng (hP.2.2 40) hx)) id⟩ h3)
theorem rwN_results_points (C : gC D k p s m args c cc own) (hP : gWd D (rwW k ad) v f g H) (hdg : decode cc pc = .ok (.arraylength, 1)) (kk : W p l e R s m args below meth c H locs cells slots Q (F0 m (pc + 1) ls (.int (iI 80) :: rest))) : W p l e R s m args below meth c H locs cells slots Q (F0 m pc ls (.ref (ad 54) :: rest)) := va_alen (D := D) C.1 C.2.1 C.2.2.2.2 hP.1 54 0 rfl rfl (v := iI 80) rfl hdg kk
theorem rwL_results_totals (C : gC D k p s m args c cc own) (hP : gWd D (rwW k ad) v f g H) {i : Int} (h0 : 0 ≤ i) (h1 : i < 4) (hdg : decode cc pc = .ok (.laload, 1)) (kk : W p l e R s m args below meth c H locs cells slots Q (F0 m (pc + 1) ls (.long (iL (g 2 i)) :: rest))) : W p l e R s m args below meth c H locs cells slots Q (F0 m pc ls (.int (iI i) :: .ref (ad 55) :: rest)) := g_lald C hP.1 55 rfl (by decide) h0 h1 hdg kk
theorem rwS_results_totals (C : gC D k p s m args c cc own) (hP : gWd D (rwW k ad) v f g H) (hD : rwD A k ad) (hS : va_S A H0 H locs) {i x : Int} {g1 : gF} (h0 : 0 ≤ i) (h1 : i < 4) (hv : (rwW k ad) v f (va_up g 2 (u1 (g 2) i x)) = (rwW k ad) v f g1) (hdg : decode cc pc = .ok (.lastore, 1)) (kk : ∀ (H1 : Heap) (locs1 : List Loc), gWd D (rwW k ad) v f g1 H1 → va_S A H0 H1 locs1 → W p l e R s m args below meth c H1 locs1 cells slots Q (F0 m (pc + 1) ls rest)) : W p l e R s m args below meth c H locs cells slots Q (F0 m pc ls (.long (iL x) :: .int (iI i) :: .ref (ad 55) :: rest)) := g_last C hP.1 (hD v f g) hS 55 rfl (by decide) h0 h1 (ws' := (rwW k ad) v f g1) (by rw [← hv]; rfl) hdg (fun H1 locs1 h1 h3 => kk H1 locs1 ⟨h1, hP.2⟩ h3)
theorem rwN_results_totals (C : gC D k p s m args c cc own) (hP : gWd D (rwW k ad) v f g H) (hdg : decode cc pc = .ok (.arraylength, 1)) (kk : W p l e R s m args below meth c H locs cells slots Q (F0 m (pc + 1) ls (.int (iI 4) :: rest))) : W p l e R s m args below meth c H locs cells slots Q (F0 m pc ls (.ref (ad 55) :: rest)) := va_alen (D := D) C.1 C.2.1 C.2.2.2.2 hP.1 55 1 rfl rfl (v := iI 4) rfl hdg kk
theorem rwL_results_keyRows (C : gC D k p s m args c cc own) (hP : gWd D (rwW k ad) v f g H) {i : Int} (h0 : 0 ≤ i) (h1 : i < 256) (hdg : decode cc pc = .ok (.laload, 1)) (kk : W p l e R s m args below meth c H locs cells slots Q (F0 m (pc + 1) ls (.long (iL (g 3 i)) :: rest))) : W p l e R s m args below meth c H locs cells slots Q (F0 m pc ls (.int (iI i) :: .ref (ad 56) :: rest)) := g_lald C hP.1 56 rfl (by decide) h0 h1 hdg kk
theorem rwS_results_keyRows (C : gC D k p s m args c cc own) (hP : gWd D (rwW k ad) v f g H) (hD : rwD A k ad) (hS : va_S A H0 H locs) {i x : Int} {g1 : gF} (h0 : 0 ≤ i) (h1 : i < 256) (hv : (rwW k ad) v f (va_up g 3 (u1 (g 3) i x)) = (rwW k ad) v f g1) (hdg : decode cc pc = .ok (.lastore, 1)) (kk : ∀ (H1 : Heap) (locs1 : List Loc), gWd D (rwW k ad) v f g1 H1 → va_S A H0 H1 locs1 → W p l e R s m args below meth c H1 locs1 cells slots Q (F0 m (pc + 1) ls rest)) : W p l e R s m args below meth c H locs cells slots Q (F0 m pc ls (.long (iL x) :: .int (iI i) :: .ref (ad 56) :: rest)) := g_last C hP.1 (hD v f g) hS 56 rfl (by decide) h0 h1 (ws' := (rwW k ad) v f g1) (by rw [← hv]; rfl) hdg (fun H1 locs1 h1 h3 => kk H1 locs1 ⟨h1, hP.2⟩ h3)
theorem rwN_results_keyRows (C : gC D k p s m args c cc own) (hP : gWd D (rwW k ad) v f g H) (hdg : decode cc pc = .ok (.arraylength, 1)) (kk : W p l e R s m args below meth c H locs cells slots Q (F0 m (pc + 1) ls (.int (iI 256) :: rest))) : W p l e R s m args below meth c H locs cells slots Q (F0 m pc ls (.ref (ad 56) :: rest)) := va_alen (D := D) C.1 C.2.1 C.2.2.2.2 hP.1 56 1 rfl rfl (v := iI 256) rfl hdg kk
theorem rwL_results_ranks (C : gC D k p s m args c cc own) (hP : gWd D (rwW k ad) v f g H) {i : Int} (h0 : 0 ≤ i) (h1 : i < 16) (hdg : decode cc pc = .ok (.iaload, 1)) (kk : W p l e R s m args below meth c H locs cells slots Q (F0 m (pc + 1) ls (.int (iI (f 41 i)) :: rest))) : W p l e R s m args below meth c H locs cells slots Q (F0 m pc ls (.int (iI i) :: .ref (ad 57) :: rest)) := g_iald C hP.1 57 rfl (by decide) h0 h1 hdg kk
theorem rwS_results_ranks (C : gC D k p s m args c cc own) (hP : gWd D (rwW k ad) v f g H) (hD : rwD A k ad) (hS : va_S A H0 H locs) {i x : Int} {f1 : gF} (h0 : 0 ≤ i) (h1 : i < 16) (hx : inR x) (hv : (rwW k ad) v (va_up f 41 (u1 (f 41) i x)) g = (rwW k ad) v f1 g) (hv2 : va_up f 41 (u1 (f 41) i x) = f1 ∨ gOk v f1) (hdg : decode cc pc = .ok (.iastore, 1)) (kk : ∀ (H1 : Heap) (locs1 : List Loc), gWd D (rwW k ad) v f1 g H1 → va_S A H0 H1 locs1 → W p l e R s m args below meth c H1 locs1 cells slots Q (F0 m (pc + 1) ls rest)) : W p l e R s m args below meth c H locs cells slots Q (F0 m pc ls (.int (iI x) :: .int (iI i) :: .ref (ad 57) :: rest)) := g_iast C hP.1 (hD v f g) hS 57 rfl (by decide) h0 h1 (ws' := (rwW k ad) v f1 g) (by rw [← hv]; rfl) hdg (fun H1 locs1 h1 h3 => kk H1 locs1 ⟨h1, hv2.elim (fun q => q ▸ gF_up hP.2 41 (u1_rng (hP.2.2 41) hx)) id⟩ h3)
theorem rwN_results_ranks (C : gC D k p s m args c cc own) (hP : gWd D (rwW k ad) v f g H) (hdg : decode cc pc = .ok (.arraylength, 1)) (kk : W p l e R s m args below meth c H locs cells slots Q (F0 m (pc + 1) ls (.int (iI 16) :: rest))) : W p l e R s m args below meth c H locs cells slots Q (F0 m pc ls (.ref (ad 57) :: rest)) := va_alen (D := D) C.1 C.2.1 C.2.2.2.2 hP.1 57 0 rfl rfl (v := iI 16) rfl hdg kk
end Grw
end
section
def mdW (k : Nat → ClassId) (ad : Nat → Nat) (v : gV) (f g : gF) : va_W := [(ad 0, .inr (11, [.int (iI (v 0)), .int (iI (v 1)), .ref (ad 1), .int (iI (v 2)), .int (iI (v 3)), .int (iI (v 4)), .int (iI (v 5)), .int (iI (v 6)), .int (iI (v 7)), .int (iI (v 8)), .int (iI (v 9)), .int (iI (v 10)), .int (iI (v 11)), .long (iL (g 0 0)), .int (iI (v 12)), .int (iI (v 13)), .int (iI (v 14)), .int (iI (v 15)), .int (iI (v 16)), .int (iI (v 17)), .int (iI (v 18)), .int (iI (v 19)), .ref (ad 2), .ref (ad 3), .ref (ad 4), .ref (ad 5), .ref (ad 6), .ref (ad 7), .ref (ad 8), .ref (ad 9), .ref (ad 10), .ref (ad 11), .ref (ad 12), .ref (ad 13), .ref (ad 14), .ref (ad 15), .ref (ad 16), .ref (ad 17), .ref (ad 18), .int (iI (v 20)), .int (iI (v 21)), .ref (ad 19), .ref (ad 20), .ref (ad 21), .int (iI (v 22)), .int (iI (v 23)), .int (iI (v 24)), .ref (ad 22), .ref (ad 23), .ref (ad 24), .int (iI (v 25)), .ref (ad 25), .ref (ad 26), .ref (ad 27), .ref (ad 28), .ref (ad 29), .ref (ad 30), .ref (ad 31), .int (iI (v 26)), .ref (ad 32), .ref (ad 33), .ref (ad 34), .ref (ad 35), .ref (ad 36), .ref (ad 37), .int (iI (v 27)), .ref (ad 38), .ref (ad 39), .ref (ad 40), .ref (ad 41)])), (ad 1, rI (k 2) 700 (f 0)), (ad 2, rI (k 0) 4 (f 1)), (ad 3, rI (k 0) 4 (f 2)), (ad 4, rI (k 0) 4 (f 3)), (ad 5, rI (k 0) 4 (f 4)), (ad 6, rI (k 0) 5 (f 5)), (ad 7, rI (k 0) 5 (f 6)), (ad 8, rI (k 0) 5 (f 7)), (ad 9, rI (k 0) 5 (f 8)), (ad 10, rI (k 0) 40 (f 9)), (ad 11, rI (k 0) 40 (f 10)), (ad 12, rI (k 0) 41 (f 11)), (ad 13, rI (k 0) 41 (f 12)), (ad 14, rI (k 0) 4 (f 13)), (ad 15, rI (k 0) 5 (f 14)), (ad 16, rI (k 3) 4 (f 15)), (ad 17, rI (k 3) 5 (f 16)), (ad 18, rI (k 0) 64 (f 17)), (ad 19, rI (k 0) 20 (f 18)), (ad 20, rI (k 0) 60 (f 19)), (ad 21, rI (k 0) 20 (f 20)), (ad 22, rI (k 3) 64 (f 21)), (ad 23, rI (k 0) 64 (f 22)), (ad 24, rI (k 0) 4 (f 23)), (ad 25, rI (k 0) 300 (f 24)), (ad 26, rI (k 0) 300 (f 25)), (ad 27, rI (k 0) 300 (f 26)), (ad 28, rI (k 0) 300 (f 27)), (ad 29, rI (k 0) 300 (f 28)), (ad 30, rI (k 0) 300 (f 29)), (ad 31, rI (k 0) 300 (f 30)), (ad 32, rI (k 0) 40 (f 31)), (ad 33, rI (k 0) 40 (f 32)), (ad 34, rI (k 0) 40 (f 33)), (ad 35, rI (k 0) 16 (f 34)), (ad 36, rI (k 0) 320 (f 35)), (ad 37, rI (k 0) 320 (f 36)), (ad 38, rI (k 0) 6 (f 37)), (ad 39, rL (k 1) 41 (g 1)), (ad 40, rI (k 0) 16 (f 38)), (ad 41, rL (k 1) 16 (g 2))]
def mdD (A : Nat → Prop) (k : Nat → ClassId) (ad : Nat → Nat) : Prop := ∀ (v : gV) (f g : gF), va_D A (mdW k ad v f g)
section Gmd
variable {p : Program} {l : Launch} {e : Env} {R : Room} {s : State} {m : MethodId} {args : Array Value} {below : List Frame} {meth : Method} {c : Code} {H H0 : Heap} {locs : List Loc} {cells slots : Nat} {Q : State → Prop}
variable {cc : ByteArray} {pc idx : Nat} {ls : Array Slot} {rest : List Value} {own : String} {D : va_G} {k : Nat → ClassId} {A : Nat → Prop} {ad : Nat → Nat} {v : gV} {f g : gF}
theorem mdG_status (C : gC D k p s m args c cc own) (hP : gWd D (mdW k ad) v f g H) (hm : Cond.fieldLink own idx "RouteWallModel" "status" "I" ∈ gWs) (hdg : decode cc pc = .ok (.getfield idx, 3)) (kk : W p l e R s m args below meth c H locs cells slots Q (F0 m (pc + 3) ls (.int (iI (v 0)) :: rest))) : W p l e R s m args below meth c H locs cells slots Q (F0 m pc ls (.ref (ad 0) :: rest)) := va_get (D := D) (ci := 11) (C := RX11) (T := TX11) (N := 70) C.1 C.2.1 C.2.2.1 gLx11 C.2.2.2.1 C.2.2.2.2 hP.1 0 rfl rfl 0 (by decide) (C.2.2.1 _ hm) (fun _ h9 => h9) rfl hdg kk
theorem mdP_status (C : gC D k p s m args c cc own) (hP : gWd D (mdW k ad) v f g H) (hD : mdD A k ad) (hS : va_S A H0 H locs) (hm : Cond.fieldLink own idx "RouteWallModel" "status" "I" ∈ gWs) {x : Int} {v1 : gV} (hx : inR x) (hv : (mdW k ad) (va_up v 0 x) f g = (mdW k ad) v1 f g) (hv2 : va_up v 0 x = v1 ∨ gOk v1 f) (hdg : decode cc pc = .ok (.putfield idx, 3)) (kk : ∀ (H1 : Heap) (locs1 : List Loc), gWd D (mdW k ad) v1 f g H1 → va_S A H0 H1 locs1 → W p l e R s m args below meth c H1 locs1 cells slots Q (F0 m (pc + 3) ls rest)) : W p l e R s m args below meth c H locs cells slots Q (F0 m pc ls (.int (iI x) :: .ref (ad 0) :: rest)) := va_put (D := D) (ci := 11) (ty := .int) (C := RX11) (T := TX11) (N := 70) C.1 C.2.1 C.2.2.1 gLx11 tyX11 tyX11_ok nmX11 C.2.2.2.1 C.2.2.2.2 hP.1 (hD v f g) hS 0 rfl rfl 0 (by decide) (C.2.2.1 _ hm) (fun _ h9 => h9) rfl (by decide +kernel) rfl rfl (Nat.le_of_ble_eq_true rfl) hdg (fun H1 locs1 h1 _ h3 => kk H1 locs1 ⟨hv ▸ (show va_P D vwCl ((mdW k ad) (va_up v 0 x) f g) H1 from h1), hv2.elim (fun q => q ▸ gR_up hP.2 0 hx) id⟩ h3)
theorem mdG_thrown (C : gC D k p s m args c cc own) (hP : gWd D (mdW k ad) v f g H) (hm : Cond.fieldLink own idx "RouteWallModel" "thrown" "I" ∈ gWs) (hdg : decode cc pc = .ok (.getfield idx, 3)) (kk : W p l e R s m args below meth c H locs cells slots Q (F0 m (pc + 3) ls (.int (iI (v 1)) :: rest))) : W p l e R s m args below meth c H locs cells slots Q (F0 m pc ls (.ref (ad 0) :: rest)) := va_get (D := D) (ci := 11) (C := RX11) (T := TX11) (N := 70) C.1 C.2.1 C.2.2.1 gLx11 C.2.2.2.1 C.2.2.2.2 hP.1 0 rfl rfl 1 (by decide) (C.2.2.1 _ hm) (fun _ h9 => h9) rfl hdg kk
theorem mdP_thrown (C : gC D k p s m args c cc own) (hP : gWd D (mdW k ad) v f g H) (hD : mdD A k ad) (hS : va_S A H0 H locs) (hm : Cond.fieldLink own idx "RouteWallModel" "thrown" "I" ∈ gWs) {x : Int} {v1 : gV} (hx : inR x) (hv : (mdW k ad) (va_up v 1 x) f g = (mdW k ad) v1 f g) (hv2 : va_up v 1 x = v1 ∨ gOk v1 f) (hdg : decode cc pc = .ok (.putfield idx, 3)) (kk : ∀ (H1 : Heap) (locs1 : List Loc), gWd D (mdW k ad) v1 f g H1 → va_S A H0 H1 locs1 → W p l e R s m args below meth c H1 locs1 cells slots Q (F0 m (pc + 3) ls rest)) : W p l e R s m args below meth c H locs cells slots Q (F0 m pc ls (.int (iI x) :: .ref (ad 0) :: rest)) := va_put (D := D) (ci := 11) (ty := .int) (C := RX11) (T := TX11) (N := 70) C.1 C.2.1 C.2.2.1 gLx11 tyX11 tyX11_ok nmX11 C.2.2.2.1 C.2.2.2.2 hP.1 (hD v f g) hS 0 rfl rfl 1 (by decide) (C.2.2.1 _ hm) (fun _ h9 => h9) rfl (by decide +kernel) rfl rfl (Nat.le_of_ble_eq_true rfl) hdg (fun H1 locs1 h1 _ h3 => kk H1 locs1 ⟨hv ▸ (show va_P D vwCl ((mdW k ad) (va_up v 1 x) f g) H1 from h1), hv2.elim (fun q => q ▸ gR_up hP.2 1 hx) id⟩ h3)
theorem mdG_tape (C : gC D k p s m args c cc own) (hP : gWd D (mdW k ad) v f g H) (hm : Cond.fieldLink own idx "RouteWallModel" "tape" "[B" ∈ gWs) (hdg : decode cc pc = .ok (.getfield idx, 3)) (kk : W p l e R s m args below meth c H locs cells slots Q (F0 m (pc + 3) ls (.ref (ad 1) :: rest))) : W p l e R s m args below meth c H locs cells slots Q (F0 m pc ls (.ref (ad 0) :: rest)) := va_get (D := D) (ci := 11) (C := RX11) (T := TX11) (N := 70) C.1 C.2.1 C.2.2.1 gLx11 C.2.2.2.1 C.2.2.2.2 hP.1 0 rfl rfl 2 (by decide) (C.2.2.1 _ hm) (fun _ h9 => h9) rfl hdg kk
theorem mdG_taped (C : gC D k p s m args c cc own) (hP : gWd D (mdW k ad) v f g H) (hm : Cond.fieldLink own idx "RouteWallModel" "taped" "I" ∈ gWs) (hdg : decode cc pc = .ok (.getfield idx, 3)) (kk : W p l e R s m args below meth c H locs cells slots Q (F0 m (pc + 3) ls (.int (iI (v 2)) :: rest))) : W p l e R s m args below meth c H locs cells slots Q (F0 m pc ls (.ref (ad 0) :: rest)) := va_get (D := D) (ci := 11) (C := RX11) (T := TX11) (N := 70) C.1 C.2.1 C.2.2.1 gLx11 C.2.2.2.1 C.2.2.2.2 hP.1 0 rfl rfl 3 (by decide) (C.2.2.1 _ hm) (fun _ h9 => h9) rfl hdg kk
theorem mdP_taped (C : gC D k p s m args c cc own) (hP : gWd D (mdW k ad) v f g H) (hD : mdD A k ad) (hS : va_S A H0 H locs) (hm : Cond.fieldLink own idx "RouteWallModel" "taped" "I" ∈ gWs) {x : Int} {v1 : gV} (hx : inR x) (hv : (mdW k ad) (va_up v 2 x) f g = (mdW k ad) v1 f g) (hv2 : va_up v 2 x = v1 ∨ gOk v1 f) (hdg : decode cc pc = .ok (.putfield idx, 3)) (kk : ∀ (H1 : Heap) (locs1 : List Loc), gWd D (mdW k ad) v1 f g H1 → va_S A H0 H1 locs1 → W p l e R s m args below meth c H1 locs1 cells slots Q (F0 m (pc + 3) ls rest)) : W p l e R s m args below meth c H locs cells slots Q (F0 m pc ls (.int (iI x) :: .ref (ad 0) :: rest)) := va_put (D := D) (ci := 11) (ty := .int) (C := RX11) (T := TX11) (N := 70) C.1 C.2.1 C.2.2.1 gLx11 tyX11 tyX11_ok nmX11 C.2.2.2.1 C.2.2.2.2 hP.1 (hD v f g) hS 0 rfl rfl 3 (by decide) (C.2.2.1 _ hm) (fun _ h9 => h9) rfl (by decide +kernel) rfl rfl (Nat.le_of_ble_eq_true rfl) hdg (fun H1 locs1 h1 _ h3 => kk H1 locs1 ⟨hv ▸ (show va_P D vwCl ((mdW k ad) (va_up v 2 x) f g) H1 from h1), hv2.elim (fun q => q ▸ gR_up hP.2 2 hx) id⟩ h3)
theorem mdG_end (C : gC D k p s m args c cc own) (hP : gWd D (mdW k ad) v f g H) (hm : Cond.fieldLink own idx "RouteWallModel" "end" "I" ∈ gWs) (hdg : decode cc pc = .ok (.getfield idx, 3)) (kk : W p l e R s m args below meth c H locs cells slots Q (F0 m (pc + 3) ls (.int (iI (v 3)) :: rest))) : W p l e R s m args below meth c H locs cells slots Q (F0 m pc ls (.ref (ad 0) :: rest)) := va_get (D := D) (ci := 11) (C := RX11) (T := TX11) (N := 70) C.1 C.2.1 C.2.2.1 gLx11 C.2.2.2.1 C.2.2.2.2 hP.1 0 rfl rfl 4 (by decide) (C.2.2.1 _ hm) (fun _ h9 => h9) rfl hdg kk
theorem mdP_end (C : gC D k p s m args c cc own) (hP : gWd D (mdW k ad) v f g H) (hD : mdD A k ad) (hS : va_S A H0 H locs) (hm : Cond.fieldLink own idx "RouteWallModel" "end" "I" ∈ gWs) {x : Int} {v1 : gV} (hx : inR x) (hv : (mdW k ad) (va_up v 3 x) f g = (mdW k ad) v1 f g) (hv2 : va_up v 3 x = v1 ∨ gOk v1 f) (hdg : decode cc pc = .ok (.putfield idx, 3)) (kk : ∀ (H1 : Heap) (locs1 : List Loc), gWd D (mdW k ad) v1 f g H1 → va_S A H0 H1 locs1 → W p l e R s m args below meth c H1 locs1 cells slots Q (F0 m (pc + 3) ls rest)) : W p l e R s m args below meth c H locs cells slots Q (F0 m pc ls (.int (iI x) :: .ref (ad 0) :: rest)) := va_put (D := D) (ci := 11) (ty := .int) (C := RX11) (T := TX11) (N := 70) C.1 C.2.1 C.2.2.1 gLx11 tyX11 tyX11_ok nmX11 C.2.2.2.1 C.2.2.2.2 hP.1 (hD v f g) hS 0 rfl rfl 4 (by decide) (C.2.2.1 _ hm) (fun _ h9 => h9) rfl (by decide +kernel) rfl rfl (Nat.le_of_ble_eq_true rfl) hdg (fun H1 locs1 h1 _ h3 => kk H1 locs1 ⟨hv ▸ (show va_P D vwCl ((mdW k ad) (va_up v 3 x) f g) H1 from h1), hv2.elim (fun q => q ▸ gR_up hP.2 3 hx) id⟩ h3)
theorem mdG_faultKind (C : gC D k p s m args c cc own) (hP : gWd D (mdW k ad) v f g H) (hm : Cond.fieldLink own idx "RouteWallModel" "faultKind" "I" ∈ gWs) (hdg : decode cc pc = .ok (.getfield idx, 3)) (kk : W p l e R s m args below meth c H locs cells slots Q (F0 m (pc + 3) ls (.int (iI (v 4)) :: rest))) : W p l e R s m args below meth c H locs cells slots Q (F0 m pc ls (.ref (ad 0) :: rest)) := va_get (D := D) (ci := 11) (C := RX11) (T := TX11) (N := 70) C.1 C.2.1 C.2.2.1 gLx11 C.2.2.2.1 C.2.2.2.2 hP.1 0 rfl rfl 5 (by decide) (C.2.2.1 _ hm) (fun _ h9 => h9) rfl hdg kk
theorem mdP_faultKind (C : gC D k p s m args c cc own) (hP : gWd D (mdW k ad) v f g H) (hD : mdD A k ad) (hS : va_S A H0 H locs) (hm : Cond.fieldLink own idx "RouteWallModel" "faultKind" "I" ∈ gWs) {x : Int} {v1 : gV} (hx : inR x) (hv : (mdW k ad) (va_up v 4 x) f g = (mdW k ad) v1 f g) (hv2 : va_up v 4 x = v1 ∨ gOk v1 f) (hdg : decode cc pc = .ok (.putfield idx, 3)) (kk : ∀ (H1 : Heap) (locs1 : List Loc), gWd D (mdW k ad) v1 f g H1 → va_S A H0 H1 locs1 → W p l e R s m args below meth c H1 locs1 cells slots Q (F0 m (pc + 3) ls rest)) : W p l e R s m args below meth c H locs cells slots Q (F0 m pc ls (.int (iI x) :: .ref (ad 0) :: rest)) := va_put (D := D) (ci := 11) (ty := .int) (C := RX11) (T := TX11) (N := 70) C.1 C.2.1 C.2.2.1 gLx11 tyX11 tyX11_ok nmX11 C.2.2.2.1 C.2.2.2.2 hP.1 (hD v f g) hS 0 rfl rfl 5 (by decide) (C.2.2.1 _ hm) (fun _ h9 => h9) rfl (by decide +kernel) rfl rfl (Nat.le_of_ble_eq_true rfl) hdg (fun H1 locs1 h1 _ h3 => kk H1 locs1 ⟨hv ▸ (show va_P D vwCl ((mdW k ad) (va_up v 4 x) f g) H1 from h1), hv2.elim (fun q => q ▸ gR_up hP.2 4 hx) id⟩ h3)
theorem mdG_faultAt (C : gC D k p s m args c cc own) (hP : gWd D (mdW k ad) v f g H) (hm : Cond.fieldLink own idx "RouteWallModel" "faultAt" "I" ∈ gWs) (hdg : decode cc pc = .ok (.getfield idx, 3)) (kk : W p l e R s m args below meth c H locs cells slots Q (F0 m (pc + 3) ls (.int (iI (v 5)) :: rest))) : W p l e R s m args below meth c H locs cells slots Q (F0 m pc ls (.ref (ad 0) :: rest)) := va_get (D := D) (ci := 11) (C := RX11) (T := TX11) (N := 70) C.1 C.2.1 C.2.2.1 gLx11 C.2.2.2.1 C.2.2.2.2 hP.1 0 rfl rfl 6 (by decide) (C.2.2.1 _ hm) (fun _ h9 => h9) rfl hdg kk
theorem mdP_faultAt (C : gC D k p s m args c cc own) (hP : gWd D (mdW k ad) v f g H) (hD : mdD A k ad) (hS : va_S A H0 H locs) (hm : Cond.fieldLink own idx "RouteWallModel" "faultAt" "I" ∈ gWs) {x : Int} {v1 : gV} (hx : inR x) (hv : (mdW k ad) (va_up v 5 x) f g = (mdW k ad) v1 f g) (hv2 : va_up v 5 x = v1 ∨ gOk v1 f) (hdg : decode cc pc = .ok (.putfield idx, 3)) (kk : ∀ (H1 : Heap) (locs1 : List Loc), gWd D (mdW k ad) v1 f g H1 → va_S A H0 H1 locs1 → W p l e R s m args below meth c H1 locs1 cells slots Q (F0 m (pc + 3) ls rest)) : W p l e R s m args below meth c H locs cells slots Q (F0 m pc ls (.int (iI x) :: .ref (ad 0) :: rest)) := va_put (D := D) (ci := 11) (ty := .int) (C := RX11) (T := TX11) (N := 70) C.1 C.2.1 C.2.2.1 gLx11 tyX11 tyX11_ok nmX11 C.2.2.2.1 C.2.2.2.2 hP.1 (hD v f g) hS 0 rfl rfl 6 (by decide) (C.2.2.1 _ hm) (fun _ h9 => h9) rfl (by decide +kernel) rfl rfl (Nat.le_of_ble_eq_true rfl) hdg (fun H1 locs1 h1 _ h3 => kk H1 locs1 ⟨hv ▸ (show va_P D vwCl ((mdW k ad) (va_up v 5 x) f g) H1 from h1), hv2.elim (fun q => q ▸ gR_up hP.2 5 hx) id⟩ h3)
theorem mdG_bad (C : gC D k p s m args c cc own) (hP : gWd D (mdW k ad) v f g H) (hm : Cond.fieldLink own idx "RouteWallModel" "bad" "I" ∈ gWs) (hdg : decode cc pc = .ok (.getfield idx, 3)) (kk : W p l e R s m args below meth c H locs cells slots Q (F0 m (pc + 3) ls (.int (iI (v 6)) :: rest))) : W p l e R s m args below meth c H locs cells slots Q (F0 m pc ls (.ref (ad 0) :: rest)) := va_get (D := D) (ci := 11) (C := RX11) (T := TX11) (N := 70) C.1 C.2.1 C.2.2.1 gLx11 C.2.2.2.1 C.2.2.2.2 hP.1 0 rfl rfl 7 (by decide) (C.2.2.1 _ hm) (fun _ h9 => h9) rfl hdg kk
theorem mdP_bad (C : gC D k p s m args c cc own) (hP : gWd D (mdW k ad) v f g H) (hD : mdD A k ad) (hS : va_S A H0 H locs) (hm : Cond.fieldLink own idx "RouteWallModel" "bad" "I" ∈ gWs) {x : Int} {v1 : gV} (hx : inR x) (hv : (mdW k ad) (va_up v 6 x) f g = (mdW k ad) v1 f g) (hv2 : va_up v 6 x = v1 ∨ gOk v1 f) (hdg : decode cc pc = .ok (.putfield idx, 3)) (kk : ∀ (H1 : Heap) (locs1 : List Loc), gWd D (mdW k ad) v1 f g H1 → va_S A H0 H1 locs1 → W p l e R s m args below meth c H1 locs1 cells slots Q (F0 m (pc + 3) ls rest)) : W p l e R s m args below meth c H locs cells slots Q (F0 m pc ls (.int (iI x) :: .ref (ad 0) :: rest)) := va_put (D := D) (ci := 11) (ty := .int) (C := RX11) (T := TX11) (N := 70) C.1 C.2.1 C.2.2.1 gLx11 tyX11 tyX11_ok nmX11 C.2.2.2.1 C.2.2.2.2 hP.1 (hD v f g) hS 0 rfl rfl 7 (by decide) (C.2.2.1 _ hm) (fun _ h9 => h9) rfl (by decide +kernel) rfl rfl (Nat.le_of_ble_eq_true rfl) hdg (fun H1 locs1 h1 _ h3 => kk H1 locs1 ⟨hv ▸ (show va_P D vwCl ((mdW k ad) (va_up v 6 x) f g) H1 from h1), hv2.elim (fun q => q ▸ gR_up hP.2 6 hx) id⟩ h3)
theorem mdG_badAt (C : gC D k p s m args c cc own) (hP : gWd D (mdW k ad) v f g H) (hm : Cond.fieldLink own idx "RouteWallModel" "badAt" "I" ∈ gWs) (hdg : decode cc pc = .ok (.getfield idx, 3)) (kk : W p l e R s m args below meth c H locs cells slots Q (F0 m (pc + 3) ls (.int (iI (v 7)) :: rest))) : W p l e R s m args below meth c H locs cells slots Q (F0 m pc ls (.ref (ad 0) :: rest)) := va_get (D := D) (ci := 11) (C := RX11) (T := TX11) (N := 70) C.1 C.2.1 C.2.2.1 gLx11 C.2.2.2.1 C.2.2.2.2 hP.1 0 rfl rfl 8 (by decide) (C.2.2.1 _ hm) (fun _ h9 => h9) rfl hdg kk
theorem mdP_badAt (C : gC D k p s m args c cc own) (hP : gWd D (mdW k ad) v f g H) (hD : mdD A k ad) (hS : va_S A H0 H locs) (hm : Cond.fieldLink own idx "RouteWallModel" "badAt" "I" ∈ gWs) {x : Int} {v1 : gV} (hx : inR x) (hv : (mdW k ad) (va_up v 7 x) f g = (mdW k ad) v1 f g) (hv2 : va_up v 7 x = v1 ∨ gOk v1 f) (hdg : decode cc pc = .ok (.putfield idx, 3)) (kk : ∀ (H1 : Heap) (locs1 : List Loc), gWd D (mdW k ad) v1 f g H1 → va_S A H0 H1 locs1 → W p l e R s m args below meth c H1 locs1 cells slots Q (F0 m (pc + 3) ls rest)) : W p l e R s m args below meth c H locs cells slots Q (F0 m pc ls (.int (iI x) :: .ref (ad 0) :: rest)) := va_put (D := D) (ci := 11) (ty := .int) (C := RX11) (T := TX11) (N := 70) C.1 C.2.1 C.2.2.1 gLx11 tyX11 tyX11_ok nmX11 C.2.2.2.1 C.2.2.2.2 hP.1 (hD v f g) hS 0 rfl rfl 8 (by decide) (C.2.2.1 _ hm) (fun _ h9 => h9) rfl (by decide +kernel) rfl rfl (Nat.le_of_ble_eq_true rfl) hdg (fun H1 locs1 h1 _ h3 => kk H1 locs1 ⟨hv ▸ (show va_P D vwCl ((mdW k ad) (va_up v 7 x) f g) H1 from h1), hv2.elim (fun q => q ▸ gR_up hP.2 7 hx) id⟩ h3)
theorem mdG_sort (C : gC D k p s m args c cc own) (hP : gWd D (mdW k ad) v f g H) (hm : Cond.fieldLink own idx "RouteWallModel" "sort" "I" ∈ gWs) (hdg : decode cc pc = .ok (.getfield idx, 3)) (kk : W p l e R s m args below meth c H locs cells slots Q (F0 m (pc + 3) ls (.int (iI (v 8)) :: rest))) : W p l e R s m args below meth c H locs cells slots Q (F0 m pc ls (.ref (ad 0) :: rest)) := va_get (D := D) (ci := 11) (C := RX11) (T := TX11) (N := 70) C.1 C.2.1 C.2.2.1 gLx11 C.2.2.2.1 C.2.2.2.2 hP.1 0 rfl rfl 9 (by decide) (C.2.2.1 _ hm) (fun _ h9 => h9) rfl hdg kk
theorem mdP_sort (C : gC D k p s m args c cc own) (hP : gWd D (mdW k ad) v f g H) (hD : mdD A k ad) (hS : va_S A H0 H locs) (hm : Cond.fieldLink own idx "RouteWallModel" "sort" "I" ∈ gWs) {x : Int} {v1 : gV} (hx : inR x) (hv : (mdW k ad) (va_up v 8 x) f g = (mdW k ad) v1 f g) (hv2 : va_up v 8 x = v1 ∨ gOk v1 f) (hdg : decode cc pc = .ok (.putfield idx, 3)) (kk : ∀ (H1 : Heap) (locs1 : List Loc), gWd D (mdW k ad) v1 f g H1 → va_S A H0 H1 locs1 → W p l e R s m args below meth c H1 locs1 cells slots Q (F0 m (pc + 3) ls rest)) : W p l e R s m args below meth c H locs cells slots Q (F0 m pc ls (.int (iI x) :: .ref (ad 0) :: rest)) := va_put (D := D) (ci := 11) (ty := .int) (C := RX11) (T := TX11) (N := 70) C.1 C.2.1 C.2.2.1 gLx11 tyX11 tyX11_ok nmX11 C.2.2.2.1 C.2.2.2.2 hP.1 (hD v f g) hS 0 rfl rfl 9 (by decide) (C.2.2.1 _ hm) (fun _ h9 => h9) rfl (by decide +kernel) rfl rfl (Nat.le_of_ble_eq_true rfl) hdg (fun H1 locs1 h1 _ h3 => kk H1 locs1 ⟨hv ▸ (show va_P D vwCl ((mdW k ad) (va_up v 8 x) f g) H1 from h1), hv2.elim (fun q => q ▸ gR_up hP.2 8 hx) id⟩ h3)
theorem mdG_at (C : gC D k p s m args c cc own) (hP : gWd D (mdW k ad) v f g H) (hm : Cond.fieldLink own idx "RouteWallModel" "at" "I" ∈ gWs) (hdg : decode cc pc = .ok (.getfield idx, 3)) (kk : W p l e R s m args below meth c H locs cells slots Q (F0 m (pc + 3) ls (.int (iI (v 9)) :: rest))) : W p l e R s m args below meth c H locs cells slots Q (F0 m pc ls (.ref (ad 0) :: rest)) := va_get (D := D) (ci := 11) (C := RX11) (T := TX11) (N := 70) C.1 C.2.1 C.2.2.1 gLx11 C.2.2.2.1 C.2.2.2.2 hP.1 0 rfl rfl 10 (by decide) (C.2.2.1 _ hm) (fun _ h9 => h9) rfl hdg kk
theorem mdP_at (C : gC D k p s m args c cc own) (hP : gWd D (mdW k ad) v f g H) (hD : mdD A k ad) (hS : va_S A H0 H locs) (hm : Cond.fieldLink own idx "RouteWallModel" "at" "I" ∈ gWs) {x : Int} {v1 : gV} (hx : inR x) (hv : (mdW k ad) (va_up v 9 x) f g = (mdW k ad) v1 f g) (hv2 : va_up v 9 x = v1 ∨ gOk v1 f) (hdg : decode cc pc = .ok (.putfield idx, 3)) (kk : ∀ (H1 : Heap) (locs1 : List Loc), gWd D (mdW k ad) v1 f g H1 → va_S A H0 H1 locs1 → W p l e R s m args below meth c H1 locs1 cells slots Q (F0 m (pc + 3) ls rest)) : W p l e R s m args below meth c H locs cells slots Q (F0 m pc ls (.int (iI x) :: .ref (ad 0) :: rest)) := va_put (D := D) (ci := 11) (ty := .int) (C := RX11) (T := TX11) (N := 70) C.1 C.2.1 C.2.2.1 gLx11 tyX11 tyX11_ok nmX11 C.2.2.2.1 C.2.2.2.2 hP.1 (hD v f g) hS 0 rfl rfl 10 (by decide) (C.2.2.1 _ hm) (fun _ h9 => h9) rfl (by decide +kernel) rfl rfl (Nat.le_of_ble_eq_true rfl) hdg (fun H1 locs1 h1 _ h3 => kk H1 locs1 ⟨hv ▸ (show va_P D vwCl ((mdW k ad) (va_up v 9 x) f g) H1 from h1), hv2.elim (fun q => q ▸ gR_up hP.2 9 hx) id⟩ h3)
theorem mdG_behind (C : gC D k p s m args c cc own) (hP : gWd D (mdW k ad) v f g H) (hm : Cond.fieldLink own idx "RouteWallModel" "behind" "I" ∈ gWs) (hdg : decode cc pc = .ok (.getfield idx, 3)) (kk : W p l e R s m args below meth c H locs cells slots Q (F0 m (pc + 3) ls (.int (iI (v 10)) :: rest))) : W p l e R s m args below meth c H locs cells slots Q (F0 m pc ls (.ref (ad 0) :: rest)) := va_get (D := D) (ci := 11) (C := RX11) (T := TX11) (N := 70) C.1 C.2.1 C.2.2.1 gLx11 C.2.2.2.1 C.2.2.2.2 hP.1 0 rfl rfl 11 (by decide) (C.2.2.1 _ hm) (fun _ h9 => h9) rfl hdg kk
theorem mdP_behind (C : gC D k p s m args c cc own) (hP : gWd D (mdW k ad) v f g H) (hD : mdD A k ad) (hS : va_S A H0 H locs) (hm : Cond.fieldLink own idx "RouteWallModel" "behind" "I" ∈ gWs) {x : Int} {v1 : gV} (hx : inR x) (hv : (mdW k ad) (va_up v 10 x) f g = (mdW k ad) v1 f g) (hv2 : va_up v 10 x = v1 ∨ gOk v1 f) (hdg : decode cc pc = .ok (.putfield idx, 3)) (kk : ∀ (H1 : Heap) (locs1 : List Loc), gWd D (mdW k ad) v1 f g H1 → va_S A H0 H1 locs1 → W p l e R s m args below meth c H1 locs1 cells slots Q (F0 m (pc + 3) ls rest)) : W p l e R s m args below meth c H locs cells slots Q (F0 m pc ls (.int (iI x) :: .ref (ad 0) :: rest)) := va_put (D := D) (ci := 11) (ty := .int) (C := RX11) (T := TX11) (N := 70) C.1 C.2.1 C.2.2.1 gLx11 tyX11 tyX11_ok nmX11 C.2.2.2.1 C.2.2.2.2 hP.1 (hD v f g) hS 0 rfl rfl 11 (by decide) (C.2.2.1 _ hm) (fun _ h9 => h9) rfl (by decide +kernel) rfl rfl (Nat.le_of_ble_eq_true rfl) hdg (fun H1 locs1 h1 _ h3 => kk H1 locs1 ⟨hv ▸ (show va_P D vwCl ((mdW k ad) (va_up v 10 x) f g) H1 from h1), hv2.elim (fun q => q ▸ gR_up hP.2 10 hx) id⟩ h3)
theorem mdG_number (C : gC D k p s m args c cc own) (hP : gWd D (mdW k ad) v f g H) (hm : Cond.fieldLink own idx "RouteWallModel" "number" "I" ∈ gWs) (hdg : decode cc pc = .ok (.getfield idx, 3)) (kk : W p l e R s m args below meth c H locs cells slots Q (F0 m (pc + 3) ls (.int (iI (v 11)) :: rest))) : W p l e R s m args below meth c H locs cells slots Q (F0 m pc ls (.ref (ad 0) :: rest)) := va_get (D := D) (ci := 11) (C := RX11) (T := TX11) (N := 70) C.1 C.2.1 C.2.2.1 gLx11 C.2.2.2.1 C.2.2.2.2 hP.1 0 rfl rfl 12 (by decide) (C.2.2.1 _ hm) (fun _ h9 => h9) rfl hdg kk
theorem mdP_number (C : gC D k p s m args c cc own) (hP : gWd D (mdW k ad) v f g H) (hD : mdD A k ad) (hS : va_S A H0 H locs) (hm : Cond.fieldLink own idx "RouteWallModel" "number" "I" ∈ gWs) {x : Int} {v1 : gV} (hx : inR x) (hv : (mdW k ad) (va_up v 11 x) f g = (mdW k ad) v1 f g) (hv2 : va_up v 11 x = v1 ∨ gOk v1 f) (hdg : decode cc pc = .ok (.putfield idx, 3)) (kk : ∀ (H1 : Heap) (locs1 : List Loc), gWd D (mdW k ad) v1 f g H1 → va_S A H0 H1 locs1 → W p l e R s m args below meth c H1 locs1 cells slots Q (F0 m (pc + 3) ls rest)) : W p l e R s m args below meth c H locs cells slots Q (F0 m pc ls (.int (iI x) :: .ref (ad 0) :: rest)) := va_put (D := D) (ci := 11) (ty := .int) (C := RX11) (T := TX11) (N := 70) C.1 C.2.1 C.2.2.1 gLx11 tyX11 tyX11_ok nmX11 C.2.2.2.1 C.2.2.2.2 hP.1 (hD v f g) hS 0 rfl rfl 12 (by decide) (C.2.2.1 _ hm) (fun _ h9 => h9) rfl (by decide +kernel) rfl rfl (Nat.le_of_ble_eq_true rfl) hdg (fun H1 locs1 h1 _ h3 => kk H1 locs1 ⟨hv ▸ (show va_P D vwCl ((mdW k ad) (va_up v 11 x) f g) H1 from h1), hv2.elim (fun q => q ▸ gR_up hP.2 11 hx) id⟩ h3)
theorem mdG_word (C : gC D k p s m args c cc own) (hP : gWd D (mdW k ad) v f g H) (hm : Cond.fieldLink own idx "RouteWallModel" "word" "J" ∈ gWs) (hdg : decode cc pc = .ok (.getfield idx, 3)) (kk : W p l e R s m args below meth c H locs cells slots Q (F0 m (pc + 3) ls (.long (iL (g 0 0)) :: rest))) : W p l e R s m args below meth c H locs cells slots Q (F0 m pc ls (.ref (ad 0) :: rest)) := va_get (D := D) (ci := 11) (C := RX11) (T := TX11) (N := 70) C.1 C.2.1 C.2.2.1 gLx11 C.2.2.2.1 C.2.2.2.2 hP.1 0 rfl rfl 13 (by decide) (C.2.2.1 _ hm) (fun _ h9 => h9) rfl hdg kk
theorem mdP_word (C : gC D k p s m args c cc own) (hP : gWd D (mdW k ad) v f g H) (hD : mdD A k ad) (hS : va_S A H0 H locs) (hm : Cond.fieldLink own idx "RouteWallModel" "word" "J" ∈ gWs) {x : Int} {g1 : gF} (hv : (mdW k ad) v f (va_up g 0 (fun _ => x)) = (mdW k ad) v f g1) (hdg : decode cc pc = .ok (.putfield idx, 3)) (kk : ∀ (H1 : Heap) (locs1 : List Loc), gWd D (mdW k ad) v f g1 H1 → va_S A H0 H1 locs1 → W p l e R s m args below meth c H1 locs1 cells slots Q (F0 m (pc + 3) ls rest)) : W p l e R s m args below meth c H locs cells slots Q (F0 m pc ls (.long (iL x) :: .ref (ad 0) :: rest)) := va_put (D := D) (ci := 11) (ty := .long) (C := RX11) (T := TX11) (N := 70) C.1 C.2.1 C.2.2.1 gLx11 tyX11 tyX11_ok nmX11 C.2.2.2.1 C.2.2.2.2 hP.1 (hD v f g) hS 0 rfl rfl 13 (by decide) (C.2.2.1 _ hm) (fun _ h9 => h9) rfl (by decide +kernel) rfl rfl (Nat.le_of_ble_eq_true rfl) hdg (fun H1 locs1 h1 _ h3 => kk H1 locs1 ⟨hv ▸ (show va_P D vwCl ((mdW k ad) v f (va_up g 0 (fun _ => x))) H1 from h1), hP.2⟩ h3)
theorem mdG_rounds (C : gC D k p s m args c cc own) (hP : gWd D (mdW k ad) v f g H) (hm : Cond.fieldLink own idx "RouteWallModel" "rounds" "I" ∈ gWs) (hdg : decode cc pc = .ok (.getfield idx, 3)) (kk : W p l e R s m args below meth c H locs cells slots Q (F0 m (pc + 3) ls (.int (iI (v 12)) :: rest))) : W p l e R s m args below meth c H locs cells slots Q (F0 m pc ls (.ref (ad 0) :: rest)) := va_get (D := D) (ci := 11) (C := RX11) (T := TX11) (N := 70) C.1 C.2.1 C.2.2.1 gLx11 C.2.2.2.1 C.2.2.2.2 hP.1 0 rfl rfl 14 (by decide) (C.2.2.1 _ hm) (fun _ h9 => h9) rfl hdg kk
theorem mdP_rounds (C : gC D k p s m args c cc own) (hP : gWd D (mdW k ad) v f g H) (hD : mdD A k ad) (hS : va_S A H0 H locs) (hm : Cond.fieldLink own idx "RouteWallModel" "rounds" "I" ∈ gWs) {x : Int} {v1 : gV} (hx : inR x) (hv : (mdW k ad) (va_up v 12 x) f g = (mdW k ad) v1 f g) (hv2 : va_up v 12 x = v1 ∨ gOk v1 f) (hdg : decode cc pc = .ok (.putfield idx, 3)) (kk : ∀ (H1 : Heap) (locs1 : List Loc), gWd D (mdW k ad) v1 f g H1 → va_S A H0 H1 locs1 → W p l e R s m args below meth c H1 locs1 cells slots Q (F0 m (pc + 3) ls rest)) : W p l e R s m args below meth c H locs cells slots Q (F0 m pc ls (.int (iI x) :: .ref (ad 0) :: rest)) := va_put (D := D) (ci := 11) (ty := .int) (C := RX11) (T := TX11) (N := 70) C.1 C.2.1 C.2.2.1 gLx11 tyX11 tyX11_ok nmX11 C.2.2.2.1 C.2.2.2.2 hP.1 (hD v f g) hS 0 rfl rfl 14 (by decide) (C.2.2.1 _ hm) (fun _ h9 => h9) rfl (by decide +kernel) rfl rfl (Nat.le_of_ble_eq_true rfl) hdg (fun H1 locs1 h1 _ h3 => kk H1 locs1 ⟨hv ▸ (show va_P D vwCl ((mdW k ad) (va_up v 12 x) f g) H1 from h1), hv2.elim (fun q => q ▸ gR_up hP.2 12 hx) id⟩ h3)
theorem mdG_parts (C : gC D k p s m args c cc own) (hP : gWd D (mdW k ad) v f g H) (hm : Cond.fieldLink own idx "RouteWallModel" "parts" "I" ∈ gWs) (hdg : decode cc pc = .ok (.getfield idx, 3)) (kk : W p l e R s m args below meth c H locs cells slots Q (F0 m (pc + 3) ls (.int (iI (v 13)) :: rest))) : W p l e R s m args below meth c H locs cells slots Q (F0 m pc ls (.ref (ad 0) :: rest)) := va_get (D := D) (ci := 11) (C := RX11) (T := TX11) (N := 70) C.1 C.2.1 C.2.2.1 gLx11 C.2.2.2.1 C.2.2.2.2 hP.1 0 rfl rfl 15 (by decide) (C.2.2.1 _ hm) (fun _ h9 => h9) rfl hdg kk
theorem mdP_parts (C : gC D k p s m args c cc own) (hP : gWd D (mdW k ad) v f g H) (hD : mdD A k ad) (hS : va_S A H0 H locs) (hm : Cond.fieldLink own idx "RouteWallModel" "parts" "I" ∈ gWs) {x : Int} {v1 : gV} (hx : inR x) (hv : (mdW k ad) (va_up v 13 x) f g = (mdW k ad) v1 f g) (hv2 : va_up v 13 x = v1 ∨ gOk v1 f) (hdg : decode cc pc = .ok (.putfield idx, 3)) (kk : ∀ (H1 : Heap) (locs1 : List Loc), gWd D (mdW k ad) v1 f g H1 → va_S A H0 H1 locs1 → W p l e R s m args below meth c H1 locs1 cells slots Q (F0 m (pc + 3) ls rest)) : W p l e R s m args below meth c H locs cells slots Q (F0 m pc ls (.int (iI x) :: .ref (ad 0) :: rest)) := va_put (D := D) (ci := 11) (ty := .int) (C := RX11) (T := TX11) (N := 70) C.1 C.2.1 C.2.2.1 gLx11 tyX11 tyX11_ok nmX11 C.2.2.2.1 C.2.2.2.2 hP.1 (hD v f g) hS 0 rfl rfl 15 (by decide) (C.2.2.1 _ hm) (fun _ h9 => h9) rfl (by decide +kernel) rfl rfl (Nat.le_of_ble_eq_true rfl) hdg (fun H1 locs1 h1 _ h3 => kk H1 locs1 ⟨hv ▸ (show va_P D vwCl ((mdW k ad) (va_up v 13 x) f g) H1 from h1), hv2.elim (fun q => q ▸ gR_up hP.2 13 hx) id⟩ h3)
theorem mdG_keys (C : gC D k p s m args c cc own) (hP : gWd D (mdW k ad) v f g H) (hm : Cond.fieldLink own idx "RouteWallModel" "keys" "I" ∈ gWs) (hdg : decode cc pc = .ok (.getfield idx, 3)) (kk : W p l e R s m args below meth c H locs cells slots Q (F0 m (pc + 3) ls (.int (iI (v 14)) :: rest))) : W p l e R s m args below meth c H locs cells slots Q (F0 m pc ls (.ref (ad 0) :: rest)) := va_get (D := D) (ci := 11) (C := RX11) (T := TX11) (N := 70) C.1 C.2.1 C.2.2.1 gLx11 C.2.2.2.1 C.2.2.2.2 hP.1 0 rfl rfl 16 (by decide) (C.2.2.1 _ hm) (fun _ h9 => h9) rfl hdg kk
theorem mdP_keys (C : gC D k p s m args c cc own) (hP : gWd D (mdW k ad) v f g H) (hD : mdD A k ad) (hS : va_S A H0 H locs) (hm : Cond.fieldLink own idx "RouteWallModel" "keys" "I" ∈ gWs) {x : Int} {v1 : gV} (hx : inR x) (hv : (mdW k ad) (va_up v 14 x) f g = (mdW k ad) v1 f g) (hv2 : va_up v 14 x = v1 ∨ gOk v1 f) (hdg : decode cc pc = .ok (.putfield idx, 3)) (kk : ∀ (H1 : Heap) (locs1 : List Loc), gWd D (mdW k ad) v1 f g H1 → va_S A H0 H1 locs1 → W p l e R s m args below meth c H1 locs1 cells slots Q (F0 m (pc + 3) ls rest)) : W p l e R s m args below meth c H locs cells slots Q (F0 m pc ls (.int (iI x) :: .ref (ad 0) :: rest)) := va_put (D := D) (ci := 11) (ty := .int) (C := RX11) (T := TX11) (N := 70) C.1 C.2.1 C.2.2.1 gLx11 tyX11 tyX11_ok nmX11 C.2.2.2.1 C.2.2.2.2 hP.1 (hD v f g) hS 0 rfl rfl 16 (by decide) (C.2.2.1 _ hm) (fun _ h9 => h9) rfl (by decide +kernel) rfl rfl (Nat.le_of_ble_eq_true rfl) hdg (fun H1 locs1 h1 _ h3 => kk H1 locs1 ⟨hv ▸ (show va_P D vwCl ((mdW k ad) (va_up v 14 x) f g) H1 from h1), hv2.elim (fun q => q ▸ gR_up hP.2 14 hx) id⟩ h3)
theorem mdG_newRounds (C : gC D k p s m args c cc own) (hP : gWd D (mdW k ad) v f g H) (hm : Cond.fieldLink own idx "RouteWallModel" "newRounds" "I" ∈ gWs) (hdg : decode cc pc = .ok (.getfield idx, 3)) (kk : W p l e R s m args below meth c H locs cells slots Q (F0 m (pc + 3) ls (.int (iI (v 15)) :: rest))) : W p l e R s m args below meth c H locs cells slots Q (F0 m pc ls (.ref (ad 0) :: rest)) := va_get (D := D) (ci := 11) (C := RX11) (T := TX11) (N := 70) C.1 C.2.1 C.2.2.1 gLx11 C.2.2.2.1 C.2.2.2.2 hP.1 0 rfl rfl 17 (by decide) (C.2.2.1 _ hm) (fun _ h9 => h9) rfl hdg kk
theorem mdP_newRounds (C : gC D k p s m args c cc own) (hP : gWd D (mdW k ad) v f g H) (hD : mdD A k ad) (hS : va_S A H0 H locs) (hm : Cond.fieldLink own idx "RouteWallModel" "newRounds" "I" ∈ gWs) {x : Int} {v1 : gV} (hx : inR x) (hv : (mdW k ad) (va_up v 15 x) f g = (mdW k ad) v1 f g) (hv2 : va_up v 15 x = v1 ∨ gOk v1 f) (hdg : decode cc pc = .ok (.putfield idx, 3)) (kk : ∀ (H1 : Heap) (locs1 : List Loc), gWd D (mdW k ad) v1 f g H1 → va_S A H0 H1 locs1 → W p l e R s m args below meth c H1 locs1 cells slots Q (F0 m (pc + 3) ls rest)) : W p l e R s m args below meth c H locs cells slots Q (F0 m pc ls (.int (iI x) :: .ref (ad 0) :: rest)) := va_put (D := D) (ci := 11) (ty := .int) (C := RX11) (T := TX11) (N := 70) C.1 C.2.1 C.2.2.1 gLx11 tyX11 tyX11_ok nmX11 C.2.2.2.1 C.2.2.2.2 hP.1 (hD v f g) hS 0 rfl rfl 17 (by decide) (C.2.2.1 _ hm) (fun _ h9 => h9) rfl (by decide +kernel) rfl rfl (Nat.le_of_ble_eq_true rfl) hdg (fun H1 locs1 h1 _ h3 => kk H1 locs1 ⟨hv ▸ (show va_P D vwCl ((mdW k ad) (va_up v 15 x) f g) H1 from h1), hv2.elim (fun q => q ▸ gR_up hP.2 15 hx) id⟩ h3)
theorem mdG_newParts (C : gC D k p s m args c cc own) (hP : gWd D (mdW k ad) v f g H) (hm : Cond.fieldLink own idx "RouteWallModel" "newParts" "I" ∈ gWs) (hdg : decode cc pc = .ok (.getfield idx, 3)) (kk : W p l e R s m args below meth c H locs cells slots Q (F0 m (pc + 3) ls (.int (iI (v 16)) :: rest))) : W p l e R s m args below meth c H locs cells slots Q (F0 m pc ls (.ref (ad 0) :: rest)) := va_get (D := D) (ci := 11) (C := RX11) (T := TX11) (N := 70) C.1 C.2.1 C.2.2.1 gLx11 C.2.2.2.1 C.2.2.2.2 hP.1 0 rfl rfl 18 (by decide) (C.2.2.1 _ hm) (fun _ h9 => h9) rfl hdg kk
theorem mdP_newParts (C : gC D k p s m args c cc own) (hP : gWd D (mdW k ad) v f g H) (hD : mdD A k ad) (hS : va_S A H0 H locs) (hm : Cond.fieldLink own idx "RouteWallModel" "newParts" "I" ∈ gWs) {x : Int} {v1 : gV} (hx : inR x) (hv : (mdW k ad) (va_up v 16 x) f g = (mdW k ad) v1 f g) (hv2 : va_up v 16 x = v1 ∨ gOk v1 f) (hdg : decode cc pc = .ok (.putfield idx, 3)) (kk : ∀ (H1 : Heap) (locs1 : List Loc), gWd D (mdW k ad) v1 f g H1 → va_S A H0 H1 locs1 → W p l e R s m args below meth c H1 locs1 cells slots Q (F0 m (pc + 3) ls rest)) : W p l e R s m args below meth c H locs cells slots Q (F0 m pc ls (.int (iI x) :: .ref (ad 0) :: rest)) := va_put (D := D) (ci := 11) (ty := .int) (C := RX11) (T := TX11) (N := 70) C.1 C.2.1 C.2.2.1 gLx11 tyX11 tyX11_ok nmX11 C.2.2.2.1 C.2.2.2.2 hP.1 (hD v f g) hS 0 rfl rfl 18 (by decide) (C.2.2.1 _ hm) (fun _ h9 => h9) rfl (by decide +kernel) rfl rfl (Nat.le_of_ble_eq_true rfl) hdg (fun H1 locs1 h1 _ h3 => kk H1 locs1 ⟨hv ▸ (show va_P D vwCl ((mdW k ad) (va_up v 16 x) f g) H1 from h1), hv2.elim (fun q => q ▸ gR_up hP.2 16 hx) id⟩ h3)
theorem mdG_newKeys (C : gC D k p s m args c cc own) (hP : gWd D (mdW k ad) v f g H) (hm : Cond.fieldLink own idx "RouteWallModel" "newKeys" "I" ∈ gWs) (hdg : decode cc pc = .ok (.getfield idx, 3)) (kk : W p l e R s m args below meth c H locs cells slots Q (F0 m (pc + 3) ls (.int (iI (v 17)) :: rest))) : W p l e R s m args below meth c H locs cells slots Q (F0 m pc ls (.ref (ad 0) :: rest)) := va_get (D := D) (ci := 11) (C := RX11) (T := TX11) (N := 70) C.1 C.2.1 C.2.2.1 gLx11 C.2.2.2.1 C.2.2.2.2 hP.1 0 rfl rfl 19 (by decide) (C.2.2.1 _ hm) (fun _ h9 => h9) rfl hdg kk
theorem mdP_newKeys (C : gC D k p s m args c cc own) (hP : gWd D (mdW k ad) v f g H) (hD : mdD A k ad) (hS : va_S A H0 H locs) (hm : Cond.fieldLink own idx "RouteWallModel" "newKeys" "I" ∈ gWs) {x : Int} {v1 : gV} (hx : inR x) (hv : (mdW k ad) (va_up v 17 x) f g = (mdW k ad) v1 f g) (hv2 : va_up v 17 x = v1 ∨ gOk v1 f) (hdg : decode cc pc = .ok (.putfield idx, 3)) (kk : ∀ (H1 : Heap) (locs1 : List Loc), gWd D (mdW k ad) v1 f g H1 → va_S A H0 H1 locs1 → W p l e R s m args below meth c H1 locs1 cells slots Q (F0 m (pc + 3) ls rest)) : W p l e R s m args below meth c H locs cells slots Q (F0 m pc ls (.int (iI x) :: .ref (ad 0) :: rest)) := va_put (D := D) (ci := 11) (ty := .int) (C := RX11) (T := TX11) (N := 70) C.1 C.2.1 C.2.2.1 gLx11 tyX11 tyX11_ok nmX11 C.2.2.2.1 C.2.2.2.2 hP.1 (hD v f g) hS 0 rfl rfl 19 (by decide) (C.2.2.1 _ hm) (fun _ h9 => h9) rfl (by decide +kernel) rfl rfl (Nat.le_of_ble_eq_true rfl) hdg (fun H1 locs1 h1 _ h3 => kk H1 locs1 ⟨hv ▸ (show va_P D vwCl ((mdW k ad) (va_up v 17 x) f g) H1 from h1), hv2.elim (fun q => q ▸ gR_up hP.2 17 hx) id⟩ h3)
theorem mdG_goesBack (C : gC D k p s m args c cc own) (hP : gWd D (mdW k ad) v f g H) (hm : Cond.fieldLink own idx "RouteWallModel" "goesBack" "Z" ∈ gWs) (hdg : decode cc pc = .ok (.getfield idx, 3)) (kk : W p l e R s m args below meth c H locs cells slots Q (F0 m (pc + 3) ls (.int (iI (v 18)) :: rest))) : W p l e R s m args below meth c H locs cells slots Q (F0 m pc ls (.ref (ad 0) :: rest)) := va_get (D := D) (ci := 11) (C := RX11) (T := TX11) (N := 70) C.1 C.2.1 C.2.2.1 gLx11 C.2.2.2.1 C.2.2.2.2 hP.1 0 rfl rfl 20 (by decide) (C.2.2.1 _ hm) (fun _ h9 => h9) rfl hdg kk
theorem mdP_goesBack (C : gC D k p s m args c cc own) (hP : gWd D (mdW k ad) v f g H) (hD : mdD A k ad) (hS : va_S A H0 H locs) (hm : Cond.fieldLink own idx "RouteWallModel" "goesBack" "Z" ∈ gWs) {x : Int} {v1 : gV} (hx : inR x) (hb : x = 0 ∨ x = 1) (hv : (mdW k ad) (va_up v 18 x) f g = (mdW k ad) v1 f g) (hv2 : va_up v 18 x = v1 ∨ gOk v1 f) (hdg : decode cc pc = .ok (.putfield idx, 3)) (kk : ∀ (H1 : Heap) (locs1 : List Loc), gWd D (mdW k ad) v1 f g H1 → va_S A H0 H1 locs1 → W p l e R s m args below meth c H1 locs1 cells slots Q (F0 m (pc + 3) ls rest)) : W p l e R s m args below meth c H locs cells slots Q (F0 m pc ls (.int (iI x) :: .ref (ad 0) :: rest)) := va_put (D := D) (ci := 11) (ty := .boolean) (C := RX11) (T := TX11) (N := 70) C.1 C.2.1 C.2.2.1 gLx11 tyX11 tyX11_ok nmX11 C.2.2.2.1 C.2.2.2.2 hP.1 (hD v f g) hS 0 rfl rfl 20 (by decide) (C.2.2.1 _ hm) (fun _ h9 => h9) rfl (by decide +kernel) (by rcases hb with rfl | rfl <;> rfl) (by rcases hb with rfl | rfl <;> rfl) (Nat.le_of_ble_eq_true rfl) hdg (fun H1 locs1 h1 _ h3 => kk H1 locs1 ⟨hv ▸ (show va_P D vwCl ((mdW k ad) (va_up v 18 x) f g) H1 from h1), hv2.elim (fun q => q ▸ gR_up hP.2 18 hx) id⟩ h3)
theorem mdG_newBack (C : gC D k p s m args c cc own) (hP : gWd D (mdW k ad) v f g H) (hm : Cond.fieldLink own idx "RouteWallModel" "newBack" "Z" ∈ gWs) (hdg : decode cc pc = .ok (.getfield idx, 3)) (kk : W p l e R s m args below meth c H locs cells slots Q (F0 m (pc + 3) ls (.int (iI (v 19)) :: rest))) : W p l e R s m args below meth c H locs cells slots Q (F0 m pc ls (.ref (ad 0) :: rest)) := va_get (D := D) (ci := 11) (C := RX11) (T := TX11) (N := 70) C.1 C.2.1 C.2.2.1 gLx11 C.2.2.2.1 C.2.2.2.2 hP.1 0 rfl rfl 21 (by decide) (C.2.2.1 _ hm) (fun _ h9 => h9) rfl hdg kk
theorem mdP_newBack (C : gC D k p s m args c cc own) (hP : gWd D (mdW k ad) v f g H) (hD : mdD A k ad) (hS : va_S A H0 H locs) (hm : Cond.fieldLink own idx "RouteWallModel" "newBack" "Z" ∈ gWs) {x : Int} {v1 : gV} (hx : inR x) (hb : x = 0 ∨ x = 1) (hv : (mdW k ad) (va_up v 19 x) f g = (mdW k ad) v1 f g) (hv2 : va_up v 19 x = v1 ∨ gOk v1 f) (hdg : decode cc pc = .ok (.putfield idx, 3)) (kk : ∀ (H1 : Heap) (locs1 : List Loc), gWd D (mdW k ad) v1 f g H1 → va_S A H0 H1 locs1 → W p l e R s m args below meth c H1 locs1 cells slots Q (F0 m (pc + 3) ls rest)) : W p l e R s m args below meth c H locs cells slots Q (F0 m pc ls (.int (iI x) :: .ref (ad 0) :: rest)) := va_put (D := D) (ci := 11) (ty := .boolean) (C := RX11) (T := TX11) (N := 70) C.1 C.2.1 C.2.2.1 gLx11 tyX11 tyX11_ok nmX11 C.2.2.2.1 C.2.2.2.2 hP.1 (hD v f g) hS 0 rfl rfl 21 (by decide) (C.2.2.1 _ hm) (fun _ h9 => h9) rfl (by decide +kernel) (by rcases hb with rfl | rfl <;> rfl) (by rcases hb with rfl | rfl <;> rfl) (Nat.le_of_ble_eq_true rfl) hdg (fun H1 locs1 h1 _ h3 => kk H1 locs1 ⟨hv ▸ (show va_P D vwCl ((mdW k ad) (va_up v 19 x) f g) H1 from h1), hv2.elim (fun q => q ▸ gR_up hP.2 19 hx) id⟩ h3)
theorem mdG_routes (C : gC D k p s m args c cc own) (hP : gWd D (mdW k ad) v f g H) (hm : Cond.fieldLink own idx "RouteWallModel" "routes" "[I" ∈ gWs) (hdg : decode cc pc = .ok (.getfield idx, 3)) (kk : W p l e R s m args below meth c H locs cells slots Q (F0 m (pc + 3) ls (.ref (ad 2) :: rest))) : W p l e R s m args below meth c H locs cells slots Q (F0 m pc ls (.ref (ad 0) :: rest)) := va_get (D := D) (ci := 11) (C := RX11) (T := TX11) (N := 70) C.1 C.2.1 C.2.2.1 gLx11 C.2.2.2.1 C.2.2.2.2 hP.1 0 rfl rfl 22 (by decide) (C.2.2.1 _ hm) (fun _ h9 => h9) rfl hdg kk
theorem mdG_tries (C : gC D k p s m args c cc own) (hP : gWd D (mdW k ad) v f g H) (hm : Cond.fieldLink own idx "RouteWallModel" "tries" "[I" ∈ gWs) (hdg : decode cc pc = .ok (.getfield idx, 3)) (kk : W p l e R s m args below meth c H locs cells slots Q (F0 m (pc + 3) ls (.ref (ad 3) :: rest))) : W p l e R s m args below meth c H locs cells slots Q (F0 m pc ls (.ref (ad 0) :: rest)) := va_get (D := D) (ci := 11) (C := RX11) (T := TX11) (N := 70) C.1 C.2.1 C.2.2.1 gLx11 C.2.2.2.1 C.2.2.2.2 hP.1 0 rfl rfl 23 (by decide) (C.2.2.1 _ hm) (fun _ h9 => h9) rfl hdg kk
theorem mdG_seconds (C : gC D k p s m args c cc own) (hP : gWd D (mdW k ad) v f g H) (hm : Cond.fieldLink own idx "RouteWallModel" "seconds" "[I" ∈ gWs) (hdg : decode cc pc = .ok (.getfield idx, 3)) (kk : W p l e R s m args below meth c H locs cells slots Q (F0 m (pc + 3) ls (.ref (ad 4) :: rest))) : W p l e R s m args below meth c H locs cells slots Q (F0 m pc ls (.ref (ad 0) :: rest)) := va_get (D := D) (ci := 11) (C := RX11) (T := TX11) (N := 70) C.1 C.2.1 C.2.2.1 gLx11 C.2.2.2.1 C.2.2.2.2 hP.1 0 rfl rfl 24 (by decide) (C.2.2.1 _ hm) (fun _ h9 => h9) rfl hdg kk
theorem mdG_rest (C : gC D k p s m args c cc own) (hP : gWd D (mdW k ad) v f g H) (hm : Cond.fieldLink own idx "RouteWallModel" "rest" "[I" ∈ gWs) (hdg : decode cc pc = .ok (.getfield idx, 3)) (kk : W p l e R s m args below meth c H locs cells slots Q (F0 m (pc + 3) ls (.ref (ad 5) :: rest))) : W p l e R s m args below meth c H locs cells slots Q (F0 m pc ls (.ref (ad 0) :: rest)) := va_get (D := D) (ci := 11) (C := RX11) (T := TX11) (N := 70) C.1 C.2.1 C.2.2.1 gLx11 C.2.2.2.1 C.2.2.2.2 hP.1 0 rfl rfl 25 (by decide) (C.2.2.1 _ hm) (fun _ h9 => h9) rfl hdg kk
theorem mdG_newRoutes (C : gC D k p s m args c cc own) (hP : gWd D (mdW k ad) v f g H) (hm : Cond.fieldLink own idx "RouteWallModel" "newRoutes" "[I" ∈ gWs) (hdg : decode cc pc = .ok (.getfield idx, 3)) (kk : W p l e R s m args below meth c H locs cells slots Q (F0 m (pc + 3) ls (.ref (ad 6) :: rest))) : W p l e R s m args below meth c H locs cells slots Q (F0 m pc ls (.ref (ad 0) :: rest)) := va_get (D := D) (ci := 11) (C := RX11) (T := TX11) (N := 70) C.1 C.2.1 C.2.2.1 gLx11 C.2.2.2.1 C.2.2.2.2 hP.1 0 rfl rfl 26 (by decide) (C.2.2.1 _ hm) (fun _ h9 => h9) rfl hdg kk
theorem mdG_newTries (C : gC D k p s m args c cc own) (hP : gWd D (mdW k ad) v f g H) (hm : Cond.fieldLink own idx "RouteWallModel" "newTries" "[I" ∈ gWs) (hdg : decode cc pc = .ok (.getfield idx, 3)) (kk : W p l e R s m args below meth c H locs cells slots Q (F0 m (pc + 3) ls (.ref (ad 7) :: rest))) : W p l e R s m args below meth c H locs cells slots Q (F0 m pc ls (.ref (ad 0) :: rest)) := va_get (D := D) (ci := 11) (C := RX11) (T := TX11) (N := 70) C.1 C.2.1 C.2.2.1 gLx11 C.2.2.2.1 C.2.2.2.2 hP.1 0 rfl rfl 27 (by decide) (C.2.2.1 _ hm) (fun _ h9 => h9) rfl hdg kk
theorem mdG_newSeconds (C : gC D k p s m args c cc own) (hP : gWd D (mdW k ad) v f g H) (hm : Cond.fieldLink own idx "RouteWallModel" "newSeconds" "[I" ∈ gWs) (hdg : decode cc pc = .ok (.getfield idx, 3)) (kk : W p l e R s m args below meth c H locs cells slots Q (F0 m (pc + 3) ls (.ref (ad 8) :: rest))) : W p l e R s m args below meth c H locs cells slots Q (F0 m pc ls (.ref (ad 0) :: rest)) := va_get (D := D) (ci := 11) (C := RX11) (T := TX11) (N := 70) C.1 C.2.1 C.2.2.1 gLx11 C.2.2.2.1 C.2.2.2.2 hP.1 0 rfl rfl 28 (by decide) (C.2.2.1 _ hm) (fun _ h9 => h9) rfl hdg kk
theorem mdG_newRest (C : gC D k p s m args c cc own) (hP : gWd D (mdW k ad) v f g H) (hm : Cond.fieldLink own idx "RouteWallModel" "newRest" "[I" ∈ gWs) (hdg : decode cc pc = .ok (.getfield idx, 3)) (kk : W p l e R s m args below meth c H locs cells slots Q (F0 m (pc + 3) ls (.ref (ad 9) :: rest))) : W p l e R s m args below meth c H locs cells slots Q (F0 m pc ls (.ref (ad 0) :: rest)) := va_get (D := D) (ci := 11) (C := RX11) (T := TX11) (N := 70) C.1 C.2.1 C.2.2.1 gLx11 C.2.2.2.1 C.2.2.2.2 hP.1 0 rfl rfl 29 (by decide) (C.2.2.1 _ hm) (fun _ h9 => h9) rfl hdg kk
theorem mdG_part (C : gC D k p s m args c cc own) (hP : gWd D (mdW k ad) v f g H) (hm : Cond.fieldLink own idx "RouteWallModel" "part" "[I" ∈ gWs) (hdg : decode cc pc = .ok (.getfield idx, 3)) (kk : W p l e R s m args below meth c H locs cells slots Q (F0 m (pc + 3) ls (.ref (ad 10) :: rest))) : W p l e R s m args below meth c H locs cells slots Q (F0 m pc ls (.ref (ad 0) :: rest)) := va_get (D := D) (ci := 11) (C := RX11) (T := TX11) (N := 70) C.1 C.2.1 C.2.2.1 gLx11 C.2.2.2.1 C.2.2.2.2 hP.1 0 rfl rfl 30 (by decide) (C.2.2.1 _ hm) (fun _ h9 => h9) rfl hdg kk
theorem mdG_partNumber (C : gC D k p s m args c cc own) (hP : gWd D (mdW k ad) v f g H) (hm : Cond.fieldLink own idx "RouteWallModel" "partNumber" "[I" ∈ gWs) (hdg : decode cc pc = .ok (.getfield idx, 3)) (kk : W p l e R s m args below meth c H locs cells slots Q (F0 m (pc + 3) ls (.ref (ad 11) :: rest))) : W p l e R s m args below meth c H locs cells slots Q (F0 m pc ls (.ref (ad 0) :: rest)) := va_get (D := D) (ci := 11) (C := RX11) (T := TX11) (N := 70) C.1 C.2.1 C.2.2.1 gLx11 C.2.2.2.1 C.2.2.2.2 hP.1 0 rfl rfl 31 (by decide) (C.2.2.1 _ hm) (fun _ h9 => h9) rfl hdg kk
theorem mdG_newPart (C : gC D k p s m args c cc own) (hP : gWd D (mdW k ad) v f g H) (hm : Cond.fieldLink own idx "RouteWallModel" "newPart" "[I" ∈ gWs) (hdg : decode cc pc = .ok (.getfield idx, 3)) (kk : W p l e R s m args below meth c H locs cells slots Q (F0 m (pc + 3) ls (.ref (ad 12) :: rest))) : W p l e R s m args below meth c H locs cells slots Q (F0 m pc ls (.ref (ad 0) :: rest)) := va_get (D := D) (ci := 11) (C := RX11) (T := TX11) (N := 70) C.1 C.2.1 C.2.2.1 gLx11 C.2.2.2.1 C.2.2.2.2 hP.1 0 rfl rfl 32 (by decide) (C.2.2.1 _ hm) (fun _ h9 => h9) rfl hdg kk
theorem mdG_newNumber (C : gC D k p s m args c cc own) (hP : gWd D (mdW k ad) v f g H) (hm : Cond.fieldLink own idx "RouteWallModel" "newNumber" "[I" ∈ gWs) (hdg : decode cc pc = .ok (.getfield idx, 3)) (kk : W p l e R s m args below meth c H locs cells slots Q (F0 m (pc + 3) ls (.ref (ad 13) :: rest))) : W p l e R s m args below meth c H locs cells slots Q (F0 m pc ls (.ref (ad 0) :: rest)) := va_get (D := D) (ci := 11) (C := RX11) (T := TX11) (N := 70) C.1 C.2.1 C.2.2.1 gLx11 C.2.2.2.1 C.2.2.2.2 hP.1 0 rfl rfl 33 (by decide) (C.2.2.1 _ hm) (fun _ h9 => h9) rfl hdg kk
theorem mdG_key (C : gC D k p s m args c cc own) (hP : gWd D (mdW k ad) v f g H) (hm : Cond.fieldLink own idx "RouteWallModel" "key" "[I" ∈ gWs) (hdg : decode cc pc = .ok (.getfield idx, 3)) (kk : W p l e R s m args below meth c H locs cells slots Q (F0 m (pc + 3) ls (.ref (ad 14) :: rest))) : W p l e R s m args below meth c H locs cells slots Q (F0 m pc ls (.ref (ad 0) :: rest)) := va_get (D := D) (ci := 11) (C := RX11) (T := TX11) (N := 70) C.1 C.2.1 C.2.2.1 gLx11 C.2.2.2.1 C.2.2.2.2 hP.1 0 rfl rfl 34 (by decide) (C.2.2.1 _ hm) (fun _ h9 => h9) rfl hdg kk
theorem mdG_newKey (C : gC D k p s m args c cc own) (hP : gWd D (mdW k ad) v f g H) (hm : Cond.fieldLink own idx "RouteWallModel" "newKey" "[I" ∈ gWs) (hdg : decode cc pc = .ok (.getfield idx, 3)) (kk : W p l e R s m args below meth c H locs cells slots Q (F0 m (pc + 3) ls (.ref (ad 15) :: rest))) : W p l e R s m args below meth c H locs cells slots Q (F0 m pc ls (.ref (ad 0) :: rest)) := va_get (D := D) (ci := 11) (C := RX11) (T := TX11) (N := 70) C.1 C.2.1 C.2.2.1 gLx11 C.2.2.2.1 C.2.2.2.2 hP.1 0 rfl rfl 35 (by decide) (C.2.2.1 _ hm) (fun _ h9 => h9) rfl hdg kk
theorem mdG_isUp (C : gC D k p s m args c cc own) (hP : gWd D (mdW k ad) v f g H) (hm : Cond.fieldLink own idx "RouteWallModel" "isUp" "[Z" ∈ gWs) (hdg : decode cc pc = .ok (.getfield idx, 3)) (kk : W p l e R s m args below meth c H locs cells slots Q (F0 m (pc + 3) ls (.ref (ad 16) :: rest))) : W p l e R s m args below meth c H locs cells slots Q (F0 m pc ls (.ref (ad 0) :: rest)) := va_get (D := D) (ci := 11) (C := RX11) (T := TX11) (N := 70) C.1 C.2.1 C.2.2.1 gLx11 C.2.2.2.1 C.2.2.2.2 hP.1 0 rfl rfl 36 (by decide) (C.2.2.1 _ hm) (fun _ h9 => h9) rfl hdg kk
theorem mdG_newUp (C : gC D k p s m args c cc own) (hP : gWd D (mdW k ad) v f g H) (hm : Cond.fieldLink own idx "RouteWallModel" "newUp" "[Z" ∈ gWs) (hdg : decode cc pc = .ok (.getfield idx, 3)) (kk : W p l e R s m args below meth c H locs cells slots Q (F0 m (pc + 3) ls (.ref (ad 17) :: rest))) : W p l e R s m args below meth c H locs cells slots Q (F0 m pc ls (.ref (ad 0) :: rest)) := va_get (D := D) (ci := 11) (C := RX11) (T := TX11) (N := 70) C.1 C.2.1 C.2.2.1 gLx11 C.2.2.2.1 C.2.2.2.2 hP.1 0 rfl rfl 37 (by decide) (C.2.2.1 _ hm) (fun _ h9 => h9) rfl hdg kk
theorem mdG_waits (C : gC D k p s m args c cc own) (hP : gWd D (mdW k ad) v f g H) (hm : Cond.fieldLink own idx "RouteWallModel" "waits" "[I" ∈ gWs) (hdg : decode cc pc = .ok (.getfield idx, 3)) (kk : W p l e R s m args below meth c H locs cells slots Q (F0 m (pc + 3) ls (.ref (ad 18) :: rest))) : W p l e R s m args below meth c H locs cells slots Q (F0 m pc ls (.ref (ad 0) :: rest)) := va_get (D := D) (ci := 11) (C := RX11) (T := TX11) (N := 70) C.1 C.2.1 C.2.2.1 gLx11 C.2.2.2.1 C.2.2.2.2 hP.1 0 rfl rfl 38 (by decide) (C.2.2.1 _ hm) (fun _ h9 => h9) rfl hdg kk
theorem mdG_waiting (C : gC D k p s m args c cc own) (hP : gWd D (mdW k ad) v f g H) (hm : Cond.fieldLink own idx "RouteWallModel" "waiting" "I" ∈ gWs) (hdg : decode cc pc = .ok (.getfield idx, 3)) (kk : W p l e R s m args below meth c H locs cells slots Q (F0 m (pc + 3) ls (.int (iI (v 20)) :: rest))) : W p l e R s m args below meth c H locs cells slots Q (F0 m pc ls (.ref (ad 0) :: rest)) := va_get (D := D) (ci := 11) (C := RX11) (T := TX11) (N := 70) C.1 C.2.1 C.2.2.1 gLx11 C.2.2.2.1 C.2.2.2.2 hP.1 0 rfl rfl 39 (by decide) (C.2.2.1 _ hm) (fun _ h9 => h9) rfl hdg kk
theorem mdP_waiting (C : gC D k p s m args c cc own) (hP : gWd D (mdW k ad) v f g H) (hD : mdD A k ad) (hS : va_S A H0 H locs) (hm : Cond.fieldLink own idx "RouteWallModel" "waiting" "I" ∈ gWs) {x : Int} {v1 : gV} (hx : inR x) (hv : (mdW k ad) (va_up v 20 x) f g = (mdW k ad) v1 f g) (hv2 : va_up v 20 x = v1 ∨ gOk v1 f) (hdg : decode cc pc = .ok (.putfield idx, 3)) (kk : ∀ (H1 : Heap) (locs1 : List Loc), gWd D (mdW k ad) v1 f g H1 → va_S A H0 H1 locs1 → W p l e R s m args below meth c H1 locs1 cells slots Q (F0 m (pc + 3) ls rest)) : W p l e R s m args below meth c H locs cells slots Q (F0 m pc ls (.int (iI x) :: .ref (ad 0) :: rest)) := va_put (D := D) (ci := 11) (ty := .int) (C := RX11) (T := TX11) (N := 70) C.1 C.2.1 C.2.2.1 gLx11 tyX11 tyX11_ok nmX11 C.2.2.2.1 C.2.2.2.2 hP.1 (hD v f g) hS 0 rfl rfl 39 (by decide) (C.2.2.1 _ hm) (fun _ h9 => h9) rfl (by decide +kernel) rfl rfl (Nat.le_of_ble_eq_true rfl) hdg (fun H1 locs1 h1 _ h3 => kk H1 locs1 ⟨hv ▸ (show va_P D vwCl ((mdW k ad) (va_up v 20 x) f g) H1 from h1), hv2.elim (fun q => q ▸ gR_up hP.2 20 hx) id⟩ h3)
theorem mdG_deep (C : gC D k p s m args c cc own) (hP : gWd D (mdW k ad) v f g H) (hm : Cond.fieldLink own idx "RouteWallModel" "deep" "I" ∈ gWs) (hdg : decode cc pc = .ok (.getfield idx, 3)) (kk : W p l e R s m args below meth c H locs cells slots Q (F0 m (pc + 3) ls (.int (iI (v 21)) :: rest))) : W p l e R s m args below meth c H locs cells slots Q (F0 m pc ls (.ref (ad 0) :: rest)) := va_get (D := D) (ci := 11) (C := RX11) (T := TX11) (N := 70) C.1 C.2.1 C.2.2.1 gLx11 C.2.2.2.1 C.2.2.2.2 hP.1 0 rfl rfl 40 (by decide) (C.2.2.1 _ hm) (fun _ h9 => h9) rfl hdg kk
theorem mdP_deep (C : gC D k p s m args c cc own) (hP : gWd D (mdW k ad) v f g H) (hD : mdD A k ad) (hS : va_S A H0 H locs) (hm : Cond.fieldLink own idx "RouteWallModel" "deep" "I" ∈ gWs) {x : Int} {v1 : gV} (hx : inR x) (hv : (mdW k ad) (va_up v 21 x) f g = (mdW k ad) v1 f g) (hv2 : va_up v 21 x = v1 ∨ gOk v1 f) (hdg : decode cc pc = .ok (.putfield idx, 3)) (kk : ∀ (H1 : Heap) (locs1 : List Loc), gWd D (mdW k ad) v1 f g H1 → va_S A H0 H1 locs1 → W p l e R s m args below meth c H1 locs1 cells slots Q (F0 m (pc + 3) ls rest)) : W p l e R s m args below meth c H locs cells slots Q (F0 m pc ls (.int (iI x) :: .ref (ad 0) :: rest)) := va_put (D := D) (ci := 11) (ty := .int) (C := RX11) (T := TX11) (N := 70) C.1 C.2.1 C.2.2.1 gLx11 tyX11 tyX11_ok nmX11 C.2.2.2.1 C.2.2.2.2 hP.1 (hD v f g) hS 0 rfl rfl 40 (by decide) (C.2.2.1 _ hm) (fun _ h9 => h9) rfl (by decide +kernel) rfl rfl (Nat.le_of_ble_eq_true rfl) hdg (fun H1 locs1 h1 _ h3 => kk H1 locs1 ⟨hv ▸ (show va_P D vwCl ((mdW k ad) (va_up v 21 x) f g) H1 from h1), hv2.elim (fun q => q ▸ gR_up hP.2 21 hx) id⟩ h3)
theorem mdG_holds (C : gC D k p s m args c cc own) (hP : gWd D (mdW k ad) v f g H) (hm : Cond.fieldLink own idx "RouteWallModel" "holds" "[I" ∈ gWs) (hdg : decode cc pc = .ok (.getfield idx, 3)) (kk : W p l e R s m args below meth c H locs cells slots Q (F0 m (pc + 3) ls (.ref (ad 19) :: rest))) : W p l e R s m args below meth c H locs cells slots Q (F0 m pc ls (.ref (ad 0) :: rest)) := va_get (D := D) (ci := 11) (C := RX11) (T := TX11) (N := 70) C.1 C.2.1 C.2.2.1 gLx11 C.2.2.2.1 C.2.2.2.2 hP.1 0 rfl rfl 41 (by decide) (C.2.2.1 _ hm) (fun _ h9 => h9) rfl hdg kk
theorem mdG_zones (C : gC D k p s m args c cc own) (hP : gWd D (mdW k ad) v f g H) (hm : Cond.fieldLink own idx "RouteWallModel" "zones" "[I" ∈ gWs) (hdg : decode cc pc = .ok (.getfield idx, 3)) (kk : W p l e R s m args below meth c H locs cells slots Q (F0 m (pc + 3) ls (.ref (ad 20) :: rest))) : W p l e R s m args below meth c H locs cells slots Q (F0 m pc ls (.ref (ad 0) :: rest)) := va_get (D := D) (ci := 11) (C := RX11) (T := TX11) (N := 70) C.1 C.2.1 C.2.2.1 gLx11 C.2.2.2.1 C.2.2.2.2 hP.1 0 rfl rfl 42 (by decide) (C.2.2.1 _ hm) (fun _ h9 => h9) rfl hdg kk
theorem mdG_begun (C : gC D k p s m args c cc own) (hP : gWd D (mdW k ad) v f g H) (hm : Cond.fieldLink own idx "RouteWallModel" "begun" "[I" ∈ gWs) (hdg : decode cc pc = .ok (.getfield idx, 3)) (kk : W p l e R s m args below meth c H locs cells slots Q (F0 m (pc + 3) ls (.ref (ad 21) :: rest))) : W p l e R s m args below meth c H locs cells slots Q (F0 m pc ls (.ref (ad 0) :: rest)) := va_get (D := D) (ci := 11) (C := RX11) (T := TX11) (N := 70) C.1 C.2.1 C.2.2.1 gLx11 C.2.2.2.1 C.2.2.2.2 hP.1 0 rfl rfl 43 (by decide) (C.2.2.1 _ hm) (fun _ h9 => h9) rfl hdg kk
theorem mdG_climbers (C : gC D k p s m args c cc own) (hP : gWd D (mdW k ad) v f g H) (hm : Cond.fieldLink own idx "RouteWallModel" "climbers" "I" ∈ gWs) (hdg : decode cc pc = .ok (.getfield idx, 3)) (kk : W p l e R s m args below meth c H locs cells slots Q (F0 m (pc + 3) ls (.int (iI (v 22)) :: rest))) : W p l e R s m args below meth c H locs cells slots Q (F0 m pc ls (.ref (ad 0) :: rest)) := va_get (D := D) (ci := 11) (C := RX11) (T := TX11) (N := 70) C.1 C.2.1 C.2.2.1 gLx11 C.2.2.2.1 C.2.2.2.2 hP.1 0 rfl rfl 44 (by decide) (C.2.2.1 _ hm) (fun _ h9 => h9) rfl hdg kk
theorem mdP_climbers (C : gC D k p s m args c cc own) (hP : gWd D (mdW k ad) v f g H) (hD : mdD A k ad) (hS : va_S A H0 H locs) (hm : Cond.fieldLink own idx "RouteWallModel" "climbers" "I" ∈ gWs) {x : Int} {v1 : gV} (hx : inR x) (hv : (mdW k ad) (va_up v 22 x) f g = (mdW k ad) v1 f g) (hv2 : va_up v 22 x = v1 ∨ gOk v1 f) (hdg : decode cc pc = .ok (.putfield idx, 3)) (kk : ∀ (H1 : Heap) (locs1 : List Loc), gWd D (mdW k ad) v1 f g H1 → va_S A H0 H1 locs1 → W p l e R s m args below meth c H1 locs1 cells slots Q (F0 m (pc + 3) ls rest)) : W p l e R s m args below meth c H locs cells slots Q (F0 m pc ls (.int (iI x) :: .ref (ad 0) :: rest)) := va_put (D := D) (ci := 11) (ty := .int) (C := RX11) (T := TX11) (N := 70) C.1 C.2.1 C.2.2.1 gLx11 tyX11 tyX11_ok nmX11 C.2.2.2.1 C.2.2.2.2 hP.1 (hD v f g) hS 0 rfl rfl 44 (by decide) (C.2.2.1 _ hm) (fun _ h9 => h9) rfl (by decide +kernel) rfl rfl (Nat.le_of_ble_eq_true rfl) hdg (fun H1 locs1 h1 _ h3 => kk H1 locs1 ⟨hv ▸ (show va_P D vwCl ((mdW k ad) (va_up v 22 x) f g) H1 from h1), hv2.elim (fun q => q ▸ gR_up hP.2 22 hx) id⟩ h3)
theorem mdG_open (C : gC D k p s m args c cc own) (hP : gWd D (mdW k ad) v f g H) (hm : Cond.fieldLink own idx "RouteWallModel" "open" "I" ∈ gWs) (hdg : decode cc pc = .ok (.getfield idx, 3)) (kk : W p l e R s m args below meth c H locs cells slots Q (F0 m (pc + 3) ls (.int (iI (v 23)) :: rest))) : W p l e R s m args below meth c H locs cells slots Q (F0 m pc ls (.ref (ad 0) :: rest)) := va_get (D := D) (ci := 11) (C := RX11) (T := TX11) (N := 70) C.1 C.2.1 C.2.2.1 gLx11 C.2.2.2.1 C.2.2.2.2 hP.1 0 rfl rfl 45 (by decide) (C.2.2.1 _ hm) (fun _ h9 => h9) rfl hdg kk
theorem mdP_open (C : gC D k p s m args c cc own) (hP : gWd D (mdW k ad) v f g H) (hD : mdD A k ad) (hS : va_S A H0 H locs) (hm : Cond.fieldLink own idx "RouteWallModel" "open" "I" ∈ gWs) {x : Int} {v1 : gV} (hx : inR x) (hv : (mdW k ad) (va_up v 23 x) f g = (mdW k ad) v1 f g) (hv2 : va_up v 23 x = v1 ∨ gOk v1 f) (hdg : decode cc pc = .ok (.putfield idx, 3)) (kk : ∀ (H1 : Heap) (locs1 : List Loc), gWd D (mdW k ad) v1 f g H1 → va_S A H0 H1 locs1 → W p l e R s m args below meth c H1 locs1 cells slots Q (F0 m (pc + 3) ls rest)) : W p l e R s m args below meth c H locs cells slots Q (F0 m pc ls (.int (iI x) :: .ref (ad 0) :: rest)) := va_put (D := D) (ci := 11) (ty := .int) (C := RX11) (T := TX11) (N := 70) C.1 C.2.1 C.2.2.1 gLx11 tyX11 tyX11_ok nmX11 C.2.2.2.1 C.2.2.2.2 hP.1 (hD v f g) hS 0 rfl rfl 45 (by decide) (C.2.2.1 _ hm) (fun _ h9 => h9) rfl (by decide +kernel) rfl rfl (Nat.le_of_ble_eq_true rfl) hdg (fun H1 locs1 h1 _ h3 => kk H1 locs1 ⟨hv ▸ (show va_P D vwCl ((mdW k ad) (va_up v 23 x) f g) H1 from h1), hv2.elim (fun q => q ▸ gR_up hP.2 23 hx) id⟩ h3)
theorem mdG_now (C : gC D k p s m args c cc own) (hP : gWd D (mdW k ad) v f g H) (hm : Cond.fieldLink own idx "RouteWallModel" "now" "I" ∈ gWs) (hdg : decode cc pc = .ok (.getfield idx, 3)) (kk : W p l e R s m args below meth c H locs cells slots Q (F0 m (pc + 3) ls (.int (iI (v 24)) :: rest))) : W p l e R s m args below meth c H locs cells slots Q (F0 m pc ls (.ref (ad 0) :: rest)) := va_get (D := D) (ci := 11) (C := RX11) (T := TX11) (N := 70) C.1 C.2.1 C.2.2.1 gLx11 C.2.2.2.1 C.2.2.2.2 hP.1 0 rfl rfl 46 (by decide) (C.2.2.1 _ hm) (fun _ h9 => h9) rfl hdg kk
theorem mdP_now (C : gC D k p s m args c cc own) (hP : gWd D (mdW k ad) v f g H) (hD : mdD A k ad) (hS : va_S A H0 H locs) (hm : Cond.fieldLink own idx "RouteWallModel" "now" "I" ∈ gWs) {x : Int} {v1 : gV} (hx : inR x) (hv : (mdW k ad) (va_up v 24 x) f g = (mdW k ad) v1 f g) (hv2 : va_up v 24 x = v1 ∨ gOk v1 f) (hdg : decode cc pc = .ok (.putfield idx, 3)) (kk : ∀ (H1 : Heap) (locs1 : List Loc), gWd D (mdW k ad) v1 f g H1 → va_S A H0 H1 locs1 → W p l e R s m args below meth c H1 locs1 cells slots Q (F0 m (pc + 3) ls rest)) : W p l e R s m args below meth c H locs cells slots Q (F0 m pc ls (.int (iI x) :: .ref (ad 0) :: rest)) := va_put (D := D) (ci := 11) (ty := .int) (C := RX11) (T := TX11) (N := 70) C.1 C.2.1 C.2.2.1 gLx11 tyX11 tyX11_ok nmX11 C.2.2.2.1 C.2.2.2.2 hP.1 (hD v f g) hS 0 rfl rfl 46 (by decide) (C.2.2.1 _ hm) (fun _ h9 => h9) rfl (by decide +kernel) rfl rfl (Nat.le_of_ble_eq_true rfl) hdg (fun H1 locs1 h1 _ h3 => kk H1 locs1 ⟨hv ▸ (show va_P D vwCl ((mdW k ad) (va_up v 24 x) f g) H1 from h1), hv2.elim (fun q => q ▸ gR_up hP.2 24 hx) id⟩ h3)
theorem mdG_isIn (C : gC D k p s m args c cc own) (hP : gWd D (mdW k ad) v f g H) (hm : Cond.fieldLink own idx "RouteWallModel" "isIn" "[Z" ∈ gWs) (hdg : decode cc pc = .ok (.getfield idx, 3)) (kk : W p l e R s m args below meth c H locs cells slots Q (F0 m (pc + 3) ls (.ref (ad 22) :: rest))) : W p l e R s m args below meth c H locs cells slots Q (F0 m pc ls (.ref (ad 0) :: rest)) := va_get (D := D) (ci := 11) (C := RX11) (T := TX11) (N := 70) C.1 C.2.1 C.2.2.1 gLx11 C.2.2.2.1 C.2.2.2.2 hP.1 0 rfl rfl 47 (by decide) (C.2.2.1 _ hm) (fun _ h9 => h9) rfl hdg kk
theorem mdG_order (C : gC D k p s m args c cc own) (hP : gWd D (mdW k ad) v f g H) (hm : Cond.fieldLink own idx "RouteWallModel" "order" "[I" ∈ gWs) (hdg : decode cc pc = .ok (.getfield idx, 3)) (kk : W p l e R s m args below meth c H locs cells slots Q (F0 m (pc + 3) ls (.ref (ad 23) :: rest))) : W p l e R s m args below meth c H locs cells slots Q (F0 m pc ls (.ref (ad 0) :: rest)) := va_get (D := D) (ci := 11) (C := RX11) (T := TX11) (N := 70) C.1 C.2.1 C.2.2.1 gLx11 C.2.2.2.1 C.2.2.2.2 hP.1 0 rfl rfl 48 (by decide) (C.2.2.1 _ hm) (fun _ h9 => h9) rfl hdg kk
theorem mdG_orderMany (C : gC D k p s m args c cc own) (hP : gWd D (mdW k ad) v f g H) (hm : Cond.fieldLink own idx "RouteWallModel" "orderMany" "[I" ∈ gWs) (hdg : decode cc pc = .ok (.getfield idx, 3)) (kk : W p l e R s m args below meth c H locs cells slots Q (F0 m (pc + 3) ls (.ref (ad 24) :: rest))) : W p l e R s m args below meth c H locs cells slots Q (F0 m pc ls (.ref (ad 0) :: rest)) := va_get (D := D) (ci := 11) (C := RX11) (T := TX11) (N := 70) C.1 C.2.1 C.2.2.1 gLx11 C.2.2.2.1 C.2.2.2.2 hP.1 0 rfl rfl 49 (by decide) (C.2.2.1 _ hm) (fun _ h9 => h9) rfl hdg kk
theorem mdG_tried (C : gC D k p s m args c cc own) (hP : gWd D (mdW k ad) v f g H) (hm : Cond.fieldLink own idx "RouteWallModel" "tried" "I" ∈ gWs) (hdg : decode cc pc = .ok (.getfield idx, 3)) (kk : W p l e R s m args below meth c H locs cells slots Q (F0 m (pc + 3) ls (.int (iI (v 25)) :: rest))) : W p l e R s m args below meth c H locs cells slots Q (F0 m pc ls (.ref (ad 0) :: rest)) := va_get (D := D) (ci := 11) (C := RX11) (T := TX11) (N := 70) C.1 C.2.1 C.2.2.1 gLx11 C.2.2.2.1 C.2.2.2.2 hP.1 0 rfl rfl 50 (by decide) (C.2.2.1 _ hm) (fun _ h9 => h9) rfl hdg kk
theorem mdP_tried (C : gC D k p s m args c cc own) (hP : gWd D (mdW k ad) v f g H) (hD : mdD A k ad) (hS : va_S A H0 H locs) (hm : Cond.fieldLink own idx "RouteWallModel" "tried" "I" ∈ gWs) {x : Int} {v1 : gV} (hx : inR x) (hv : (mdW k ad) (va_up v 25 x) f g = (mdW k ad) v1 f g) (hv2 : va_up v 25 x = v1 ∨ gOk v1 f) (hdg : decode cc pc = .ok (.putfield idx, 3)) (kk : ∀ (H1 : Heap) (locs1 : List Loc), gWd D (mdW k ad) v1 f g H1 → va_S A H0 H1 locs1 → W p l e R s m args below meth c H1 locs1 cells slots Q (F0 m (pc + 3) ls rest)) : W p l e R s m args below meth c H locs cells slots Q (F0 m pc ls (.int (iI x) :: .ref (ad 0) :: rest)) := va_put (D := D) (ci := 11) (ty := .int) (C := RX11) (T := TX11) (N := 70) C.1 C.2.1 C.2.2.1 gLx11 tyX11 tyX11_ok nmX11 C.2.2.2.1 C.2.2.2.2 hP.1 (hD v f g) hS 0 rfl rfl 50 (by decide) (C.2.2.1 _ hm) (fun _ h9 => h9) rfl (by decide +kernel) rfl rfl (Nat.le_of_ble_eq_true rfl) hdg (fun H1 locs1 h1 _ h3 => kk H1 locs1 ⟨hv ▸ (show va_P D vwCl ((mdW k ad) (va_up v 25 x) f g) H1 from h1), hv2.elim (fun q => q ▸ gR_up hP.2 25 hx) id⟩ h3)
theorem mdG_who (C : gC D k p s m args c cc own) (hP : gWd D (mdW k ad) v f g H) (hm : Cond.fieldLink own idx "RouteWallModel" "who" "[I" ∈ gWs) (hdg : decode cc pc = .ok (.getfield idx, 3)) (kk : W p l e R s m args below meth c H locs cells slots Q (F0 m (pc + 3) ls (.ref (ad 25) :: rest))) : W p l e R s m args below meth c H locs cells slots Q (F0 m pc ls (.ref (ad 0) :: rest)) := va_get (D := D) (ci := 11) (C := RX11) (T := TX11) (N := 70) C.1 C.2.1 C.2.2.1 gLx11 C.2.2.2.1 C.2.2.2.2 hP.1 0 rfl rfl 51 (by decide) (C.2.2.1 _ hm) (fun _ h9 => h9) rfl hdg kk
theorem mdG_where (C : gC D k p s m args c cc own) (hP : gWd D (mdW k ad) v f g H) (hm : Cond.fieldLink own idx "RouteWallModel" "where" "[I" ∈ gWs) (hdg : decode cc pc = .ok (.getfield idx, 3)) (kk : W p l e R s m args below meth c H locs cells slots Q (F0 m (pc + 3) ls (.ref (ad 26) :: rest))) : W p l e R s m args below meth c H locs cells slots Q (F0 m pc ls (.ref (ad 0) :: rest)) := va_get (D := D) (ci := 11) (C := RX11) (T := TX11) (N := 70) C.1 C.2.1 C.2.2.1 gLx11 C.2.2.2.1 C.2.2.2.2 hP.1 0 rfl rfl 52 (by decide) (C.2.2.1 _ hm) (fun _ h9 => h9) rfl hdg kk
theorem mdG_which (C : gC D k p s m args c cc own) (hP : gWd D (mdW k ad) v f g H) (hm : Cond.fieldLink own idx "RouteWallModel" "which" "[I" ∈ gWs) (hdg : decode cc pc = .ok (.getfield idx, 3)) (kk : W p l e R s m args below meth c H locs cells slots Q (F0 m (pc + 3) ls (.ref (ad 27) :: rest))) : W p l e R s m args below meth c H locs cells slots Q (F0 m pc ls (.ref (ad 0) :: rest)) := va_get (D := D) (ci := 11) (C := RX11) (T := TX11) (N := 70) C.1 C.2.1 C.2.2.1 gLx11 C.2.2.2.1 C.2.2.2.2 hP.1 0 rfl rfl 53 (by decide) (C.2.2.1 _ hm) (fun _ h9 => h9) rfl hdg kk
theorem mdG_from (C : gC D k p s m args c cc own) (hP : gWd D (mdW k ad) v f g H) (hm : Cond.fieldLink own idx "RouteWallModel" "from" "[I" ∈ gWs) (hdg : decode cc pc = .ok (.getfield idx, 3)) (kk : W p l e R s m args below meth c H locs cells slots Q (F0 m (pc + 3) ls (.ref (ad 28) :: rest))) : W p l e R s m args below meth c H locs cells slots Q (F0 m pc ls (.ref (ad 0) :: rest)) := va_get (D := D) (ci := 11) (C := RX11) (T := TX11) (N := 70) C.1 C.2.1 C.2.2.1 gLx11 C.2.2.2.1 C.2.2.2.2 hP.1 0 rfl rfl 54 (by decide) (C.2.2.1 _ hm) (fun _ h9 => h9) rfl hdg kk
theorem mdG_to (C : gC D k p s m args c cc own) (hP : gWd D (mdW k ad) v f g H) (hm : Cond.fieldLink own idx "RouteWallModel" "to" "[I" ∈ gWs) (hdg : decode cc pc = .ok (.getfield idx, 3)) (kk : W p l e R s m args below meth c H locs cells slots Q (F0 m (pc + 3) ls (.ref (ad 29) :: rest))) : W p l e R s m args below meth c H locs cells slots Q (F0 m pc ls (.ref (ad 0) :: rest)) := va_get (D := D) (ci := 11) (C := RX11) (T := TX11) (N := 70) C.1 C.2.1 C.2.2.1 gLx11 C.2.2.2.1 C.2.2.2.2 hP.1 0 rfl rfl 55 (by decide) (C.2.2.1 _ hm) (fun _ h9 => h9) rfl hdg kk
theorem mdG_hold (C : gC D k p s m args c cc own) (hP : gWd D (mdW k ad) v f g H) (hm : Cond.fieldLink own idx "RouteWallModel" "hold" "[I" ∈ gWs) (hdg : decode cc pc = .ok (.getfield idx, 3)) (kk : W p l e R s m args below meth c H locs cells slots Q (F0 m (pc + 3) ls (.ref (ad 30) :: rest))) : W p l e R s m args below meth c H locs cells slots Q (F0 m pc ls (.ref (ad 0) :: rest)) := va_get (D := D) (ci := 11) (C := RX11) (T := TX11) (N := 70) C.1 C.2.1 C.2.2.1 gLx11 C.2.2.2.1 C.2.2.2.2 hP.1 0 rfl rfl 56 (by decide) (C.2.2.1 _ hm) (fun _ h9 => h9) rfl hdg kk
theorem mdG_how (C : gC D k p s m args c cc own) (hP : gWd D (mdW k ad) v f g H) (hm : Cond.fieldLink own idx "RouteWallModel" "how" "[I" ∈ gWs) (hdg : decode cc pc = .ok (.getfield idx, 3)) (kk : W p l e R s m args below meth c H locs cells slots Q (F0 m (pc + 3) ls (.ref (ad 31) :: rest))) : W p l e R s m args below meth c H locs cells slots Q (F0 m pc ls (.ref (ad 0) :: rest)) := va_get (D := D) (ci := 11) (C := RX11) (T := TX11) (N := 70) C.1 C.2.1 C.2.2.1 gLx11 C.2.2.2.1 C.2.2.2.2 hP.1 0 rfl rfl 57 (by decide) (C.2.2.1 _ hm) (fun _ h9 => h9) rfl hdg kk
theorem mdG_appeals (C : gC D k p s m args c cc own) (hP : gWd D (mdW k ad) v f g H) (hm : Cond.fieldLink own idx "RouteWallModel" "appeals" "I" ∈ gWs) (hdg : decode cc pc = .ok (.getfield idx, 3)) (kk : W p l e R s m args below meth c H locs cells slots Q (F0 m (pc + 3) ls (.int (iI (v 26)) :: rest))) : W p l e R s m args below meth c H locs cells slots Q (F0 m pc ls (.ref (ad 0) :: rest)) := va_get (D := D) (ci := 11) (C := RX11) (T := TX11) (N := 70) C.1 C.2.1 C.2.2.1 gLx11 C.2.2.2.1 C.2.2.2.2 hP.1 0 rfl rfl 58 (by decide) (C.2.2.1 _ hm) (fun _ h9 => h9) rfl hdg kk
theorem mdP_appeals (C : gC D k p s m args c cc own) (hP : gWd D (mdW k ad) v f g H) (hD : mdD A k ad) (hS : va_S A H0 H locs) (hm : Cond.fieldLink own idx "RouteWallModel" "appeals" "I" ∈ gWs) {x : Int} {v1 : gV} (hx : inR x) (hv : (mdW k ad) (va_up v 26 x) f g = (mdW k ad) v1 f g) (hv2 : va_up v 26 x = v1 ∨ gOk v1 f) (hdg : decode cc pc = .ok (.putfield idx, 3)) (kk : ∀ (H1 : Heap) (locs1 : List Loc), gWd D (mdW k ad) v1 f g H1 → va_S A H0 H1 locs1 → W p l e R s m args below meth c H1 locs1 cells slots Q (F0 m (pc + 3) ls rest)) : W p l e R s m args below meth c H locs cells slots Q (F0 m pc ls (.int (iI x) :: .ref (ad 0) :: rest)) := va_put (D := D) (ci := 11) (ty := .int) (C := RX11) (T := TX11) (N := 70) C.1 C.2.1 C.2.2.1 gLx11 tyX11 tyX11_ok nmX11 C.2.2.2.1 C.2.2.2.2 hP.1 (hD v f g) hS 0 rfl rfl 58 (by decide) (C.2.2.1 _ hm) (fun _ h9 => h9) rfl (by decide +kernel) rfl rfl (Nat.le_of_ble_eq_true rfl) hdg (fun H1 locs1 h1 _ h3 => kk H1 locs1 ⟨hv ▸ (show va_P D vwCl ((mdW k ad) (va_up v 26 x) f g) H1 from h1), hv2.elim (fun q => q ▸ gR_up hP.2 26 hx) id⟩ h3)
theorem mdG_appealTry (C : gC D k p s m args c cc own) (hP : gWd D (mdW k ad) v f g H) (hm : Cond.fieldLink own idx "RouteWallModel" "appealTry" "[I" ∈ gWs) (hdg : decode cc pc = .ok (.getfield idx, 3)) (kk : W p l e R s m args below meth c H locs cells slots Q (F0 m (pc + 3) ls (.ref (ad 32) :: rest))) : W p l e R s m args below meth c H locs cells slots Q (F0 m pc ls (.ref (ad 0) :: rest)) := va_get (D := D) (ci := 11) (C := RX11) (T := TX11) (N := 70) C.1 C.2.1 C.2.2.1 gLx11 C.2.2.2.1 C.2.2.2.2 hP.1 0 rfl rfl 59 (by decide) (C.2.2.1 _ hm) (fun _ h9 => h9) rfl hdg kk
theorem mdG_appealHold (C : gC D k p s m args c cc own) (hP : gWd D (mdW k ad) v f g H) (hm : Cond.fieldLink own idx "RouteWallModel" "appealHold" "[I" ∈ gWs) (hdg : decode cc pc = .ok (.getfield idx, 3)) (kk : W p l e R s m args below meth c H locs cells slots Q (F0 m (pc + 3) ls (.ref (ad 33) :: rest))) : W p l e R s m args below meth c H locs cells slots Q (F0 m pc ls (.ref (ad 0) :: rest)) := va_get (D := D) (ci := 11) (C := RX11) (T := TX11) (N := 70) C.1 C.2.1 C.2.2.1 gLx11 C.2.2.2.1 C.2.2.2.2 hP.1 0 rfl rfl 60 (by decide) (C.2.2.1 _ hm) (fun _ h9 => h9) rfl hdg kk
theorem mdG_appealDay (C : gC D k p s m args c cc own) (hP : gWd D (mdW k ad) v f g H) (hm : Cond.fieldLink own idx "RouteWallModel" "appealDay" "[I" ∈ gWs) (hdg : decode cc pc = .ok (.getfield idx, 3)) (kk : W p l e R s m args below meth c H locs cells slots Q (F0 m (pc + 3) ls (.ref (ad 34) :: rest))) : W p l e R s m args below meth c H locs cells slots Q (F0 m pc ls (.ref (ad 0) :: rest)) := va_get (D := D) (ci := 11) (C := RX11) (T := TX11) (N := 70) C.1 C.2.1 C.2.2.1 gLx11 C.2.2.2.1 C.2.2.2.2 hP.1 0 rfl rfl 61 (by decide) (C.2.2.1 _ hm) (fun _ h9 => h9) rfl hdg kk
theorem mdG_outs (C : gC D k p s m args c cc own) (hP : gWd D (mdW k ad) v f g H) (hm : Cond.fieldLink own idx "RouteWallModel" "outs" "[I" ∈ gWs) (hdg : decode cc pc = .ok (.getfield idx, 3)) (kk : W p l e R s m args below meth c H locs cells slots Q (F0 m (pc + 3) ls (.ref (ad 35) :: rest))) : W p l e R s m args below meth c H locs cells slots Q (F0 m pc ls (.ref (ad 0) :: rest)) := va_get (D := D) (ci := 11) (C := RX11) (T := TX11) (N := 70) C.1 C.2.1 C.2.2.1 gLx11 C.2.2.2.1 C.2.2.2.2 hP.1 0 rfl rfl 62 (by decide) (C.2.2.1 _ hm) (fun _ h9 => h9) rfl hdg kk
theorem mdG_outFrom (C : gC D k p s m args c cc own) (hP : gWd D (mdW k ad) v f g H) (hm : Cond.fieldLink own idx "RouteWallModel" "outFrom" "[I" ∈ gWs) (hdg : decode cc pc = .ok (.getfield idx, 3)) (kk : W p l e R s m args below meth c H locs cells slots Q (F0 m (pc + 3) ls (.ref (ad 36) :: rest))) : W p l e R s m args below meth c H locs cells slots Q (F0 m pc ls (.ref (ad 0) :: rest)) := va_get (D := D) (ci := 11) (C := RX11) (T := TX11) (N := 70) C.1 C.2.1 C.2.2.1 gLx11 C.2.2.2.1 C.2.2.2.2 hP.1 0 rfl rfl 63 (by decide) (C.2.2.1 _ hm) (fun _ h9 => h9) rfl hdg kk
theorem mdG_outTo (C : gC D k p s m args c cc own) (hP : gWd D (mdW k ad) v f g H) (hm : Cond.fieldLink own idx "RouteWallModel" "outTo" "[I" ∈ gWs) (hdg : decode cc pc = .ok (.getfield idx, 3)) (kk : W p l e R s m args below meth c H locs cells slots Q (F0 m (pc + 3) ls (.ref (ad 37) :: rest))) : W p l e R s m args below meth c H locs cells slots Q (F0 m pc ls (.ref (ad 0) :: rest)) := va_get (D := D) (ci := 11) (C := RX11) (T := TX11) (N := 70) C.1 C.2.1 C.2.2.1 gLx11 C.2.2.2.1 C.2.2.2.2 hP.1 0 rfl rfl 64 (by decide) (C.2.2.1 _ hm) (fun _ h9 => h9) rfl hdg kk
theorem mdG_counted (C : gC D k p s m args c cc own) (hP : gWd D (mdW k ad) v f g H) (hm : Cond.fieldLink own idx "RouteWallModel" "counted" "I" ∈ gWs) (hdg : decode cc pc = .ok (.getfield idx, 3)) (kk : W p l e R s m args below meth c H locs cells slots Q (F0 m (pc + 3) ls (.int (iI (v 27)) :: rest))) : W p l e R s m args below meth c H locs cells slots Q (F0 m pc ls (.ref (ad 0) :: rest)) := va_get (D := D) (ci := 11) (C := RX11) (T := TX11) (N := 70) C.1 C.2.1 C.2.2.1 gLx11 C.2.2.2.1 C.2.2.2.2 hP.1 0 rfl rfl 65 (by decide) (C.2.2.1 _ hm) (fun _ h9 => h9) rfl hdg kk
theorem mdP_counted (C : gC D k p s m args c cc own) (hP : gWd D (mdW k ad) v f g H) (hD : mdD A k ad) (hS : va_S A H0 H locs) (hm : Cond.fieldLink own idx "RouteWallModel" "counted" "I" ∈ gWs) {x : Int} {v1 : gV} (hx : inR x) (hv : (mdW k ad) (va_up v 27 x) f g = (mdW k ad) v1 f g) (hv2 : va_up v 27 x = v1 ∨ gOk v1 f) (hdg : decode cc pc = .ok (.putfield idx, 3)) (kk : ∀ (H1 : Heap) (locs1 : List Loc), gWd D (mdW k ad) v1 f g H1 → va_S A H0 H1 locs1 → W p l e R s m args below meth c H1 locs1 cells slots Q (F0 m (pc + 3) ls rest)) : W p l e R s m args below meth c H locs cells slots Q (F0 m pc ls (.int (iI x) :: .ref (ad 0) :: rest)) := va_put (D := D) (ci := 11) (ty := .int) (C := RX11) (T := TX11) (N := 70) C.1 C.2.1 C.2.2.1 gLx11 tyX11 tyX11_ok nmX11 C.2.2.2.1 C.2.2.2.2 hP.1 (hD v f g) hS 0 rfl rfl 65 (by decide) (C.2.2.1 _ hm) (fun _ h9 => h9) rfl (by decide +kernel) rfl rfl (Nat.le_of_ble_eq_true rfl) hdg (fun H1 locs1 h1 _ h3 => kk H1 locs1 ⟨hv ▸ (show va_P D vwCl ((mdW k ad) (va_up v 27 x) f g) H1 from h1), hv2.elim (fun q => q ▸ gR_up hP.2 27 hx) id⟩ h3)
theorem mdG_facts (C : gC D k p s m args c cc own) (hP : gWd D (mdW k ad) v f g H) (hm : Cond.fieldLink own idx "RouteWallModel" "facts" "[I" ∈ gWs) (hdg : decode cc pc = .ok (.getfield idx, 3)) (kk : W p l e R s m args below meth c H locs cells slots Q (F0 m (pc + 3) ls (.ref (ad 38) :: rest))) : W p l e R s m args below meth c H locs cells slots Q (F0 m pc ls (.ref (ad 0) :: rest)) := va_get (D := D) (ci := 11) (C := RX11) (T := TX11) (N := 70) C.1 C.2.1 C.2.2.1 gLx11 C.2.2.2.1 C.2.2.2.2 hP.1 0 rfl rfl 66 (by decide) (C.2.2.1 _ hm) (fun _ h9 => h9) rfl hdg kk
theorem mdG_pile (C : gC D k p s m args c cc own) (hP : gWd D (mdW k ad) v f g H) (hm : Cond.fieldLink own idx "RouteWallModel" "pile" "[J" ∈ gWs) (hdg : decode cc pc = .ok (.getfield idx, 3)) (kk : W p l e R s m args below meth c H locs cells slots Q (F0 m (pc + 3) ls (.ref (ad 39) :: rest))) : W p l e R s m args below meth c H locs cells slots Q (F0 m pc ls (.ref (ad 0) :: rest)) := va_get (D := D) (ci := 11) (C := RX11) (T := TX11) (N := 70) C.1 C.2.1 C.2.2.1 gLx11 C.2.2.2.1 C.2.2.2.2 hP.1 0 rfl rfl 67 (by decide) (C.2.2.1 _ hm) (fun _ h9 => h9) rfl hdg kk
theorem mdG_ranks (C : gC D k p s m args c cc own) (hP : gWd D (mdW k ad) v f g H) (hm : Cond.fieldLink own idx "RouteWallModel" "ranks" "[I" ∈ gWs) (hdg : decode cc pc = .ok (.getfield idx, 3)) (kk : W p l e R s m args below meth c H locs cells slots Q (F0 m (pc + 3) ls (.ref (ad 40) :: rest))) : W p l e R s m args below meth c H locs cells slots Q (F0 m pc ls (.ref (ad 0) :: rest)) := va_get (D := D) (ci := 11) (C := RX11) (T := TX11) (N := 70) C.1 C.2.1 C.2.2.1 gLx11 C.2.2.2.1 C.2.2.2.2 hP.1 0 rfl rfl 68 (by decide) (C.2.2.1 _ hm) (fun _ h9 => h9) rfl hdg kk
theorem mdG_sums (C : gC D k p s m args c cc own) (hP : gWd D (mdW k ad) v f g H) (hm : Cond.fieldLink own idx "RouteWallModel" "sums" "[J" ∈ gWs) (hdg : decode cc pc = .ok (.getfield idx, 3)) (kk : W p l e R s m args below meth c H locs cells slots Q (F0 m (pc + 3) ls (.ref (ad 41) :: rest))) : W p l e R s m args below meth c H locs cells slots Q (F0 m pc ls (.ref (ad 0) :: rest)) := va_get (D := D) (ci := 11) (C := RX11) (T := TX11) (N := 70) C.1 C.2.1 C.2.2.1 gLx11 C.2.2.2.1 C.2.2.2.2 hP.1 0 rfl rfl 69 (by decide) (C.2.2.1 _ hm) (fun _ h9 => h9) rfl hdg kk
theorem mdL_tape (C : gC D k p s m args c cc own) (hP : gWd D (mdW k ad) v f g H) {i : Int} (h0 : 0 ≤ i) (h1 : i < 700) (hdg : decode cc pc = .ok (.baload, 1)) (kk : W p l e R s m args below meth c H locs cells slots Q (F0 m (pc + 1) ls (.int (iI (f 0 i)) :: rest))) : W p l e R s m args below meth c H locs cells slots Q (F0 m pc ls (.int (iI i) :: .ref (ad 1) :: rest)) := g_bald C hP.1 1 rfl (by decide) h0 h1 hdg kk
theorem mdS_tape (C : gC D k p s m args c cc own) (hP : gWd D (mdW k ad) v f g H) (hD : mdD A k ad) (hS : va_S A H0 H locs) {i x : Int} {f1 : gF} (h0 : 0 ≤ i) (h1 : i < 700) (hx : inR x) (hy : (iI x).toInt8.toInt32 = iI x) (hv : (mdW k ad) v (va_up f 0 (u1 (f 0) i x)) g = (mdW k ad) v f1 g) (hv2 : va_up f 0 (u1 (f 0) i x) = f1 ∨ gOk v f1) (hdg : decode cc pc = .ok (.bastore, 1)) (kk : ∀ (H1 : Heap) (locs1 : List Loc), gWd D (mdW k ad) v f1 g H1 → va_S A H0 H1 locs1 → W p l e R s m args below meth c H1 locs1 cells slots Q (F0 m (pc + 1) ls rest)) : W p l e R s m args below meth c H locs cells slots Q (F0 m pc ls (.int (iI x) :: .int (iI i) :: .ref (ad 1) :: rest)) := g_bast C hP.1 (hD v f g) hS 1 rfl (by decide) h0 h1 hy (ws' := (mdW k ad) v f1 g) (by rw [← hv]; rfl) hdg (fun H1 locs1 h1 h3 => kk H1 locs1 ⟨h1, hv2.elim (fun q => q ▸ gF_up hP.2 0 (u1_rng (hP.2.2 0) hx)) id⟩ h3)
theorem mdN_tape (C : gC D k p s m args c cc own) (hP : gWd D (mdW k ad) v f g H) (hdg : decode cc pc = .ok (.arraylength, 1)) (kk : W p l e R s m args below meth c H locs cells slots Q (F0 m (pc + 1) ls (.int (iI 700) :: rest))) : W p l e R s m args below meth c H locs cells slots Q (F0 m pc ls (.ref (ad 1) :: rest)) := va_alen (D := D) C.1 C.2.1 C.2.2.2.2 hP.1 1 2 rfl rfl (v := iI 700) rfl hdg kk
theorem mdL_routes (C : gC D k p s m args c cc own) (hP : gWd D (mdW k ad) v f g H) {i : Int} (h0 : 0 ≤ i) (h1 : i < 4) (hdg : decode cc pc = .ok (.iaload, 1)) (kk : W p l e R s m args below meth c H locs cells slots Q (F0 m (pc + 1) ls (.int (iI (f 1 i)) :: rest))) : W p l e R s m args below meth c H locs cells slots Q (F0 m pc ls (.int (iI i) :: .ref (ad 2) :: rest)) := g_iald C hP.1 2 rfl (by decide) h0 h1 hdg kk
theorem mdS_routes (C : gC D k p s m args c cc own) (hP : gWd D (mdW k ad) v f g H) (hD : mdD A k ad) (hS : va_S A H0 H locs) {i x : Int} {f1 : gF} (h0 : 0 ≤ i) (h1 : i < 4) (hx : inR x) (hv : (mdW k ad) v (va_up f 1 (u1 (f 1) i x)) g = (mdW k ad) v f1 g) (hv2 : va_up f 1 (u1 (f 1) i x) = f1 ∨ gOk v f1) (hdg : decode cc pc = .ok (.iastore, 1)) (kk : ∀ (H1 : Heap) (locs1 : List Loc), gWd D (mdW k ad) v f1 g H1 → va_S A H0 H1 locs1 → W p l e R s m args below meth c H1 locs1 cells slots Q (F0 m (pc + 1) ls rest)) : W p l e R s m args below meth c H locs cells slots Q (F0 m pc ls (.int (iI x) :: .int (iI i) :: .ref (ad 2) :: rest)) := g_iast C hP.1 (hD v f g) hS 2 rfl (by decide) h0 h1 (ws' := (mdW k ad) v f1 g) (by rw [← hv]; rfl) hdg (fun H1 locs1 h1 h3 => kk H1 locs1 ⟨h1, hv2.elim (fun q => q ▸ gF_up hP.2 1 (u1_rng (hP.2.2 1) hx)) id⟩ h3)
theorem mdN_routes (C : gC D k p s m args c cc own) (hP : gWd D (mdW k ad) v f g H) (hdg : decode cc pc = .ok (.arraylength, 1)) (kk : W p l e R s m args below meth c H locs cells slots Q (F0 m (pc + 1) ls (.int (iI 4) :: rest))) : W p l e R s m args below meth c H locs cells slots Q (F0 m pc ls (.ref (ad 2) :: rest)) := va_alen (D := D) C.1 C.2.1 C.2.2.2.2 hP.1 2 0 rfl rfl (v := iI 4) rfl hdg kk
theorem mdL_tries (C : gC D k p s m args c cc own) (hP : gWd D (mdW k ad) v f g H) {i : Int} (h0 : 0 ≤ i) (h1 : i < 4) (hdg : decode cc pc = .ok (.iaload, 1)) (kk : W p l e R s m args below meth c H locs cells slots Q (F0 m (pc + 1) ls (.int (iI (f 2 i)) :: rest))) : W p l e R s m args below meth c H locs cells slots Q (F0 m pc ls (.int (iI i) :: .ref (ad 3) :: rest)) := g_iald C hP.1 3 rfl (by decide) h0 h1 hdg kk
theorem mdS_tries (C : gC D k p s m args c cc own) (hP : gWd D (mdW k ad) v f g H) (hD : mdD A k ad) (hS : va_S A H0 H locs) {i x : Int} {f1 : gF} (h0 : 0 ≤ i) (h1 : i < 4) (hx : inR x) (hv : (mdW k ad) v (va_up f 2 (u1 (f 2) i x)) g = (mdW k ad) v f1 g) (hv2 : va_up f 2 (u1 (f 2) i x) = f1 ∨ gOk v f1) (hdg : decode cc pc = .ok (.iastore, 1)) (kk : ∀ (H1 : Heap) (locs1 : List Loc), gWd D (mdW k ad) v f1 g H1 → va_S A H0 H1 locs1 → W p l e R s m args below meth c H1 locs1 cells slots Q (F0 m (pc + 1) ls rest)) : W p l e R s m args below meth c H locs cells slots Q (F0 m pc ls (.int (iI x) :: .int (iI i) :: .ref (ad 3) :: rest)) := g_iast C hP.1 (hD v f g) hS 3 rfl (by decide) h0 h1 (ws' := (mdW k ad) v f1 g) (by rw [← hv]; rfl) hdg (fun H1 locs1 h1 h3 => kk H1 locs1 ⟨h1, hv2.elim (fun q => q ▸ gF_up hP.2 2 (u1_rng (hP.2.2 2) hx)) id⟩ h3)
theorem mdN_tries (C : gC D k p s m args c cc own) (hP : gWd D (mdW k ad) v f g H) (hdg : decode cc pc = .ok (.arraylength, 1)) (kk : W p l e R s m args below meth c H locs cells slots Q (F0 m (pc + 1) ls (.int (iI 4) :: rest))) : W p l e R s m args below meth c H locs cells slots Q (F0 m pc ls (.ref (ad 3) :: rest)) := va_alen (D := D) C.1 C.2.1 C.2.2.2.2 hP.1 3 0 rfl rfl (v := iI 4) rfl hdg kk
theorem mdL_seconds (C : gC D k p s m args c cc own) (hP : gWd D (mdW k ad) v f g H) {i : Int} (h0 : 0 ≤ i) (h1 : i < 4) (hdg : decode cc pc = .ok (.iaload, 1)) (kk : W p l e R s m args below meth c H locs cells slots Q (F0 m (pc + 1) ls (.int (iI (f 3 i)) :: rest))) : W p l e R s m args below meth c H locs cells slots Q (F0 m pc ls (.int (iI i) :: .ref (ad 4) :: rest)) := g_iald C hP.1 4 rfl (by decide) h0 h1 hdg kk
theorem mdS_seconds (C : gC D k p s m args c cc own) (hP : gWd D (mdW k ad) v f g H) (hD : mdD A k ad) (hS : va_S A H0 H locs) {i x : Int} {f1 : gF} (h0 : 0 ≤ i) (h1 : i < 4) (hx : inR x) (hv : (mdW k ad) v (va_up f 3 (u1 (f 3) i x)) g = (mdW k ad) v f1 g) (hv2 : va_up f 3 (u1 (f 3) i x) = f1 ∨ gOk v f1) (hdg : decode cc pc = .ok (.iastore, 1)) (kk : ∀ (H1 : Heap) (locs1 : List Loc), gWd D (mdW k ad) v f1 g H1 → va_S A H0 H1 locs1 → W p l e R s m args below meth c H1 locs1 cells slots Q (F0 m (pc + 1) ls rest)) : W p l e R s m args below meth c H locs cells slots Q (F0 m pc ls (.int (iI x) :: .int (iI i) :: .ref (ad 4) :: rest)) := g_iast C hP.1 (hD v f g) hS 4 rfl (by decide) h0 h1 (ws' := (mdW k ad) v f1 g) (by rw [← hv]; rfl) hdg (fun H1 locs1 h1 h3 => kk H1 locs1 ⟨h1, hv2.elim (fun q => q ▸ gF_up hP.2 3 (u1_rng (hP.2.2 3) hx)) id⟩ h3)
theorem mdN_seconds (C : gC D k p s m args c cc own) (hP : gWd D (mdW k ad) v f g H) (hdg : decode cc pc = .ok (.arraylength, 1)) (kk : W p l e R s m args below meth c H locs cells slots Q (F0 m (pc + 1) ls (.int (iI 4) :: rest))) : W p l e R s m args below meth c H locs cells slots Q (F0 m pc ls (.ref (ad 4) :: rest)) := va_alen (D := D) C.1 C.2.1 C.2.2.2.2 hP.1 4 0 rfl rfl (v := iI 4) rfl hdg kk
theorem mdL_rest (C : gC D k p s m args c cc own) (hP : gWd D (mdW k ad) v f g H) {i : Int} (h0 : 0 ≤ i) (h1 : i < 4) (hdg : decode cc pc = .ok (.iaload, 1)) (kk : W p l e R s m args below meth c H locs cells slots Q (F0 m (pc + 1) ls (.int (iI (f 4 i)) :: rest))) : W p l e R s m args below meth c H locs cells slots Q (F0 m pc ls (.int (iI i) :: .ref (ad 5) :: rest)) := g_iald C hP.1 5 rfl (by decide) h0 h1 hdg kk
theorem mdS_rest (C : gC D k p s m args c cc own) (hP : gWd D (mdW k ad) v f g H) (hD : mdD A k ad) (hS : va_S A H0 H locs) {i x : Int} {f1 : gF} (h0 : 0 ≤ i) (h1 : i < 4) (hx : inR x) (hv : (mdW k ad) v (va_up f 4 (u1 (f 4) i x)) g = (mdW k ad) v f1 g) (hv2 : va_up f 4 (u1 (f 4) i x) = f1 ∨ gOk v f1) (hdg : decode cc pc = .ok (.iastore, 1)) (kk : ∀ (H1 : Heap) (locs1 : List Loc), gWd D (mdW k ad) v f1 g H1 → va_S A H0 H1 locs1 → W p l e R s m args below meth c H1 locs1 cells slots Q (F0 m (pc + 1) ls rest)) : W p l e R s m args below meth c H locs cells slots Q (F0 m pc ls (.int (iI x) :: .int (iI i) :: .ref (ad 5) :: rest)) := g_iast C hP.1 (hD v f g) hS 5 rfl (by decide) h0 h1 (ws' := (mdW k ad) v f1 g) (by rw [← hv]; rfl) hdg (fun H1 locs1 h1 h3 => kk H1 locs1 ⟨h1, hv2.elim (fun q => q ▸ gF_up hP.2 4 (u1_rng (hP.2.2 4) hx)) id⟩ h3)
theorem mdN_rest (C : gC D k p s m args c cc own) (hP : gWd D (mdW k ad) v f g H) (hdg : decode cc pc = .ok (.arraylength, 1)) (kk : W p l e R s m args below meth c H locs cells slots Q (F0 m (pc + 1) ls (.int (iI 4) :: rest))) : W p l e R s m args below meth c H locs cells slots Q (F0 m pc ls (.ref (ad 5) :: rest)) := va_alen (D := D) C.1 C.2.1 C.2.2.2.2 hP.1 5 0 rfl rfl (v := iI 4) rfl hdg kk
theorem mdL_newRoutes (C : gC D k p s m args c cc own) (hP : gWd D (mdW k ad) v f g H) {i : Int} (h0 : 0 ≤ i) (h1 : i < 5) (hdg : decode cc pc = .ok (.iaload, 1)) (kk : W p l e R s m args below meth c H locs cells slots Q (F0 m (pc + 1) ls (.int (iI (f 5 i)) :: rest))) : W p l e R s m args below meth c H locs cells slots Q (F0 m pc ls (.int (iI i) :: .ref (ad 6) :: rest)) := g_iald C hP.1 6 rfl (by decide) h0 h1 hdg kk
theorem mdS_newRoutes (C : gC D k p s m args c cc own) (hP : gWd D (mdW k ad) v f g H) (hD : mdD A k ad) (hS : va_S A H0 H locs) {i x : Int} {f1 : gF} (h0 : 0 ≤ i) (h1 : i < 5) (hx : inR x) (hv : (mdW k ad) v (va_up f 5 (u1 (f 5) i x)) g = (mdW k ad) v f1 g) (hv2 : va_up f 5 (u1 (f 5) i x) = f1 ∨ gOk v f1) (hdg : decode cc pc = .ok (.iastore, 1)) (kk : ∀ (H1 : Heap) (locs1 : List Loc), gWd D (mdW k ad) v f1 g H1 → va_S A H0 H1 locs1 → W p l e R s m args below meth c H1 locs1 cells slots Q (F0 m (pc + 1) ls rest)) : W p l e R s m args below meth c H locs cells slots Q (F0 m pc ls (.int (iI x) :: .int (iI i) :: .ref (ad 6) :: rest)) := g_iast C hP.1 (hD v f g) hS 6 rfl (by decide) h0 h1 (ws' := (mdW k ad) v f1 g) (by rw [← hv]; rfl) hdg (fun H1 locs1 h1 h3 => kk H1 locs1 ⟨h1, hv2.elim (fun q => q ▸ gF_up hP.2 5 (u1_rng (hP.2.2 5) hx)) id⟩ h3)
theorem mdN_newRoutes (C : gC D k p s m args c cc own) (hP : gWd D (mdW k ad) v f g H) (hdg : decode cc pc = .ok (.arraylength, 1)) (kk : W p l e R s m args below meth c H locs cells slots Q (F0 m (pc + 1) ls (.int (iI 5) :: rest))) : W p l e R s m args below meth c H locs cells slots Q (F0 m pc ls (.ref (ad 6) :: rest)) := va_alen (D := D) C.1 C.2.1 C.2.2.2.2 hP.1 6 0 rfl rfl (v := iI 5) rfl hdg kk
theorem mdL_newTries (C : gC D k p s m args c cc own) (hP : gWd D (mdW k ad) v f g H) {i : Int} (h0 : 0 ≤ i) (h1 : i < 5) (hdg : decode cc pc = .ok (.iaload, 1)) (kk : W p l e R s m args below meth c H locs cells slots Q (F0 m (pc + 1) ls (.int (iI (f 6 i)) :: rest))) : W p l e R s m args below meth c H locs cells slots Q (F0 m pc ls (.int (iI i) :: .ref (ad 7) :: rest)) := g_iald C hP.1 7 rfl (by decide) h0 h1 hdg kk
theorem mdS_newTries (C : gC D k p s m args c cc own) (hP : gWd D (mdW k ad) v f g H) (hD : mdD A k ad) (hS : va_S A H0 H locs) {i x : Int} {f1 : gF} (h0 : 0 ≤ i) (h1 : i < 5) (hx : inR x) (hv : (mdW k ad) v (va_up f 6 (u1 (f 6) i x)) g = (mdW k ad) v f1 g) (hv2 : va_up f 6 (u1 (f 6) i x) = f1 ∨ gOk v f1) (hdg : decode cc pc = .ok (.iastore, 1)) (kk : ∀ (H1 : Heap) (locs1 : List Loc), gWd D (mdW k ad) v f1 g H1 → va_S A H0 H1 locs1 → W p l e R s m args below meth c H1 locs1 cells slots Q (F0 m (pc + 1) ls rest)) : W p l e R s m args below meth c H locs cells slots Q (F0 m pc ls (.int (iI x) :: .int (iI i) :: .ref (ad 7) :: rest)) := g_iast C hP.1 (hD v f g) hS 7 rfl (by decide) h0 h1 (ws' := (mdW k ad) v f1 g) (by rw [← hv]; rfl) hdg (fun H1 locs1 h1 h3 => kk H1 locs1 ⟨h1, hv2.elim (fun q => q ▸ gF_up hP.2 6 (u1_rng (hP.2.2 6) hx)) id⟩ h3)
theorem mdN_newTries (C : gC D k p s m args c cc own) (hP : gWd D (mdW k ad) v f g H) (hdg : decode cc pc = .ok (.arraylength, 1)) (kk : W p l e R s m args below meth c H locs cells slots Q (F0 m (pc + 1) ls (.int (iI 5) :: rest))) : W p l e R s m args below meth c H locs cells slots Q (F0 m pc ls (.ref (ad 7) :: rest)) := va_alen (D := D) C.1 C.2.1 C.2.2.2.2 hP.1 7 0 rfl rfl (v := iI 5) rfl hdg kk
theorem mdL_newSeconds (C : gC D k p s m args c cc own) (hP : gWd D (mdW k ad) v f g H) {i : Int} (h0 : 0 ≤ i) (h1 : i < 5) (hdg : decode cc pc = .ok (.iaload, 1)) (kk : W p l e R s m args below meth c H locs cells slots Q (F0 m (pc + 1) ls (.int (iI (f 7 i)) :: rest))) : W p l e R s m args below meth c H locs cells slots Q (F0 m pc ls (.int (iI i) :: .ref (ad 8) :: rest)) := g_iald C hP.1 8 rfl (by decide) h0 h1 hdg kk
theorem mdS_newSeconds (C : gC D k p s m args c cc own) (hP : gWd D (mdW k ad) v f g H) (hD : mdD A k ad) (hS : va_S A H0 H locs) {i x : Int} {f1 : gF} (h0 : 0 ≤ i) (h1 : i < 5) (hx : inR x) (hv : (mdW k ad) v (va_up f 7 (u1 (f 7) i x)) g = (mdW k ad) v f1 g) (hv2 : va_up f 7 (u1 (f 7) i x) = f1 ∨ gOk v f1) (hdg : decode cc pc = .ok (.iastore, 1)) (kk : ∀ (H1 : Heap) (locs1 : List Loc), gWd D (mdW k ad) v f1 g H1 → va_S A H0 H1 locs1 → W p l e R s m args below meth c H1 locs1 cells slots Q (F0 m (pc + 1) ls rest)) : W p l e R s m args below meth c H locs cells slots Q (F0 m pc ls (.int (iI x) :: .int (iI i) :: .ref (ad 8) :: rest)) := g_iast C hP.1 (hD v f g) hS 8 rfl (by decide) h0 h1 (ws' := (mdW k ad) v f1 g) (by rw [← hv]; rfl) hdg (fun H1 locs1 h1 h3 => kk H1 locs1 ⟨h1, hv2.elim (fun q => q ▸ gF_up hP.2 7 (u1_rng (hP.2.2 7) hx)) id⟩ h3)
theorem mdN_newSeconds (C : gC D k p s m args c cc own) (hP : gWd D (mdW k ad) v f g H) (hdg : decode cc pc = .ok (.arraylength, 1)) (kk : W p l e R s m args below meth c H locs cells slots Q (F0 m (pc + 1) ls (.int (iI 5) :: rest))) : W p l e R s m args below meth c H locs cells slots Q (F0 m pc ls (.ref (ad 8) :: rest)) := va_alen (D := D) C.1 C.2.1 C.2.2.2.2 hP.1 8 0 rfl rfl (v := iI 5) rfl hdg kk
theorem mdL_newRest (C : gC D k p s m args c cc own) (hP : gWd D (mdW k ad) v f g H) {i : Int} (h0 : 0 ≤ i) (h1 : i < 5) (hdg : decode cc pc = .ok (.iaload, 1)) (kk : W p l e R s m args below meth c H locs cells slots Q (F0 m (pc + 1) ls (.int (iI (f 8 i)) :: rest))) : W p l e R s m args below meth c H locs cells slots Q (F0 m pc ls (.int (iI i) :: .ref (ad 9) :: rest)) := g_iald C hP.1 9 rfl (by decide) h0 h1 hdg kk
theorem mdS_newRest (C : gC D k p s m args c cc own) (hP : gWd D (mdW k ad) v f g H) (hD : mdD A k ad) (hS : va_S A H0 H locs) {i x : Int} {f1 : gF} (h0 : 0 ≤ i) (h1 : i < 5) (hx : inR x) (hv : (mdW k ad) v (va_up f 8 (u1 (f 8) i x)) g = (mdW k ad) v f1 g) (hv2 : va_up f 8 (u1 (f 8) i x) = f1 ∨ gOk v f1) (hdg : decode cc pc = .ok (.iastore, 1)) (kk : ∀ (H1 : Heap) (locs1 : List Loc), gWd D (mdW k ad) v f1 g H1 → va_S A H0 H1 locs1 → W p l e R s m args below meth c H1 locs1 cells slots Q (F0 m (pc + 1) ls rest)) : W p l e R s m args below meth c H locs cells slots Q (F0 m pc ls (.int (iI x) :: .int (iI i) :: .ref (ad 9) :: rest)) := g_iast C hP.1 (hD v f g) hS 9 rfl (by decide) h0 h1 (ws' := (mdW k ad) v f1 g) (by rw [← hv]; rfl) hdg (fun H1 locs1 h1 h3 => kk H1 locs1 ⟨h1, hv2.elim (fun q => q ▸ gF_up hP.2 8 (u1_rng (hP.2.2 8) hx)) id⟩ h3)
theorem mdN_newRest (C : gC D k p s m args c cc own) (hP : gWd D (mdW k ad) v f g H) (hdg : decode cc pc = .ok (.arraylength, 1)) (kk : W p l e R s m args below meth c H locs cells slots Q (F0 m (pc + 1) ls (.int (iI 5) :: rest))) : W p l e R s m args below meth c H locs cells slots Q (F0 m pc ls (.ref (ad 9) :: rest)) := va_alen (D := D) C.1 C.2.1 C.2.2.2.2 hP.1 9 0 rfl rfl (v := iI 5) rfl hdg kk
theorem mdL_part (C : gC D k p s m args c cc own) (hP : gWd D (mdW k ad) v f g H) {i : Int} (h0 : 0 ≤ i) (h1 : i < 40) (hdg : decode cc pc = .ok (.iaload, 1)) (kk : W p l e R s m args below meth c H locs cells slots Q (F0 m (pc + 1) ls (.int (iI (f 9 i)) :: rest))) : W p l e R s m args below meth c H locs cells slots Q (F0 m pc ls (.int (iI i) :: .ref (ad 10) :: rest)) := g_iald C hP.1 10 rfl (by decide) h0 h1 hdg kk
theorem mdS_part (C : gC D k p s m args c cc own) (hP : gWd D (mdW k ad) v f g H) (hD : mdD A k ad) (hS : va_S A H0 H locs) {i x : Int} {f1 : gF} (h0 : 0 ≤ i) (h1 : i < 40) (hx : inR x) (hv : (mdW k ad) v (va_up f 9 (u1 (f 9) i x)) g = (mdW k ad) v f1 g) (hv2 : va_up f 9 (u1 (f 9) i x) = f1 ∨ gOk v f1) (hdg : decode cc pc = .ok (.iastore, 1)) (kk : ∀ (H1 : Heap) (locs1 : List Loc), gWd D (mdW k ad) v f1 g H1 → va_S A H0 H1 locs1 → W p l e R s m args below meth c H1 locs1 cells slots Q (F0 m (pc + 1) ls rest)) : W p l e R s m args below meth c H locs cells slots Q (F0 m pc ls (.int (iI x) :: .int (iI i) :: .ref (ad 10) :: rest)) := g_iast C hP.1 (hD v f g) hS 10 rfl (by decide) h0 h1 (ws' := (mdW k ad) v f1 g) (by rw [← hv]; rfl) hdg (fun H1 locs1 h1 h3 => kk H1 locs1 ⟨h1, hv2.elim (fun q => q ▸ gF_up hP.2 9 (u1_rng (hP.2.2 9) hx)) id⟩ h3)
theorem mdN_part (C : gC D k p s m args c cc own) (hP : gWd D (mdW k ad) v f g H) (hdg : decode cc pc = .ok (.arraylength, 1)) (kk : W p l e R s m args below meth c H locs cells slots Q (F0 m (pc + 1) ls (.int (iI 40) :: rest))) : W p l e R s m args below meth c H locs cells slots Q (F0 m pc ls (.ref (ad 10) :: rest)) := va_alen (D := D) C.1 C.2.1 C.2.2.2.2 hP.1 10 0 rfl rfl (v := iI 40) rfl hdg kk
theorem mdL_partNumber (C : gC D k p s m args c cc own) (hP : gWd D (mdW k ad) v f g H) {i : Int} (h0 : 0 ≤ i) (h1 : i < 40) (hdg : decode cc pc = .ok (.iaload, 1)) (kk : W p l e R s m args below meth c H locs cells slots Q (F0 m (pc + 1) ls (.int (iI (f 10 i)) :: rest))) : W p l e R s m args below meth c H locs cells slots Q (F0 m pc ls (.int (iI i) :: .ref (ad 11) :: rest)) := g_iald C hP.1 11 rfl (by decide) h0 h1 hdg kk
theorem mdS_partNumber (C : gC D k p s m args c cc own) (hP : gWd D (mdW k ad) v f g H) (hD : mdD A k ad) (hS : va_S A H0 H locs) {i x : Int} {f1 : gF} (h0 : 0 ≤ i) (h1 : i < 40) (hx : inR x) (hv : (mdW k ad) v (va_up f 10 (u1 (f 10) i x)) g = (mdW k ad) v f1 g) (hv2 : va_up f 10 (u1 (f 10) i x) = f1 ∨ gOk v f1) (hdg : decode cc pc = .ok (.iastore, 1)) (kk : ∀ (H1 : Heap) (locs1 : List Loc), gWd D (mdW k ad) v f1 g H1 → va_S A H0 H1 locs1 → W p l e R s m args below meth c H1 locs1 cells slots Q (F0 m (pc + 1) ls rest)) : W p l e R s m args below meth c H locs cells slots Q (F0 m pc ls (.int (iI x) :: .int (iI i) :: .ref (ad 11) :: rest)) := g_iast C hP.1 (hD v f g) hS 11 rfl (by decide) h0 h1 (ws' := (mdW k ad) v f1 g) (by rw [← hv]; rfl) hdg (fun H1 locs1 h1 h3 => kk H1 locs1 ⟨h1, hv2.elim (fun q => q ▸ gF_up hP.2 10 (u1_rng (hP.2.2 10) hx)) id⟩ h3)
theorem mdN_partNumber (C : gC D k p s m args c cc own) (hP : gWd D (mdW k ad) v f g H) (hdg : decode cc pc = .ok (.arraylength, 1)) (kk : W p l e R s m args below meth c H locs cells slots Q (F0 m (pc + 1) ls (.int (iI 40) :: rest))) : W p l e R s m args below meth c H locs cells slots Q (F0 m pc ls (.ref (ad 11) :: rest)) := va_alen (D := D) C.1 C.2.1 C.2.2.2.2 hP.1 11 0 rfl rfl (v := iI 40) rfl hdg kk
theorem mdL_newPart (C : gC D k p s m args c cc own) (hP : gWd D (mdW k ad) v f g H) {i : Int} (h0 : 0 ≤ i) (h1 : i < 41) (hdg : decode cc pc = .ok (.iaload, 1)) (kk : W p l e R s m args below meth c H locs cells slots Q (F0 m (pc + 1) ls (.int (iI (f 11 i)) :: rest))) : W p l e R s m args below meth c H locs cells slots Q (F0 m pc ls (.int (iI i) :: .ref (ad 12) :: rest)) := g_iald C hP.1 12 rfl (by decide) h0 h1 hdg kk
theorem mdS_newPart (C : gC D k p s m args c cc own) (hP : gWd D (mdW k ad) v f g H) (hD : mdD A k ad) (hS : va_S A H0 H locs) {i x : Int} {f1 : gF} (h0 : 0 ≤ i) (h1 : i < 41) (hx : inR x) (hv : (mdW k ad) v (va_up f 11 (u1 (f 11) i x)) g = (mdW k ad) v f1 g) (hv2 : va_up f 11 (u1 (f 11) i x) = f1 ∨ gOk v f1) (hdg : decode cc pc = .ok (.iastore, 1)) (kk : ∀ (H1 : Heap) (locs1 : List Loc), gWd D (mdW k ad) v f1 g H1 → va_S A H0 H1 locs1 → W p l e R s m args below meth c H1 locs1 cells slots Q (F0 m (pc + 1) ls rest)) : W p l e R s m args below meth c H locs cells slots Q (F0 m pc ls (.int (iI x) :: .int (iI i) :: .ref (ad 12) :: rest)) := g_iast C hP.1 (hD v f g) hS 12 rfl (by decide) h0 h1 (ws' := (mdW k ad) v f1 g) (by rw [← hv]; rfl) hdg (fun H1 locs1 h1 h3 => kk H1 locs1 ⟨h1, hv2.elim (fun q => q ▸ gF_up hP.2 11 (u1_rng (hP.2.2 11) hx)) id⟩ h3)
theorem mdN_newPart (C : gC D k p s m args c cc own) (hP : gWd D (mdW k ad) v f g H) (hdg : decode cc pc = .ok (.arraylength, 1)) (kk : W p l e R s m args below meth c H locs cells slots Q (F0 m (pc + 1) ls (.int (iI 41) :: rest))) : W p l e R s m args below meth c H locs cells slots Q (F0 m pc ls (.ref (ad 12) :: rest)) := va_alen (D := D) C.1 C.2.1 C.2.2.2.2 hP.1 12 0 rfl rfl (v := iI 41) rfl hdg kk
theorem mdL_newNumber (C : gC D k p s m args c cc own) (hP : gWd D (mdW k ad) v f g H) {i : Int} (h0 : 0 ≤ i) (h1 : i < 41) (hdg : decode cc pc = .ok (.iaload, 1)) (kk : W p l e R s m args below meth c H locs cells slots Q (F0 m (pc + 1) ls (.int (iI (f 12 i)) :: rest))) : W p l e R s m args below meth c H locs cells slots Q (F0 m pc ls (.int (iI i) :: .ref (ad 13) :: rest)) := g_iald C hP.1 13 rfl (by decide) h0 h1 hdg kk
theorem mdS_newNumber (C : gC D k p s m args c cc own) (hP : gWd D (mdW k ad) v f g H) (hD : mdD A k ad) (hS : va_S A H0 H locs) {i x : Int} {f1 : gF} (h0 : 0 ≤ i) (h1 : i < 41) (hx : inR x) (hv : (mdW k ad) v (va_up f 12 (u1 (f 12) i x)) g = (mdW k ad) v f1 g) (hv2 : va_up f 12 (u1 (f 12) i x) = f1 ∨ gOk v f1) (hdg : decode cc pc = .ok (.iastore, 1)) (kk : ∀ (H1 : Heap) (locs1 : List Loc), gWd D (mdW k ad) v f1 g H1 → va_S A H0 H1 locs1 → W p l e R s m args below meth c H1 locs1 cells slots Q (F0 m (pc + 1) ls rest)) : W p l e R s m args below meth c H locs cells slots Q (F0 m pc ls (.int (iI x) :: .int (iI i) :: .ref (ad 13) :: rest)) := g_iast C hP.1 (hD v f g) hS 13 rfl (by decide) h0 h1 (ws' := (mdW k ad) v f1 g) (by rw [← hv]; rfl) hdg (fun H1 locs1 h1 h3 => kk H1 locs1 ⟨h1, hv2.elim (fun q => q ▸ gF_up hP.2 12 (u1_rng (hP.2.2 12) hx)) id⟩ h3)
theorem mdN_newNumber (C : gC D k p s m args c cc own) (hP : gWd D (mdW k ad) v f g H) (hdg : decode cc pc = .ok (.arraylength, 1)) (kk : W p l e R s m args below meth c H locs cells slots Q (F0 m (pc + 1) ls (.int (iI 41) :: rest))) : W p l e R s m args below meth c H locs cells slots Q (F0 m pc ls (.ref (ad 13) :: rest)) := va_alen (D := D) C.1 C.2.1 C.2.2.2.2 hP.1 13 0 rfl rfl (v := iI 41) rfl hdg kk
theorem mdL_key (C : gC D k p s m args c cc own) (hP : gWd D (mdW k ad) v f g H) {i : Int} (h0 : 0 ≤ i) (h1 : i < 4) (hdg : decode cc pc = .ok (.iaload, 1)) (kk : W p l e R s m args below meth c H locs cells slots Q (F0 m (pc + 1) ls (.int (iI (f 13 i)) :: rest))) : W p l e R s m args below meth c H locs cells slots Q (F0 m pc ls (.int (iI i) :: .ref (ad 14) :: rest)) := g_iald C hP.1 14 rfl (by decide) h0 h1 hdg kk
theorem mdS_key (C : gC D k p s m args c cc own) (hP : gWd D (mdW k ad) v f g H) (hD : mdD A k ad) (hS : va_S A H0 H locs) {i x : Int} {f1 : gF} (h0 : 0 ≤ i) (h1 : i < 4) (hx : inR x) (hv : (mdW k ad) v (va_up f 13 (u1 (f 13) i x)) g = (mdW k ad) v f1 g) (hv2 : va_up f 13 (u1 (f 13) i x) = f1 ∨ gOk v f1) (hdg : decode cc pc = .ok (.iastore, 1)) (kk : ∀ (H1 : Heap) (locs1 : List Loc), gWd D (mdW k ad) v f1 g H1 → va_S A H0 H1 locs1 → W p l e R s m args below meth c H1 locs1 cells slots Q (F0 m (pc + 1) ls rest)) : W p l e R s m args below meth c H locs cells slots Q (F0 m pc ls (.int (iI x) :: .int (iI i) :: .ref (ad 14) :: rest)) := g_iast C hP.1 (hD v f g) hS 14 rfl (by decide) h0 h1 (ws' := (mdW k ad) v f1 g) (by rw [← hv]; rfl) hdg (fun H1 locs1 h1 h3 => kk H1 locs1 ⟨h1, hv2.elim (fun q => q ▸ gF_up hP.2 13 (u1_rng (hP.2.2 13) hx)) id⟩ h3)
theorem mdN_key (C : gC D k p s m args c cc own) (hP : gWd D (mdW k ad) v f g H) (hdg : decode cc pc = .ok (.arraylength, 1)) (kk : W p l e R s m args below meth c H locs cells slots Q (F0 m (pc + 1) ls (.int (iI 4) :: rest))) : W p l e R s m args below meth c H locs cells slots Q (F0 m pc ls (.ref (ad 14) :: rest)) := va_alen (D := D) C.1 C.2.1 C.2.2.2.2 hP.1 14 0 rfl rfl (v := iI 4) rfl hdg kk
theorem mdL_newKey (C : gC D k p s m args c cc own) (hP : gWd D (mdW k ad) v f g H) {i : Int} (h0 : 0 ≤ i) (h1 : i < 5) (hdg : decode cc pc = .ok (.iaload, 1)) (kk : W p l e R s m args below meth c H locs cells slots Q (F0 m (pc + 1) ls (.int (iI (f 14 i)) :: rest))) : W p l e R s m args below meth c H locs cells slots Q (F0 m pc ls (.int (iI i) :: .ref (ad 15) :: rest)) := g_iald C hP.1 15 rfl (by decide) h0 h1 hdg kk
theorem mdS_newKey (C : gC D k p s m args c cc own) (hP : gWd D (mdW k ad) v f g H) (hD : mdD A k ad) (hS : va_S A H0 H locs) {i x : Int} {f1 : gF} (h0 : 0 ≤ i) (h1 : i < 5) (hx : inR x) (hv : (mdW k ad) v (va_up f 14 (u1 (f 14) i x)) g = (mdW k ad) v f1 g) (hv2 : va_up f 14 (u1 (f 14) i x) = f1 ∨ gOk v f1) (hdg : decode cc pc = .ok (.iastore, 1)) (kk : ∀ (H1 : Heap) (locs1 : List Loc), gWd D (mdW k ad) v f1 g H1 → va_S A H0 H1 locs1 → W p l e R s m args below meth c H1 locs1 cells slots Q (F0 m (pc + 1) ls rest)) : W p l e R s m args below meth c H locs cells slots Q (F0 m pc ls (.int (iI x) :: .int (iI i) :: .ref (ad 15) :: rest)) := g_iast C hP.1 (hD v f g) hS 15 rfl (by decide) h0 h1 (ws' := (mdW k ad) v f1 g) (by rw [← hv]; rfl) hdg (fun H1 locs1 h1 h3 => kk H1 locs1 ⟨h1, hv2.elim (fun q => q ▸ gF_up hP.2 14 (u1_rng (hP.2.2 14) hx)) id⟩ h3)
theorem mdN_newKey (C : gC D k p s m args c cc own) (hP : gWd D (mdW k ad) v f g H) (hdg : decode cc pc = .ok (.arraylength, 1)) (kk : W p l e R s m args below meth c H locs cells slots Q (F0 m (pc + 1) ls (.int (iI 5) :: rest))) : W p l e R s m args below meth c H locs cells slots Q (F0 m pc ls (.ref (ad 15) :: rest)) := va_alen (D := D) C.1 C.2.1 C.2.2.2.2 hP.1 15 0 rfl rfl (v := iI 5) rfl hdg kk
theorem mdL_isUp (C : gC D k p s m args c cc own) (hP : gWd D (mdW k ad) v f g H) {i : Int} (h0 : 0 ≤ i) (h1 : i < 4) (hdg : decode cc pc = .ok (.baload, 1)) (kk : W p l e R s m args below meth c H locs cells slots Q (F0 m (pc + 1) ls (.int (iI (f 15 i)) :: rest))) : W p l e R s m args below meth c H locs cells slots Q (F0 m pc ls (.int (iI i) :: .ref (ad 16) :: rest)) := g_zald C hP.1 16 rfl (by decide) h0 h1 hdg kk
theorem mdS_isUp (C : gC D k p s m args c cc own) (hP : gWd D (mdW k ad) v f g H) (hD : mdD A k ad) (hS : va_S A H0 H locs) {i x : Int} {f1 : gF} (h0 : 0 ≤ i) (h1 : i < 4) (hx : inR x) (hy : x = 0 ∨ x = 1) (hv : (mdW k ad) v (va_up f 15 (u1 (f 15) i x)) g = (mdW k ad) v f1 g) (hv2 : va_up f 15 (u1 (f 15) i x) = f1 ∨ gOk v f1) (hdg : decode cc pc = .ok (.bastore, 1)) (kk : ∀ (H1 : Heap) (locs1 : List Loc), gWd D (mdW k ad) v f1 g H1 → va_S A H0 H1 locs1 → W p l e R s m args below meth c H1 locs1 cells slots Q (F0 m (pc + 1) ls rest)) : W p l e R s m args below meth c H locs cells slots Q (F0 m pc ls (.int (iI x) :: .int (iI i) :: .ref (ad 16) :: rest)) := g_zast C hP.1 (hD v f g) hS 16 rfl (by decide) h0 h1 hy (ws' := (mdW k ad) v f1 g) (by rw [← hv]; rfl) hdg (fun H1 locs1 h1 h3 => kk H1 locs1 ⟨h1, hv2.elim (fun q => q ▸ gF_up hP.2 15 (u1_rng (hP.2.2 15) hx)) id⟩ h3)
theorem mdN_isUp (C : gC D k p s m args c cc own) (hP : gWd D (mdW k ad) v f g H) (hdg : decode cc pc = .ok (.arraylength, 1)) (kk : W p l e R s m args below meth c H locs cells slots Q (F0 m (pc + 1) ls (.int (iI 4) :: rest))) : W p l e R s m args below meth c H locs cells slots Q (F0 m pc ls (.ref (ad 16) :: rest)) := va_alen (D := D) C.1 C.2.1 C.2.2.2.2 hP.1 16 3 rfl rfl (v := iI 4) rfl hdg kk
theorem mdL_newUp (C : gC D k p s m args c cc own) (hP : gWd D (mdW k ad) v f g H) {i : Int} (h0 : 0 ≤ i) (h1 : i < 5) (hdg : decode cc pc = .ok (.baload, 1)) (kk : W p l e R s m args below meth c H locs cells slots Q (F0 m (pc + 1) ls (.int (iI (f 16 i)) :: rest))) : W p l e R s m args below meth c H locs cells slots Q (F0 m pc ls (.int (iI i) :: .ref (ad 17) :: rest)) := g_zald C hP.1 17 rfl (by decide) h0 h1 hdg kk
theorem mdS_newUp (C : gC D k p s m args c cc own) (hP : gWd D (mdW k ad) v f g H) (hD : mdD A k ad) (hS : va_S A H0 H locs) {i x : Int} {f1 : gF} (h0 : 0 ≤ i) (h1 : i < 5) (hx : inR x) (hy : x = 0 ∨ x = 1) (hv : (mdW k ad) v (va_up f 16 (u1 (f 16) i x)) g = (mdW k ad) v f1 g) (hv2 : va_up f 16 (u1 (f 16) i x) = f1 ∨ gOk v f1) (hdg : decode cc pc = .ok (.bastore, 1)) (kk : ∀ (H1 : Heap) (locs1 : List Loc), gWd D (mdW k ad) v f1 g H1 → va_S A H0 H1 locs1 → W p l e R s m args below meth c H1 locs1 cells slots Q (F0 m (pc + 1) ls rest)) : W p l e R s m args below meth c H locs cells slots Q (F0 m pc ls (.int (iI x) :: .int (iI i) :: .ref (ad 17) :: rest)) := g_zast C hP.1 (hD v f g) hS 17 rfl (by decide) h0 h1 hy (ws' := (mdW k ad) v f1 g) (by rw [← hv]; rfl) hdg (fun H1 locs1 h1 h3 => kk H1 locs1 ⟨h1, hv2.elim (fun q => q ▸ gF_up hP.2 16 (u1_rng (hP.2.2 16) hx)) id⟩ h3)
theorem mdN_newUp (C : gC D k p s m args c cc own) (hP : gWd D (mdW k ad) v f g H) (hdg : decode cc pc = .ok (.arraylength, 1)) (kk : W p l e R s m args below meth c H locs cells slots Q (F0 m (pc + 1) ls (.int (iI 5) :: rest))) : W p l e R s m args below meth c H locs cells slots Q (F0 m pc ls (.ref (ad 17) :: rest)) := va_alen (D := D) C.1 C.2.1 C.2.2.2.2 hP.1 17 3 rfl rfl (v := iI 5) rfl hdg kk
theorem mdL_waits (C : gC D k p s m args c cc own) (hP : gWd D (mdW k ad) v f g H) {i : Int} (h0 : 0 ≤ i) (h1 : i < 64) (hdg : decode cc pc = .ok (.iaload, 1)) (kk : W p l e R s m args below meth c H locs cells slots Q (F0 m (pc + 1) ls (.int (iI (f 17 i)) :: rest))) : W p l e R s m args below meth c H locs cells slots Q (F0 m pc ls (.int (iI i) :: .ref (ad 18) :: rest)) := g_iald C hP.1 18 rfl (by decide) h0 h1 hdg kk
theorem mdS_waits (C : gC D k p s m args c cc own) (hP : gWd D (mdW k ad) v f g H) (hD : mdD A k ad) (hS : va_S A H0 H locs) {i x : Int} {f1 : gF} (h0 : 0 ≤ i) (h1 : i < 64) (hx : inR x) (hv : (mdW k ad) v (va_up f 17 (u1 (f 17) i x)) g = (mdW k ad) v f1 g) (hv2 : va_up f 17 (u1 (f 17) i x) = f1 ∨ gOk v f1) (hdg : decode cc pc = .ok (.iastore, 1)) (kk : ∀ (H1 : Heap) (locs1 : List Loc), gWd D (mdW k ad) v f1 g H1 → va_S A H0 H1 locs1 → W p l e R s m args below meth c H1 locs1 cells slots Q (F0 m (pc + 1) ls rest)) : W p l e R s m args below meth c H locs cells slots Q (F0 m pc ls (.int (iI x) :: .int (iI i) :: .ref (ad 18) :: rest)) := g_iast C hP.1 (hD v f g) hS 18 rfl (by decide) h0 h1 (ws' := (mdW k ad) v f1 g) (by rw [← hv]; rfl) hdg (fun H1 locs1 h1 h3 => kk H1 locs1 ⟨h1, hv2.elim (fun q => q ▸ gF_up hP.2 17 (u1_rng (hP.2.2 17) hx)) id⟩ h3)
theorem mdN_waits (C : gC D k p s m args c cc own) (hP : gWd D (mdW k ad) v f g H) (hdg : decode cc pc = .ok (.arraylength, 1)) (kk : W p l e R s m args below meth c H locs cells slots Q (F0 m (pc + 1) ls (.int (iI 64) :: rest))) : W p l e R s m args below meth c H locs cells slots Q (F0 m pc ls (.ref (ad 18) :: rest)) := va_alen (D := D) C.1 C.2.1 C.2.2.2.2 hP.1 18 0 rfl rfl (v := iI 64) rfl hdg kk
theorem mdL_holds (C : gC D k p s m args c cc own) (hP : gWd D (mdW k ad) v f g H) {i : Int} (h0 : 0 ≤ i) (h1 : i < 20) (hdg : decode cc pc = .ok (.iaload, 1)) (kk : W p l e R s m args below meth c H locs cells slots Q (F0 m (pc + 1) ls (.int (iI (f 18 i)) :: rest))) : W p l e R s m args below meth c H locs cells slots Q (F0 m pc ls (.int (iI i) :: .ref (ad 19) :: rest)) := g_iald C hP.1 19 rfl (by decide) h0 h1 hdg kk
theorem mdS_holds (C : gC D k p s m args c cc own) (hP : gWd D (mdW k ad) v f g H) (hD : mdD A k ad) (hS : va_S A H0 H locs) {i x : Int} {f1 : gF} (h0 : 0 ≤ i) (h1 : i < 20) (hx : inR x) (hv : (mdW k ad) v (va_up f 18 (u1 (f 18) i x)) g = (mdW k ad) v f1 g) (hv2 : va_up f 18 (u1 (f 18) i x) = f1 ∨ gOk v f1) (hdg : decode cc pc = .ok (.iastore, 1)) (kk : ∀ (H1 : Heap) (locs1 : List Loc), gWd D (mdW k ad) v f1 g H1 → va_S A H0 H1 locs1 → W p l e R s m args below meth c H1 locs1 cells slots Q (F0 m (pc + 1) ls rest)) : W p l e R s m args below meth c H locs cells slots Q (F0 m pc ls (.int (iI x) :: .int (iI i) :: .ref (ad 19) :: rest)) := g_iast C hP.1 (hD v f g) hS 19 rfl (by decide) h0 h1 (ws' := (mdW k ad) v f1 g) (by rw [← hv]; rfl) hdg (fun H1 locs1 h1 h3 => kk H1 locs1 ⟨h1, hv2.elim (fun q => q ▸ gF_up hP.2 18 (u1_rng (hP.2.2 18) hx)) id⟩ h3)
theorem mdN_holds (C : gC D k p s m args c cc own) (hP : gWd D (mdW k ad) v f g H) (hdg : decode cc pc = .ok (.arraylength, 1)) (kk : W p l e R s m args below meth c H locs cells slots Q (F0 m (pc + 1) ls (.int (iI 20) :: rest))) : W p l e R s m args below meth c H locs cells slots Q (F0 m pc ls (.ref (ad 19) :: rest)) := va_alen (D := D) C.1 C.2.1 C.2.2.2.2 hP.1 19 0 rfl rfl (v := iI 20) rfl hdg kk
theorem mdL_zones (C : gC D k p s m args c cc own) (hP : gWd D (mdW k ad) v f g H) {i : Int} (h0 : 0 ≤ i) (h1 : i < 60) (hdg : decode cc pc = .ok (.iaload, 1)) (kk : W p l e R s m args below meth c H locs cells slots Q (F0 m (pc + 1) ls (.int (iI (f 19 i)) :: rest))) : W p l e R s m args below meth c H locs cells slots Q (F0 m pc ls (.int (iI i) :: .ref (ad 20) :: rest)) := g_iald C hP.1 20 rfl (by decide) h0 h1 hdg kk
theorem mdS_zones (C : gC D k p s m args c cc own) (hP : gWd D (mdW k ad) v f g H) (hD : mdD A k ad) (hS : va_S A H0 H locs) {i x : Int} {f1 : gF} (h0 : 0 ≤ i) (h1 : i < 60) (hx : inR x) (hv : (mdW k ad) v (va_up f 19 (u1 (f 19) i x)) g = (mdW k ad) v f1 g) (hv2 : va_up f 19 (u1 (f 19) i x) = f1 ∨ gOk v f1) (hdg : decode cc pc = .ok (.iastore, 1)) (kk : ∀ (H1 : Heap) (locs1 : List Loc), gWd D (mdW k ad) v f1 g H1 → va_S A H0 H1 locs1 → W p l e R s m args below meth c H1 locs1 cells slots Q (F0 m (pc + 1) ls rest)) : W p l e R s m args below meth c H locs cells slots Q (F0 m pc ls (.int (iI x) :: .int (iI i) :: .ref (ad 20) :: rest)) := g_iast C hP.1 (hD v f g) hS 20 rfl (by decide) h0 h1 (ws' := (mdW k ad) v f1 g) (by rw [← hv]; rfl) hdg (fun H1 locs1 h1 h3 => kk H1 locs1 ⟨h1, hv2.elim (fun q => q ▸ gF_up hP.2 19 (u1_rng (hP.2.2 19) hx)) id⟩ h3)
theorem mdN_zones (C : gC D k p s m args c cc own) (hP : gWd D (mdW k ad) v f g H) (hdg : decode cc pc = .ok (.arraylength, 1)) (kk : W p l e R s m args below meth c H locs cells slots Q (F0 m (pc + 1) ls (.int (iI 60) :: rest))) : W p l e R s m args below meth c H locs cells slots Q (F0 m pc ls (.ref (ad 20) :: rest)) := va_alen (D := D) C.1 C.2.1 C.2.2.2.2 hP.1 20 0 rfl rfl (v := iI 60) rfl hdg kk
theorem mdL_begun (C : gC D k p s m args c cc own) (hP : gWd D (mdW k ad) v f g H) {i : Int} (h0 : 0 ≤ i) (h1 : i < 20) (hdg : decode cc pc = .ok (.iaload, 1)) (kk : W p l e R s m args below meth c H locs cells slots Q (F0 m (pc + 1) ls (.int (iI (f 20 i)) :: rest))) : W p l e R s m args below meth c H locs cells slots Q (F0 m pc ls (.int (iI i) :: .ref (ad 21) :: rest)) := g_iald C hP.1 21 rfl (by decide) h0 h1 hdg kk
theorem mdS_begun (C : gC D k p s m args c cc own) (hP : gWd D (mdW k ad) v f g H) (hD : mdD A k ad) (hS : va_S A H0 H locs) {i x : Int} {f1 : gF} (h0 : 0 ≤ i) (h1 : i < 20) (hx : inR x) (hv : (mdW k ad) v (va_up f 20 (u1 (f 20) i x)) g = (mdW k ad) v f1 g) (hv2 : va_up f 20 (u1 (f 20) i x) = f1 ∨ gOk v f1) (hdg : decode cc pc = .ok (.iastore, 1)) (kk : ∀ (H1 : Heap) (locs1 : List Loc), gWd D (mdW k ad) v f1 g H1 → va_S A H0 H1 locs1 → W p l e R s m args below meth c H1 locs1 cells slots Q (F0 m (pc + 1) ls rest)) : W p l e R s m args below meth c H locs cells slots Q (F0 m pc ls (.int (iI x) :: .int (iI i) :: .ref (ad 21) :: rest)) := g_iast C hP.1 (hD v f g) hS 21 rfl (by decide) h0 h1 (ws' := (mdW k ad) v f1 g) (by rw [← hv]; rfl) hdg (fun H1 locs1 h1 h3 => kk H1 locs1 ⟨h1, hv2.elim (fun q => q ▸ gF_up hP.2 20 (u1_rng (hP.2.2 20) hx)) id⟩ h3)
theorem mdN_begun (C : gC D k p s m args c cc own) (hP : gWd D (mdW k ad) v f g H) (hdg : decode cc pc = .ok (.arraylength, 1)) (kk : W p l e R s m args below meth c H locs cells slots Q (F0 m (pc + 1) ls (.int (iI 20) :: rest))) : W p l e R s m args below meth c H locs cells slots Q (F0 m pc ls (.ref (ad 21) :: rest)) := va_alen (D := D) C.1 C.2.1 C.2.2.2.2 hP.1 21 0 rfl rfl (v := iI 20) rfl hdg kk
theorem mdL_isIn (C : gC D k p s m args c cc own) (hP : gWd D (mdW k ad) v f g H) {i : Int} (h0 : 0 ≤ i) (h1 : i < 64) (hdg : decode cc pc = .ok (.baload, 1)) (kk : W p l e R s m args below meth c H locs cells slots Q (F0 m (pc + 1) ls (.int (iI (f 21 i)) :: rest))) : W p l e R s m args below meth c H locs cells slots Q (F0 m pc ls (.int (iI i) :: .ref (ad 22) :: rest)) := g_zald C hP.1 22 rfl (by decide) h0 h1 hdg kk
theorem mdS_isIn (C : gC D k p s m args c cc own) (hP : gWd D (mdW k ad) v f g H) (hD : mdD A k ad) (hS : va_S A H0 H locs) {i x : Int} {f1 : gF} (h0 : 0 ≤ i) (h1 : i < 64) (hx : inR x) (hy : x = 0 ∨ x = 1) (hv : (mdW k ad) v (va_up f 21 (u1 (f 21) i x)) g = (mdW k ad) v f1 g) (hv2 : va_up f 21 (u1 (f 21) i x) = f1 ∨ gOk v f1) (hdg : decode cc pc = .ok (.bastore, 1)) (kk : ∀ (H1 : Heap) (locs1 : List Loc), gWd D (mdW k ad) v f1 g H1 → va_S A H0 H1 locs1 → W p l e R s m args below meth c H1 locs1 cells slots Q (F0 m (pc + 1) ls rest)) : W p l e R s m args below meth c H locs cells slots Q (F0 m pc ls (.int (iI x) :: .int (iI i) :: .ref (ad 22) :: rest)) := g_zast C hP.1 (hD v f g) hS 22 rfl (by decide) h0 h1 hy (ws' := (mdW k ad) v f1 g) (by rw [← hv]; rfl) hdg (fun H1 locs1 h1 h3 => kk H1 locs1 ⟨h1, hv2.elim (fun q => q ▸ gF_up hP.2 21 (u1_rng (hP.2.2 21) hx)) id⟩ h3)
theorem mdN_isIn (C : gC D k p s m args c cc own) (hP : gWd D (mdW k ad) v f g H) (hdg : decode cc pc = .ok (.arraylength, 1)) (kk : W p l e R s m args below meth c H locs cells slots Q (F0 m (pc + 1) ls (.int (iI 64) :: rest))) : W p l e R s m args below meth c H locs cells slots Q (F0 m pc ls (.ref (ad 22) :: rest)) := va_alen (D := D) C.1 C.2.1 C.2.2.2.2 hP.1 22 3 rfl rfl (v := iI 64) rfl hdg kk
theorem mdL_order (C : gC D k p s m args c cc own) (hP : gWd D (mdW k ad) v f g H) {i : Int} (h0 : 0 ≤ i) (h1 : i < 64) (hdg : decode cc pc = .ok (.iaload, 1)) (kk : W p l e R s m args below meth c H locs cells slots Q (F0 m (pc + 1) ls (.int (iI (f 22 i)) :: rest))) : W p l e R s m args below meth c H locs cells slots Q (F0 m pc ls (.int (iI i) :: .ref (ad 23) :: rest)) := g_iald C hP.1 23 rfl (by decide) h0 h1 hdg kk
theorem mdS_order (C : gC D k p s m args c cc own) (hP : gWd D (mdW k ad) v f g H) (hD : mdD A k ad) (hS : va_S A H0 H locs) {i x : Int} {f1 : gF} (h0 : 0 ≤ i) (h1 : i < 64) (hx : inR x) (hv : (mdW k ad) v (va_up f 22 (u1 (f 22) i x)) g = (mdW k ad) v f1 g) (hv2 : va_up f 22 (u1 (f 22) i x) = f1 ∨ gOk v f1) (hdg : decode cc pc = .ok (.iastore, 1)) (kk : ∀ (H1 : Heap) (locs1 : List Loc), gWd D (mdW k ad) v f1 g H1 → va_S A H0 H1 locs1 → W p l e R s m args below meth c H1 locs1 cells slots Q (F0 m (pc + 1) ls rest)) : W p l e R s m args below meth c H locs cells slots Q (F0 m pc ls (.int (iI x) :: .int (iI i) :: .ref (ad 23) :: rest)) := g_iast C hP.1 (hD v f g) hS 23 rfl (by decide) h0 h1 (ws' := (mdW k ad) v f1 g) (by rw [← hv]; rfl) hdg (fun H1 locs1 h1 h3 => kk H1 locs1 ⟨h1, hv2.elim (fun q => q ▸ gF_up hP.2 22 (u1_rng (hP.2.2 22) hx)) id⟩ h3)
theorem mdN_order (C : gC D k p s m args c cc own) (hP : gWd D (mdW k ad) v f g H) (hdg : decode cc pc = .ok (.arraylength, 1)) (kk : W p l e R s m args below meth c H locs cells slots Q (F0 m (pc + 1) ls (.int (iI 64) :: rest))) : W p l e R s m args below meth c H locs cells slots Q (F0 m pc ls (.ref (ad 23) :: rest)) := va_alen (D := D) C.1 C.2.1 C.2.2.2.2 hP.1 23 0 rfl rfl (v := iI 64) rfl hdg kk
theorem mdL_orderMany (C : gC D k p s m args c cc own) (hP : gWd D (mdW k ad) v f g H) {i : Int} (h0 : 0 ≤ i) (h1 : i < 4) (hdg : decode cc pc = .ok (.iaload, 1)) (kk : W p l e R s m args below meth c H locs cells slots Q (F0 m (pc + 1) ls (.int (iI (f 23 i)) :: rest))) : W p l e R s m args below meth c H locs cells slots Q (F0 m pc ls (.int (iI i) :: .ref (ad 24) :: rest)) := g_iald C hP.1 24 rfl (by decide) h0 h1 hdg kk
theorem mdS_orderMany (C : gC D k p s m args c cc own) (hP : gWd D (mdW k ad) v f g H) (hD : mdD A k ad) (hS : va_S A H0 H locs) {i x : Int} {f1 : gF} (h0 : 0 ≤ i) (h1 : i < 4) (hx : inR x) (hv : (mdW k ad) v (va_up f 23 (u1 (f 23) i x)) g = (mdW k ad) v f1 g) (hv2 : va_up f 23 (u1 (f 23) i x) = f1 ∨ gOk v f1) (hdg : decode cc pc = .ok (.iastore, 1)) (kk : ∀ (H1 : Heap) (locs1 : List Loc), gWd D (mdW k ad) v f1 g H1 → va_S A H0 H1 locs1 → W p l e R s m args below meth c H1 locs1 cells slots Q (F0 m (pc + 1) ls rest)) : W p l e R s m args below meth c H locs cells slots Q (F0 m pc ls (.int (iI x) :: .int (iI i) :: .ref (ad 24) :: rest)) := g_iast C hP.1 (hD v f g) hS 24 rfl (by decide) h0 h1 (ws' := (mdW k ad) v f1 g) (by rw [← hv]; rfl) hdg (fun H1 locs1 h1 h3 => kk H1 locs1 ⟨h1, hv2.elim (fun q => q ▸ gF_up hP.2 23 (u1_rng (hP.2.2 23) hx)) id⟩ h3)
theorem mdN_orderMany (C : gC D k p s m args c cc own) (hP : gWd D (mdW k ad) v f g H) (hdg : decode cc pc = .ok (.arraylength, 1)) (kk : W p l e R s m args below meth c H locs cells slots Q (F0 m (pc + 1) ls (.int (iI 4) :: rest))) : W p l e R s m args below meth c H locs cells slots Q (F0 m pc ls (.ref (ad 24) :: rest)) := va_alen (D := D) C.1 C.2.1 C.2.2.2.2 hP.1 24 0 rfl rfl (v := iI 4) rfl hdg kk
theorem mdL_who (C : gC D k p s m args c cc own) (hP : gWd D (mdW k ad) v f g H) {i : Int} (h0 : 0 ≤ i) (h1 : i < 300) (hdg : decode cc pc = .ok (.iaload, 1)) (kk : W p l e R s m args below meth c H locs cells slots Q (F0 m (pc + 1) ls (.int (iI (f 24 i)) :: rest))) : W p l e R s m args below meth c H locs cells slots Q (F0 m pc ls (.int (iI i) :: .ref (ad 25) :: rest)) := g_iald C hP.1 25 rfl (by decide) h0 h1 hdg kk
theorem mdS_who (C : gC D k p s m args c cc own) (hP : gWd D (mdW k ad) v f g H) (hD : mdD A k ad) (hS : va_S A H0 H locs) {i x : Int} {f1 : gF} (h0 : 0 ≤ i) (h1 : i < 300) (hx : inR x) (hv : (mdW k ad) v (va_up f 24 (u1 (f 24) i x)) g = (mdW k ad) v f1 g) (hv2 : va_up f 24 (u1 (f 24) i x) = f1 ∨ gOk v f1) (hdg : decode cc pc = .ok (.iastore, 1)) (kk : ∀ (H1 : Heap) (locs1 : List Loc), gWd D (mdW k ad) v f1 g H1 → va_S A H0 H1 locs1 → W p l e R s m args below meth c H1 locs1 cells slots Q (F0 m (pc + 1) ls rest)) : W p l e R s m args below meth c H locs cells slots Q (F0 m pc ls (.int (iI x) :: .int (iI i) :: .ref (ad 25) :: rest)) := g_iast C hP.1 (hD v f g) hS 25 rfl (by decide) h0 h1 (ws' := (mdW k ad) v f1 g) (by rw [← hv]; rfl) hdg (fun H1 locs1 h1 h3 => kk H1 locs1 ⟨h1, hv2.elim (fun q => q ▸ gF_up hP.2 24 (u1_rng (hP.2.2 24) hx)) id⟩ h3)
theorem mdN_who (C : gC D k p s m args c cc own) (hP : gWd D (mdW k ad) v f g H) (hdg : decode cc pc = .ok (.arraylength, 1)) (kk : W p l e R s m args below meth c H locs cells slots Q (F0 m (pc + 1) ls (.int (iI 300) :: rest))) : W p l e R s m args below meth c H locs cells slots Q (F0 m pc ls (.ref (ad 25) :: rest)) := va_alen (D := D) C.1 C.2.1 C.2.2.2.2 hP.1 25 0 rfl rfl (v := iI 300) rfl hdg kk
theorem mdL_where (C : gC D k p s m args c cc own) (hP : gWd D (mdW k ad) v f g H) {i : Int} (h0 : 0 ≤ i) (h1 : i < 300) (hdg : decode cc pc = .ok (.iaload, 1)) (kk : W p l e R s m args below meth c H locs cells slots Q (F0 m (pc + 1) ls (.int (iI (f 25 i)) :: rest))) : W p l e R s m args below meth c H locs cells slots Q (F0 m pc ls (.int (iI i) :: .ref (ad 26) :: rest)) := g_iald C hP.1 26 rfl (by decide) h0 h1 hdg kk
theorem mdS_where (C : gC D k p s m args c cc own) (hP : gWd D (mdW k ad) v f g H) (hD : mdD A k ad) (hS : va_S A H0 H locs) {i x : Int} {f1 : gF} (h0 : 0 ≤ i) (h1 : i < 300) (hx : inR x) (hv : (mdW k ad) v (va_up f 25 (u1 (f 25) i x)) g = (mdW k ad) v f1 g) (hv2 : va_up f 25 (u1 (f 25) i x) = f1 ∨ gOk v f1) (hdg : decode cc pc = .ok (.iastore, 1)) (kk : ∀ (H1 : Heap) (locs1 : List Loc), gWd D (mdW k ad) v f1 g H1 → va_S A H0 H1 locs1 → W p l e R s m args below meth c H1 locs1 cells slots Q (F0 m (pc + 1) ls rest)) : W p l e R s m args below meth c H locs cells slots Q (F0 m pc ls (.int (iI x) :: .int (iI i) :: .ref (ad 26) :: rest)) := g_iast C hP.1 (hD v f g) hS 26 rfl (by decide) h0 h1 (ws' := (mdW k ad) v f1 g) (by rw [← hv]; rfl) hdg (fun H1 locs1 h1 h3 => kk H1 locs1 ⟨h1, hv2.elim (fun q => q ▸ gF_up hP.2 25 (u1_rng (hP.2.2 25) hx)) id⟩ h3)
theorem mdN_where (C : gC D k p s m args c cc own) (hP : gWd D (mdW k ad) v f g H) (hdg : decode cc pc = .ok (.arraylength, 1)) (kk : W p l e R s m args below meth c H locs cells slots Q (F0 m (pc + 1) ls (.int (iI 300) :: rest))) : W p l e R s m args below meth c H locs cells slots Q (F0 m pc ls (.ref (ad 26) :: rest)) := va_alen (D := D) C.1 C.2.1 C.2.2.2.2 hP.1 26 0 rfl rfl (v := iI 300) rfl hdg kk
theorem mdL_which (C : gC D k p s m args c cc own) (hP : gWd D (mdW k ad) v f g H) {i : Int} (h0 : 0 ≤ i) (h1 : i < 300) (hdg : decode cc pc = .ok (.iaload, 1)) (kk : W p l e R s m args below meth c H locs cells slots Q (F0 m (pc + 1) ls (.int (iI (f 26 i)) :: rest))) : W p l e R s m args below meth c H locs cells slots Q (F0 m pc ls (.int (iI i) :: .ref (ad 27) :: rest)) := g_iald C hP.1 27 rfl (by decide) h0 h1 hdg kk
theorem mdS_which (C : gC D k p s m args c cc own) (hP : gWd D (mdW k ad) v f g H) (hD : mdD A k ad) (hS : va_S A H0 H locs) {i x : Int} {f1 : gF} (h0 : 0 ≤ i) (h1 : i < 300) (hx : inR x) (hv : (mdW k ad) v (va_up f 26 (u1 (f 26) i x)) g = (mdW k ad) v f1 g) (hv2 : va_up f 26 (u1 (f 26) i x) = f1 ∨ gOk v f1) (hdg : decode cc pc = .ok (.iastore, 1)) (kk : ∀ (H1 : Heap) (locs1 : List Loc), gWd D (mdW k ad) v f1 g H1 → va_S A H0 H1 locs1 → W p l e R s m args below meth c H1 locs1 cells slots Q (F0 m (pc + 1) ls rest)) : W p l e R s m args below meth c H locs cells slots Q (F0 m pc ls (.int (iI x) :: .int (iI i) :: .ref (ad 27) :: rest)) := g_iast C hP.1 (hD v f g) hS 27 rfl (by decide) h0 h1 (ws' := (mdW k ad) v f1 g) (by rw [← hv]; rfl) hdg (fun H1 locs1 h1 h3 => kk H1 locs1 ⟨h1, hv2.elim (fun q => q ▸ gF_up hP.2 26 (u1_rng (hP.2.2 26) hx)) id⟩ h3)
theorem mdN_which (C : gC D k p s m args c cc own) (hP : gWd D (mdW k ad) v f g H) (hdg : decode cc pc = .ok (.arraylength, 1)) (kk : W p l e R s m args below meth c H locs cells slots Q (F0 m (pc + 1) ls (.int (iI 300) :: rest))) : W p l e R s m args below meth c H locs cells slots Q (F0 m pc ls (.ref (ad 27) :: rest)) := va_alen (D := D) C.1 C.2.1 C.2.2.2.2 hP.1 27 0 rfl rfl (v := iI 300) rfl hdg kk
theorem mdL_from (C : gC D k p s m args c cc own) (hP : gWd D (mdW k ad) v f g H) {i : Int} (h0 : 0 ≤ i) (h1 : i < 300) (hdg : decode cc pc = .ok (.iaload, 1)) (kk : W p l e R s m args below meth c H locs cells slots Q (F0 m (pc + 1) ls (.int (iI (f 27 i)) :: rest))) : W p l e R s m args below meth c H locs cells slots Q (F0 m pc ls (.int (iI i) :: .ref (ad 28) :: rest)) := g_iald C hP.1 28 rfl (by decide) h0 h1 hdg kk
theorem mdS_from (C : gC D k p s m args c cc own) (hP : gWd D (mdW k ad) v f g H) (hD : mdD A k ad) (hS : va_S A H0 H locs) {i x : Int} {f1 : gF} (h0 : 0 ≤ i) (h1 : i < 300) (hx : inR x) (hv : (mdW k ad) v (va_up f 27 (u1 (f 27) i x)) g = (mdW k ad) v f1 g) (hv2 : va_up f 27 (u1 (f 27) i x) = f1 ∨ gOk v f1) (hdg : decode cc pc = .ok (.iastore, 1)) (kk : ∀ (H1 : Heap) (locs1 : List Loc), gWd D (mdW k ad) v f1 g H1 → va_S A H0 H1 locs1 → W p l e R s m args below meth c H1 locs1 cells slots Q (F0 m (pc + 1) ls rest)) : W p l e R s m args below meth c H locs cells slots Q (F0 m pc ls (.int (iI x) :: .int (iI i) :: .ref (ad 28) :: rest)) := g_iast C hP.1 (hD v f g) hS 28 rfl (by decide) h0 h1 (ws' := (mdW k ad) v f1 g) (by rw [← hv]; rfl) hdg (fun H1 locs1 h1 h3 => kk H1 locs1 ⟨h1, hv2.elim (fun q => q ▸ gF_up hP.2 27 (u1_rng (hP.2.2 27) hx)) id⟩ h3)
theorem mdN_from (C : gC D k p s m args c cc own) (hP : gWd D (mdW k ad) v f g H) (hdg : decode cc pc = .ok (.arraylength, 1)) (kk : W p l e R s m args below meth c H locs cells slots Q (F0 m (pc + 1) ls (.int (iI 300) :: rest))) : W p l e R s m args below meth c H locs cells slots Q (F0 m pc ls (.ref (ad 28) :: rest)) := va_alen (D := D) C.1 C.2.1 C.2.2.2.2 hP.1 28 0 rfl rfl (v := iI 300) rfl hdg kk
theorem mdL_to (C : gC D k p s m args c cc own) (hP : gWd D (mdW k ad) v f g H) {i : Int} (h0 : 0 ≤ i) (h1 : i < 300) (hdg : decode cc pc = .ok (.iaload, 1)) (kk : W p l e R s m args below meth c H locs cells slots Q (F0 m (pc + 1) ls (.int (iI (f 28 i)) :: rest))) : W p l e R s m args below meth c H locs cells slots Q (F0 m pc ls (.int (iI i) :: .ref (ad 29) :: rest)) := g_iald C hP.1 29 rfl (by decide) h0 h1 hdg kk
theorem mdS_to (C : gC D k p s m args c cc own) (hP : gWd D (mdW k ad) v f g H) (hD : mdD A k ad) (hS : va_S A H0 H locs) {i x : Int} {f1 : gF} (h0 : 0 ≤ i) (h1 : i < 300) (hx : inR x) (hv : (mdW k ad) v (va_up f 28 (u1 (f 28) i x)) g = (mdW k ad) v f1 g) (hv2 : va_up f 28 (u1 (f 28) i x) = f1 ∨ gOk v f1) (hdg : decode cc pc = .ok (.iastore, 1)) (kk : ∀ (H1 : Heap) (locs1 : List Loc), gWd D (mdW k ad) v f1 g H1 → va_S A H0 H1 locs1 → W p l e R s m args below meth c H1 locs1 cells slots Q (F0 m (pc + 1) ls rest)) : W p l e R s m args below meth c H locs cells slots Q (F0 m pc ls (.int (iI x) :: .int (iI i) :: .ref (ad 29) :: rest)) := g_iast C hP.1 (hD v f g) hS 29 rfl (by decide) h0 h1 (ws' := (mdW k ad) v f1 g) (by rw [← hv]; rfl) hdg (fun H1 locs1 h1 h3 => kk H1 locs1 ⟨h1, hv2.elim (fun q => q ▸ gF_up hP.2 28 (u1_rng (hP.2.2 28) hx)) id⟩ h3)
theorem mdN_to (C : gC D k p s m args c cc own) (hP : gWd D (mdW k ad) v f g H) (hdg : decode cc pc = .ok (.arraylength, 1)) (kk : W p l e R s m args below meth c H locs cells slots Q (F0 m (pc + 1) ls (.int (iI 300) :: rest))) : W p l e R s m args below meth c H locs cells slots Q (F0 m pc ls (.ref (ad 29) :: rest)) := va_alen (D := D) C.1 C.2.1 C.2.2.2.2 hP.1 29 0 rfl rfl (v := iI 300) rfl hdg kk
theorem mdL_hold (C : gC D k p s m args c cc own) (hP : gWd D (mdW k ad) v f g H) {i : Int} (h0 : 0 ≤ i) (h1 : i < 300) (hdg : decode cc pc = .ok (.iaload, 1)) (kk : W p l e R s m args below meth c H locs cells slots Q (F0 m (pc + 1) ls (.int (iI (f 29 i)) :: rest))) : W p l e R s m args below meth c H locs cells slots Q (F0 m pc ls (.int (iI i) :: .ref (ad 30) :: rest)) := g_iald C hP.1 30 rfl (by decide) h0 h1 hdg kk
theorem mdS_hold (C : gC D k p s m args c cc own) (hP : gWd D (mdW k ad) v f g H) (hD : mdD A k ad) (hS : va_S A H0 H locs) {i x : Int} {f1 : gF} (h0 : 0 ≤ i) (h1 : i < 300) (hx : inR x) (hv : (mdW k ad) v (va_up f 29 (u1 (f 29) i x)) g = (mdW k ad) v f1 g) (hv2 : va_up f 29 (u1 (f 29) i x) = f1 ∨ gOk v f1) (hdg : decode cc pc = .ok (.iastore, 1)) (kk : ∀ (H1 : Heap) (locs1 : List Loc), gWd D (mdW k ad) v f1 g H1 → va_S A H0 H1 locs1 → W p l e R s m args below meth c H1 locs1 cells slots Q (F0 m (pc + 1) ls rest)) : W p l e R s m args below meth c H locs cells slots Q (F0 m pc ls (.int (iI x) :: .int (iI i) :: .ref (ad 30) :: rest)) := g_iast C hP.1 (hD v f g) hS 30 rfl (by decide) h0 h1 (ws' := (mdW k ad) v f1 g) (by rw [← hv]; rfl) hdg (fun H1 locs1 h1 h3 => kk H1 locs1 ⟨h1, hv2.elim (fun q => q ▸ gF_up hP.2 29 (u1_rng (hP.2.2 29) hx)) id⟩ h3)
theorem mdN_hold (C : gC D k p s m args c cc own) (hP : gWd D (mdW k ad) v f g H) (hdg : decode cc pc = .ok (.arraylength, 1)) (kk : W p l e R s m args below meth c H locs cells slots Q (F0 m (pc + 1) ls (.int (iI 300) :: rest))) : W p l e R s m args below meth c H locs cells slots Q (F0 m pc ls (.ref (ad 30) :: rest)) := va_alen (D := D) C.1 C.2.1 C.2.2.2.2 hP.1 30 0 rfl rfl (v := iI 300) rfl hdg kk
theorem mdL_how (C : gC D k p s m args c cc own) (hP : gWd D (mdW k ad) v f g H) {i : Int} (h0 : 0 ≤ i) (h1 : i < 300) (hdg : decode cc pc = .ok (.iaload, 1)) (kk : W p l e R s m args below meth c H locs cells slots Q (F0 m (pc + 1) ls (.int (iI (f 30 i)) :: rest))) : W p l e R s m args below meth c H locs cells slots Q (F0 m pc ls (.int (iI i) :: .ref (ad 31) :: rest)) := g_iald C hP.1 31 rfl (by decide) h0 h1 hdg kk
theorem mdS_how (C : gC D k p s m args c cc own) (hP : gWd D (mdW k ad) v f g H) (hD : mdD A k ad) (hS : va_S A H0 H locs) {i x : Int} {f1 : gF} (h0 : 0 ≤ i) (h1 : i < 300) (hx : inR x) (hv : (mdW k ad) v (va_up f 30 (u1 (f 30) i x)) g = (mdW k ad) v f1 g) (hv2 : va_up f 30 (u1 (f 30) i x) = f1 ∨ gOk v f1) (hdg : decode cc pc = .ok (.iastore, 1)) (kk : ∀ (H1 : Heap) (locs1 : List Loc), gWd D (mdW k ad) v f1 g H1 → va_S A H0 H1 locs1 → W p l e R s m args below meth c H1 locs1 cells slots Q (F0 m (pc + 1) ls rest)) : W p l e R s m args below meth c H locs cells slots Q (F0 m pc ls (.int (iI x) :: .int (iI i) :: .ref (ad 31) :: rest)) := g_iast C hP.1 (hD v f g) hS 31 rfl (by decide) h0 h1 (ws' := (mdW k ad) v f1 g) (by rw [← hv]; rfl) hdg (fun H1 locs1 h1 h3 => kk H1 locs1 ⟨h1, hv2.elim (fun q => q ▸ gF_up hP.2 30 (u1_rng (hP.2.2 30) hx)) id⟩ h3)
theorem mdN_how (C : gC D k p s m args c cc own) (hP : gWd D (mdW k ad) v f g H) (hdg : decode cc pc = .ok (.arraylength, 1)) (kk : W p l e R s m args below meth c H locs cells slots Q (F0 m (pc + 1) ls (.int (iI 300) :: rest))) : W p l e R s m args below meth c H locs cells slots Q (F0 m pc ls (.ref (ad 31) :: rest)) := va_alen (D := D) C.1 C.2.1 C.2.2.2.2 hP.1 31 0 rfl rfl (v := iI 300) rfl hdg kk
theorem mdL_appealTry (C : gC D k p s m args c cc own) (hP : gWd D (mdW k ad) v f g H) {i : Int} (h0 : 0 ≤ i) (h1 : i < 40) (hdg : decode cc pc = .ok (.iaload, 1)) (kk : W p l e R s m args below meth c H locs cells slots Q (F0 m (pc + 1) ls (.int (iI (f 31 i)) :: rest))) : W p l e R s m args below meth c H locs cells slots Q (F0 m pc ls (.int (iI i) :: .ref (ad 32) :: rest)) := g_iald C hP.1 32 rfl (by decide) h0 h1 hdg kk
theorem mdS_appealTry (C : gC D k p s m args c cc own) (hP : gWd D (mdW k ad) v f g H) (hD : mdD A k ad) (hS : va_S A H0 H locs) {i x : Int} {f1 : gF} (h0 : 0 ≤ i) (h1 : i < 40) (hx : inR x) (hv : (mdW k ad) v (va_up f 31 (u1 (f 31) i x)) g = (mdW k ad) v f1 g) (hv2 : va_up f 31 (u1 (f 31) i x) = f1 ∨ gOk v f1) (hdg : decode cc pc = .ok (.iastore, 1)) (kk : ∀ (H1 : Heap) (locs1 : List Loc), gWd D (mdW k ad) v f1 g H1 → va_S A H0 H1 locs1 → W p l e R s m args below meth c H1 locs1 cells slots Q (F0 m (pc + 1) ls rest)) : W p l e R s m args below meth c H locs cells slots Q (F0 m pc ls (.int (iI x) :: .int (iI i) :: .ref (ad 32) :: rest)) := g_iast C hP.1 (hD v f g) hS 32 rfl (by decide) h0 h1 (ws' := (mdW k ad) v f1 g) (by rw [← hv]; rfl) hdg (fun H1 locs1 h1 h3 => kk H1 locs1 ⟨h1, hv2.elim (fun q => q ▸ gF_up hP.2 31 (u1_rng (hP.2.2 31) hx)) id⟩ h3)
theorem mdN_appealTry (C : gC D k p s m args c cc own) (hP : gWd D (mdW k ad) v f g H) (hdg : decode cc pc = .ok (.arraylength, 1)) (kk : W p l e R s m args below meth c H locs cells slots Q (F0 m (pc + 1) ls (.int (iI 40) :: rest))) : W p l e R s m args below meth c H locs cells slots Q (F0 m pc ls (.ref (ad 32) :: rest)) := va_alen (D := D) C.1 C.2.1 C.2.2.2.2 hP.1 32 0 rfl rfl (v := iI 40) rfl hdg kk
theorem mdL_appealHold (C : gC D k p s m args c cc own) (hP : gWd D (mdW k ad) v f g H) {i : Int} (h0 : 0 ≤ i) (h1 : i < 40) (hdg : decode cc pc = .ok (.iaload, 1)) (kk : W p l e R s m args below meth c H locs cells slots Q (F0 m (pc + 1) ls (.int (iI (f 32 i)) :: rest))) : W p l e R s m args below meth c H locs cells slots Q (F0 m pc ls (.int (iI i) :: .ref (ad 33) :: rest)) := g_iald C hP.1 33 rfl (by decide) h0 h1 hdg kk
theorem mdS_appealHold (C : gC D k p s m args c cc own) (hP : gWd D (mdW k ad) v f g H) (hD : mdD A k ad) (hS : va_S A H0 H locs) {i x : Int} {f1 : gF} (h0 : 0 ≤ i) (h1 : i < 40) (hx : inR x) (hv : (mdW k ad) v (va_up f 32 (u1 (f 32) i x)) g = (mdW k ad) v f1 g) (hv2 : va_up f 32 (u1 (f 32) i x) = f1 ∨ gOk v f1) (hdg : decode cc pc = .ok (.iastore, 1)) (kk : ∀ (H1 : Heap) (locs1 : List Loc), gWd D (mdW k ad) v f1 g H1 → va_S A H0 H1 locs1 → W p l e R s m args below meth c H1 locs1 cells slots Q (F0 m (pc + 1) ls rest)) : W p l e R s m args below meth c H locs cells slots Q (F0 m pc ls (.int (iI x) :: .int (iI i) :: .ref (ad 33) :: rest)) := g_iast C hP.1 (hD v f g) hS 33 rfl (by decide) h0 h1 (ws' := (mdW k ad) v f1 g) (by rw [← hv]; rfl) hdg (fun H1 locs1 h1 h3 => kk H1 locs1 ⟨h1, hv2.elim (fun q => q ▸ gF_up hP.2 32 (u1_rng (hP.2.2 32) hx)) id⟩ h3)
theorem mdN_appealHold (C : gC D k p s m args c cc own) (hP : gWd D (mdW k ad) v f g H) (hdg : decode cc pc = .ok (.arraylength, 1)) (kk : W p l e R s m args below meth c H locs cells slots Q (F0 m (pc + 1) ls (.int (iI 40) :: rest))) : W p l e R s m args below meth c H locs cells slots Q (F0 m pc ls (.ref (ad 33) :: rest)) := va_alen (D := D) C.1 C.2.1 C.2.2.2.2 hP.1 33 0 rfl rfl (v := iI 40) rfl hdg kk
theorem mdL_appealDay (C : gC D k p s m args c cc own) (hP : gWd D (mdW k ad) v f g H) {i : Int} (h0 : 0 ≤ i) (h1 : i < 40) (hdg : decode cc pc = .ok (.iaload, 1)) (kk : W p l e R s m args below meth c H locs cells slots Q (F0 m (pc + 1) ls (.int (iI (f 33 i)) :: rest))) : W p l e R s m args below meth c H locs cells slots Q (F0 m pc ls (.int (iI i) :: .ref (ad 34) :: rest)) := g_iald C hP.1 34 rfl (by decide) h0 h1 hdg kk
theorem mdS_appealDay (C : gC D k p s m args c cc own) (hP : gWd D (mdW k ad) v f g H) (hD : mdD A k ad) (hS : va_S A H0 H locs) {i x : Int} {f1 : gF} (h0 : 0 ≤ i) (h1 : i < 40) (hx : inR x) (hv : (mdW k ad) v (va_up f 33 (u1 (f 33) i x)) g = (mdW k ad) v f1 g) (hv2 : va_up f 33 (u1 (f 33) i x) = f1 ∨ gOk v f1) (hdg : decode cc pc = .ok (.iastore, 1)) (kk : ∀ (H1 : Heap) (locs1 : List Loc), gWd D (mdW k ad) v f1 g H1 → va_S A H0 H1 locs1 → W p l e R s m args below meth c H1 locs1 cells slots Q (F0 m (pc + 1) ls rest)) : W p l e R s m args below meth c H locs cells slots Q (F0 m pc ls (.int (iI x) :: .int (iI i) :: .ref (ad 34) :: rest)) := g_iast C hP.1 (hD v f g) hS 34 rfl (by decide) h0 h1 (ws' := (mdW k ad) v f1 g) (by rw [← hv]; rfl) hdg (fun H1 locs1 h1 h3 => kk H1 locs1 ⟨h1, hv2.elim (fun q => q ▸ gF_up hP.2 33 (u1_rng (hP.2.2 33) hx)) id⟩ h3)
theorem mdN_appealDay (C : gC D k p s m args c cc own) (hP : gWd D (mdW k ad) v f g H) (hdg : decode cc pc = .ok (.arraylength, 1)) (kk : W p l e R s m args below meth c H locs cells slots Q (F0 m (pc + 1) ls (.int (iI 40) :: rest))) : W p l e R s m args below meth c H locs cells slots Q (F0 m pc ls (.ref (ad 34) :: rest)) := va_alen (D := D) C.1 C.2.1 C.2.2.2.2 hP.1 34 0 rfl rfl (v := iI 40) rfl hdg kk
theorem mdL_outs (C : gC D k p s m args c cc own) (hP : gWd D (mdW k ad) v f g H) {i : Int} (h0 : 0 ≤ i) (h1 : i < 16) (hdg : decode cc pc = .ok (.iaload, 1)) (kk : W p l e R s m args below meth c H locs cells slots Q (F0 m (pc + 1) ls (.int (iI (f 34 i)) :: rest))) : W p l e R s m args below meth c H locs cells slots Q (F0 m pc ls (.int (iI i) :: .ref (ad 35) :: rest)) := g_iald C hP.1 35 rfl (by decide) h0 h1 hdg kk
theorem mdS_outs (C : gC D k p s m args c cc own) (hP : gWd D (mdW k ad) v f g H) (hD : mdD A k ad) (hS : va_S A H0 H locs) {i x : Int} {f1 : gF} (h0 : 0 ≤ i) (h1 : i < 16) (hx : inR x) (hv : (mdW k ad) v (va_up f 34 (u1 (f 34) i x)) g = (mdW k ad) v f1 g) (hv2 : va_up f 34 (u1 (f 34) i x) = f1 ∨ gOk v f1) (hdg : decode cc pc = .ok (.iastore, 1)) (kk : ∀ (H1 : Heap) (locs1 : List Loc), gWd D (mdW k ad) v f1 g H1 → va_S A H0 H1 locs1 → W p l e R s m args below meth c H1 locs1 cells slots Q (F0 m (pc + 1) ls rest)) : W p l e R s m args below meth c H locs cells slots Q (F0 m pc ls (.int (iI x) :: .int (iI i) :: .ref (ad 35) :: rest)) := g_iast C hP.1 (hD v f g) hS 35 rfl (by decide) h0 h1 (ws' := (mdW k ad) v f1 g) (by rw [← hv]; rfl) hdg (fun H1 locs1 h1 h3 => kk H1 locs1 ⟨h1, hv2.elim (fun q => q ▸ gF_up hP.2 34 (u1_rng (hP.2.2 34) hx)) id⟩ h3)
theorem mdN_outs (C : gC D k p s m args c cc own) (hP : gWd D (mdW k ad) v f g H) (hdg : decode cc pc = .ok (.arraylength, 1)) (kk : W p l e R s m args below meth c H locs cells slots Q (F0 m (pc + 1) ls (.int (iI 16) :: rest))) : W p l e R s m args below meth c H locs cells slots Q (F0 m pc ls (.ref (ad 35) :: rest)) := va_alen (D := D) C.1 C.2.1 C.2.2.2.2 hP.1 35 0 rfl rfl (v := iI 16) rfl hdg kk
theorem mdL_outFrom (C : gC D k p s m args c cc own) (hP : gWd D (mdW k ad) v f g H) {i : Int} (h0 : 0 ≤ i) (h1 : i < 320) (hdg : decode cc pc = .ok (.iaload, 1)) (kk : W p l e R s m args below meth c H locs cells slots Q (F0 m (pc + 1) ls (.int (iI (f 35 i)) :: rest))) : W p l e R s m args below meth c H locs cells slots Q (F0 m pc ls (.int (iI i) :: .ref (ad 36) :: rest)) := g_iald C hP.1 36 rfl (by decide) h0 h1 hdg kk
theorem mdS_outFrom (C : gC D k p s m args c cc own) (hP : gWd D (mdW k ad) v f g H) (hD : mdD A k ad) (hS : va_S A H0 H locs) {i x : Int} {f1 : gF} (h0 : 0 ≤ i) (h1 : i < 320) (hx : inR x) (hv : (mdW k ad) v (va_up f 35 (u1 (f 35) i x)) g = (mdW k ad) v f1 g) (hv2 : va_up f 35 (u1 (f 35) i x) = f1 ∨ gOk v f1) (hdg : decode cc pc = .ok (.iastore, 1)) (kk : ∀ (H1 : Heap) (locs1 : List Loc), gWd D (mdW k ad) v f1 g H1 → va_S A H0 H1 locs1 → W p l e R s m args below meth c H1 locs1 cells slots Q (F0 m (pc + 1) ls rest)) : W p l e R s m args below meth c H locs cells slots Q (F0 m pc ls (.int (iI x) :: .int (iI i) :: .ref (ad 36) :: rest)) := g_iast C hP.1 (hD v f g) hS 36 rfl (by decide) h0 h1 (ws' := (mdW k ad) v f1 g) (by rw [← hv]; rfl) hdg (fun H1 locs1 h1 h3 => kk H1 locs1 ⟨h1, hv2.elim (fun q => q ▸ gF_up hP.2 35 (u1_rng (hP.2.2 35) hx)) id⟩ h3)
theorem mdN_outFrom (C : gC D k p s m args c cc own) (hP : gWd D (mdW k ad) v f g H) (hdg : decode cc pc = .ok (.arraylength, 1)) (kk : W p l e R s m args below meth c H locs cells slots Q (F0 m (pc + 1) ls (.int (iI 320) :: rest))) : W p l e R s m args below meth c H locs cells slots Q (F0 m pc ls (.ref (ad 36) :: rest)) := va_alen (D := D) C.1 C.2.1 C.2.2.2.2 hP.1 36 0 rfl rfl (v := iI 320) rfl hdg kk
theorem mdL_outTo (C : gC D k p s m args c cc own) (hP : gWd D (mdW k ad) v f g H) {i : Int} (h0 : 0 ≤ i) (h1 : i < 320) (hdg : decode cc pc = .ok (.iaload, 1)) (kk : W p l e R s m args below meth c H locs cells slots Q (F0 m (pc + 1) ls (.int (iI (f 36 i)) :: rest))) : W p l e R s m args below meth c H locs cells slots Q (F0 m pc ls (.int (iI i) :: .ref (ad 37) :: rest)) := g_iald C hP.1 37 rfl (by decide) h0 h1 hdg kk
theorem mdS_outTo (C : gC D k p s m args c cc own) (hP : gWd D (mdW k ad) v f g H) (hD : mdD A k ad) (hS : va_S A H0 H locs) {i x : Int} {f1 : gF} (h0 : 0 ≤ i) (h1 : i < 320) (hx : inR x) (hv : (mdW k ad) v (va_up f 36 (u1 (f 36) i x)) g = (mdW k ad) v f1 g) (hv2 : va_up f 36 (u1 (f 36) i x) = f1 ∨ gOk v f1) (hdg : decode cc pc = .ok (.iastore, 1)) (kk : ∀ (H1 : Heap) (locs1 : List Loc), gWd D (mdW k ad) v f1 g H1 → va_S A H0 H1 locs1 → W p l e R s m args below meth c H1 locs1 cells slots Q (F0 m (pc + 1) ls rest)) : W p l e R s m args below meth c H locs cells slots Q (F0 m pc ls (.int (iI x) :: .int (iI i) :: .ref (ad 37) :: rest)) := g_iast C hP.1 (hD v f g) hS 37 rfl (by decide) h0 h1 (ws' := (mdW k ad) v f1 g) (by rw [← hv]; rfl) hdg (fun H1 locs1 h1 h3 => kk H1 locs1 ⟨h1, hv2.elim (fun q => q ▸ gF_up hP.2 36 (u1_rng (hP.2.2 36) hx)) id⟩ h3)
theorem mdN_outTo (C : gC D k p s m args c cc own) (hP : gWd D (mdW k ad) v f g H) (hdg : decode cc pc = .ok (.arraylength, 1)) (kk : W p l e R s m args below meth c H locs cells slots Q (F0 m (pc + 1) ls (.int (iI 320) :: rest))) : W p l e R s m args below meth c H locs cells slots Q (F0 m pc ls (.ref (ad 37) :: rest)) := va_alen (D := D) C.1 C.2.1 C.2.2.2.2 hP.1 37 0 rfl rfl (v := iI 320) rfl hdg kk
theorem mdL_facts (C : gC D k p s m args c cc own) (hP : gWd D (mdW k ad) v f g H) {i : Int} (h0 : 0 ≤ i) (h1 : i < 6) (hdg : decode cc pc = .ok (.iaload, 1)) (kk : W p l e R s m args below meth c H locs cells slots Q (F0 m (pc + 1) ls (.int (iI (f 37 i)) :: rest))) : W p l e R s m args below meth c H locs cells slots Q (F0 m pc ls (.int (iI i) :: .ref (ad 38) :: rest)) := g_iald C hP.1 38 rfl (by decide) h0 h1 hdg kk
theorem mdS_facts (C : gC D k p s m args c cc own) (hP : gWd D (mdW k ad) v f g H) (hD : mdD A k ad) (hS : va_S A H0 H locs) {i x : Int} {f1 : gF} (h0 : 0 ≤ i) (h1 : i < 6) (hx : inR x) (hv : (mdW k ad) v (va_up f 37 (u1 (f 37) i x)) g = (mdW k ad) v f1 g) (hv2 : va_up f 37 (u1 (f 37) i x) = f1 ∨ gOk v f1) (hdg : decode cc pc = .ok (.iastore, 1)) (kk : ∀ (H1 : Heap) (locs1 : List Loc), gWd D (mdW k ad) v f1 g H1 → va_S A H0 H1 locs1 → W p l e R s m args below meth c H1 locs1 cells slots Q (F0 m (pc + 1) ls rest)) : W p l e R s m args below meth c H locs cells slots Q (F0 m pc ls (.int (iI x) :: .int (iI i) :: .ref (ad 38) :: rest)) := g_iast C hP.1 (hD v f g) hS 38 rfl (by decide) h0 h1 (ws' := (mdW k ad) v f1 g) (by rw [← hv]; rfl) hdg (fun H1 locs1 h1 h3 => kk H1 locs1 ⟨h1, hv2.elim (fun q => q ▸ gF_up hP.2 37 (u1_rng (hP.2.2 37) hx)) id⟩ h3)
theorem mdN_facts (C : gC D k p s m args c cc own) (hP : gWd D (mdW k ad) v f g H) (hdg : decode cc pc = .ok (.arraylength, 1)) (kk : W p l e R s m args below meth c H locs cells slots Q (F0 m (pc + 1) ls (.int (iI 6) :: rest))) : W p l e R s m args below meth c H locs cells slots Q (F0 m pc ls (.ref (ad 38) :: rest)) := va_alen (D := D) C.1 C.2.1 C.2.2.2.2 hP.1 38 0 rfl rfl (v := iI 6) rfl hdg kk
theorem mdL_pile (C : gC D k p s m args c cc own) (hP : gWd D (mdW k ad) v f g H) {i : Int} (h0 : 0 ≤ i) (h1 : i < 41) (hdg : decode cc pc = .ok (.laload, 1)) (kk : W p l e R s m args below meth c H locs cells slots Q (F0 m (pc + 1) ls (.long (iL (g 1 i)) :: rest))) : W p l e R s m args below meth c H locs cells slots Q (F0 m pc ls (.int (iI i) :: .ref (ad 39) :: rest)) := g_lald C hP.1 39 rfl (by decide) h0 h1 hdg kk
theorem mdS_pile (C : gC D k p s m args c cc own) (hP : gWd D (mdW k ad) v f g H) (hD : mdD A k ad) (hS : va_S A H0 H locs) {i x : Int} {g1 : gF} (h0 : 0 ≤ i) (h1 : i < 41) (hv : (mdW k ad) v f (va_up g 1 (u1 (g 1) i x)) = (mdW k ad) v f g1) (hdg : decode cc pc = .ok (.lastore, 1)) (kk : ∀ (H1 : Heap) (locs1 : List Loc), gWd D (mdW k ad) v f g1 H1 → va_S A H0 H1 locs1 → W p l e R s m args below meth c H1 locs1 cells slots Q (F0 m (pc + 1) ls rest)) : W p l e R s m args below meth c H locs cells slots Q (F0 m pc ls (.long (iL x) :: .int (iI i) :: .ref (ad 39) :: rest)) := g_last C hP.1 (hD v f g) hS 39 rfl (by decide) h0 h1 (ws' := (mdW k ad) v f g1) (by rw [← hv]; rfl) hdg (fun H1 locs1 h1 h3 => kk H1 locs1 ⟨h1, hP.2⟩ h3)
theorem mdN_pile (C : gC D k p s m args c cc own) (hP : gWd D (mdW k ad) v f g H) (hdg : decode cc pc = .ok (.arraylength, 1)) (kk : W p l e R s m args below meth c H locs cells slots Q (F0 m (pc + 1) ls (.int (iI 41) :: rest))) : W p l e R s m args below meth c H locs cells slots Q (F0 m pc ls (.ref (ad 39) :: rest)) := va_alen (D := D) C.1 C.2.1 C.2.2.2.2 hP.1 39 1 rfl rfl (v := iI 41) rfl hdg kk
theorem mdL_ranks (C : gC D k p s m args c cc own) (hP : gWd D (mdW k ad) v f g H) {i : Int} (h0 : 0 ≤ i) (h1 : i < 16) (hdg : decode cc pc = .ok (.iaload, 1)) (kk : W p l e R s m args below meth c H locs cells slots Q (F0 m (pc + 1) ls (.int (iI (f 38 i)) :: rest))) : W p l e R s m args below meth c H locs cells slots Q (F0 m pc ls (.int (iI i) :: .ref (ad 40) :: rest)) := g_iald C hP.1 40 rfl (by decide) h0 h1 hdg kk
theorem mdS_ranks (C : gC D k p s m args c cc own) (hP : gWd D (mdW k ad) v f g H) (hD : mdD A k ad) (hS : va_S A H0 H locs) {i x : Int} {f1 : gF} (h0 : 0 ≤ i) (h1 : i < 16) (hx : inR x) (hv : (mdW k ad) v (va_up f 38 (u1 (f 38) i x)) g = (mdW k ad) v f1 g) (hv2 : va_up f 38 (u1 (f 38) i x) = f1 ∨ gOk v f1) (hdg : decode cc pc = .ok (.iastore, 1)) (kk : ∀ (H1 : Heap) (locs1 : List Loc), gWd D (mdW k ad) v f1 g H1 → va_S A H0 H1 locs1 → W p l e R s m args below meth c H1 locs1 cells slots Q (F0 m (pc + 1) ls rest)) : W p l e R s m args below meth c H locs cells slots Q (F0 m pc ls (.int (iI x) :: .int (iI i) :: .ref (ad 40) :: rest)) := g_iast C hP.1 (hD v f g) hS 40 rfl (by decide) h0 h1 (ws' := (mdW k ad) v f1 g) (by rw [← hv]; rfl) hdg (fun H1 locs1 h1 h3 => kk H1 locs1 ⟨h1, hv2.elim (fun q => q ▸ gF_up hP.2 38 (u1_rng (hP.2.2 38) hx)) id⟩ h3)
theorem mdN_ranks (C : gC D k p s m args c cc own) (hP : gWd D (mdW k ad) v f g H) (hdg : decode cc pc = .ok (.arraylength, 1)) (kk : W p l e R s m args below meth c H locs cells slots Q (F0 m (pc + 1) ls (.int (iI 16) :: rest))) : W p l e R s m args below meth c H locs cells slots Q (F0 m pc ls (.ref (ad 40) :: rest)) := va_alen (D := D) C.1 C.2.1 C.2.2.2.2 hP.1 40 0 rfl rfl (v := iI 16) rfl hdg kk
theorem mdL_sums (C : gC D k p s m args c cc own) (hP : gWd D (mdW k ad) v f g H) {i : Int} (h0 : 0 ≤ i) (h1 : i < 16) (hdg : decode cc pc = .ok (.laload, 1)) (kk : W p l e R s m args below meth c H locs cells slots Q (F0 m (pc + 1) ls (.long (iL (g 2 i)) :: rest))) : W p l e R s m args below meth c H locs cells slots Q (F0 m pc ls (.int (iI i) :: .ref (ad 41) :: rest)) := g_lald C hP.1 41 rfl (by decide) h0 h1 hdg kk
theorem mdS_sums (C : gC D k p s m args c cc own) (hP : gWd D (mdW k ad) v f g H) (hD : mdD A k ad) (hS : va_S A H0 H locs) {i x : Int} {g1 : gF} (h0 : 0 ≤ i) (h1 : i < 16) (hv : (mdW k ad) v f (va_up g 2 (u1 (g 2) i x)) = (mdW k ad) v f g1) (hdg : decode cc pc = .ok (.lastore, 1)) (kk : ∀ (H1 : Heap) (locs1 : List Loc), gWd D (mdW k ad) v f g1 H1 → va_S A H0 H1 locs1 → W p l e R s m args below meth c H1 locs1 cells slots Q (F0 m (pc + 1) ls rest)) : W p l e R s m args below meth c H locs cells slots Q (F0 m pc ls (.long (iL x) :: .int (iI i) :: .ref (ad 41) :: rest)) := g_last C hP.1 (hD v f g) hS 41 rfl (by decide) h0 h1 (ws' := (mdW k ad) v f g1) (by rw [← hv]; rfl) hdg (fun H1 locs1 h1 h3 => kk H1 locs1 ⟨h1, hP.2⟩ h3)
theorem mdN_sums (C : gC D k p s m args c cc own) (hP : gWd D (mdW k ad) v f g H) (hdg : decode cc pc = .ok (.arraylength, 1)) (kk : W p l e R s m args below meth c H locs cells slots Q (F0 m (pc + 1) ls (.int (iI 16) :: rest))) : W p l e R s m args below meth c H locs cells slots Q (F0 m pc ls (.ref (ad 41) :: rest)) := va_alen (D := D) C.1 C.2.1 C.2.2.2.2 hP.1 41 1 rfl rfl (v := iI 16) rfl hdg kk
end Gmd
end
section
theorem dX2_knows_0 : decode cX2_knows 0 = .ok (.iload_n 1, 1) := by decide +kernel
theorem dX2_knows_1 : decode cX2_knows 1 = .ok (.ifCond .lt 15, 3) := by decide +kernel
theorem dX2_knows_4 : decode cX2_knows 4 = .ok (.iload_n 1, 1) := by decide +kernel
theorem dX2_knows_5 : decode cX2_knows 5 = .ok (.aload_n 0, 1) := by decide +kernel
theorem dX2_knows_6 : decode cX2_knows 6 = .ok (.getfield 18, 3) := by decide +kernel
theorem dX2_knows_9 : decode cX2_knows 9 = .ok (.if_icmp .ge 7, 3) := by decide +kernel
theorem dX2_knows_12 : decode cX2_knows 12 = .ok (.iconst 1, 1) := by decide +kernel
theorem dX2_knows_13 : decode cX2_knows 13 = .ok (.goto 4, 3) := by decide +kernel
theorem dX2_knows_16 : decode cX2_knows 16 = .ok (.iconst 0, 1) := by decide +kernel
theorem dX2_knows_17 : decode cX2_knows 17 = .ok (.ireturn, 1) := by decide +kernel
theorem dX4_hasRound_0 : decode cX4_hasRound 0 = .ok (.iload_n 1, 1) := by decide +kernel
theorem dX4_hasRound_1 : decode cX4_hasRound 1 = .ok (.ifCond .lt 15, 3) := by decide +kernel
theorem dX4_hasRound_4 : decode cX4_hasRound 4 = .ok (.iload_n 1, 1) := by decide +kernel
theorem dX4_hasRound_5 : decode cX4_hasRound 5 = .ok (.aload_n 0, 1) := by decide +kernel
theorem dX4_hasRound_6 : decode cX4_hasRound 6 = .ok (.getfield 31, 3) := by decide +kernel
theorem dX4_hasRound_9 : decode cX4_hasRound 9 = .ok (.if_icmp .ge 7, 3) := by decide +kernel
theorem dX4_hasRound_12 : decode cX4_hasRound 12 = .ok (.iconst 1, 1) := by decide +kernel
theorem dX4_hasRound_13 : decode cX4_hasRound 13 = .ok (.goto 4, 3) := by decide +kernel
theorem dX4_hasRound_16 : decode cX4_hasRound 16 = .ok (.iconst 0, 1) := by decide +kernel
theorem dX4_hasRound_17 : decode cX4_hasRound 17 = .ok (.ireturn, 1) := by decide +kernel
theorem dX4_hasRoute_0 : decode cX4_hasRoute 0 = .ok (.aload_n 0, 1) := by decide +kernel
theorem dX4_hasRoute_1 : decode cX4_hasRoute 1 = .ok (.iload_n 1, 1) := by decide +kernel
theorem dX4_hasRoute_2 : decode cX4_hasRoute 2 = .ok (.invokevirtual 59, 3) := by decide +kernel
theorem dX4_hasRoute_5 : decode cX4_hasRoute 5 = .ok (.ifCond .eq 25, 3) := by decide +kernel
theorem dX4_hasRoute_8 : decode cX4_hasRoute 8 = .ok (.iload_n 2, 1) := by decide +kernel
theorem dX4_hasRoute_9 : decode cX4_hasRoute 9 = .ok (.ifCond .lt 21, 3) := by decide +kernel
theorem dX4_hasRoute_12 : decode cX4_hasRoute 12 = .ok (.iload_n 2, 1) := by decide +kernel
theorem dX4_hasRoute_13 : decode cX4_hasRoute 13 = .ok (.aload_n 0, 1) := by decide +kernel
theorem dX4_hasRoute_14 : decode cX4_hasRoute 14 = .ok (.getfield 9, 3) := by decide +kernel
theorem dX4_hasRoute_17 : decode cX4_hasRoute 17 = .ok (.iload_n 1, 1) := by decide +kernel
theorem dX4_hasRoute_18 : decode cX4_hasRoute 18 = .ok (.iconst 4, 1) := by decide +kernel
theorem dX4_hasRoute_19 : decode cX4_hasRoute 19 = .ok (.imul, 1) := by decide +kernel
theorem dX4_hasRoute_20 : decode cX4_hasRoute 20 = .ok (.iconst 0, 1) := by decide +kernel
theorem dX4_hasRoute_21 : decode cX4_hasRoute 21 = .ok (.iadd, 1) := by decide +kernel
theorem dX4_hasRoute_22 : decode cX4_hasRoute 22 = .ok (.iaload, 1) := by decide +kernel
theorem dX4_hasRoute_23 : decode cX4_hasRoute 23 = .ok (.if_icmp .ge 7, 3) := by decide +kernel
theorem dX4_hasRoute_26 : decode cX4_hasRoute 26 = .ok (.iconst 1, 1) := by decide +kernel
theorem dX4_hasRoute_27 : decode cX4_hasRoute 27 = .ok (.goto 4, 3) := by decide +kernel
theorem dX4_hasRoute_30 : decode cX4_hasRoute 30 = .ok (.iconst 0, 1) := by decide +kernel
theorem dX4_hasRoute_31 : decode cX4_hasRoute 31 = .ok (.ireturn, 1) := by decide +kernel
theorem dX4_shapeOf_0 : decode cX4_shapeOf 0 = .ok (.aload_n 0, 1) := by decide +kernel
theorem dX4_shapeOf_1 : decode cX4_shapeOf 1 = .ok (.iload_n 1, 1) := by decide +kernel
theorem dX4_shapeOf_2 : decode cX4_shapeOf 2 = .ok (.invokevirtual 59, 3) := by decide +kernel
theorem dX4_shapeOf_5 : decode cX4_shapeOf 5 = .ok (.ifCond .eq 25, 3) := by decide +kernel
theorem dX4_shapeOf_8 : decode cX4_shapeOf 8 = .ok (.iload_n 2, 1) := by decide +kernel
theorem dX4_shapeOf_9 : decode cX4_shapeOf 9 = .ok (.ifCond .lt 21, 3) := by decide +kernel
theorem dX4_shapeOf_12 : decode cX4_shapeOf 12 = .ok (.iload_n 2, 1) := by decide +kernel
theorem dX4_shapeOf_13 : decode cX4_shapeOf 13 = .ok (.iconst 4, 1) := by decide +kernel
theorem dX4_shapeOf_14 : decode cX4_shapeOf 14 = .ok (.if_icmp .ge 16, 3) := by decide +kernel
theorem dX4_shapeOf_17 : decode cX4_shapeOf 17 = .ok (.aload_n 0, 1) := by decide +kernel
theorem dX4_shapeOf_18 : decode cX4_shapeOf 18 = .ok (.getfield 9, 3) := by decide +kernel
theorem dX4_shapeOf_21 : decode cX4_shapeOf 21 = .ok (.iload_n 1, 1) := by decide +kernel
theorem dX4_shapeOf_22 : decode cX4_shapeOf 22 = .ok (.iconst 4, 1) := by decide +kernel
theorem dX4_shapeOf_23 : decode cX4_shapeOf 23 = .ok (.imul, 1) := by decide +kernel
theorem dX4_shapeOf_24 : decode cX4_shapeOf 24 = .ok (.iload_n 2, 1) := by decide +kernel
theorem dX4_shapeOf_25 : decode cX4_shapeOf 25 = .ok (.iadd, 1) := by decide +kernel
theorem dX4_shapeOf_26 : decode cX4_shapeOf 26 = .ok (.iaload, 1) := by decide +kernel
theorem dX4_shapeOf_27 : decode cX4_shapeOf 27 = .ok (.goto 4, 3) := by decide +kernel
theorem dX4_shapeOf_30 : decode cX4_shapeOf 30 = .ok (.iconst 0, 1) := by decide +kernel
theorem dX4_shapeOf_31 : decode cX4_shapeOf 31 = .ok (.ireturn, 1) := by decide +kernel
theorem dX7_knows_0 : decode cX7_knows 0 = .ok (.iload_n 1, 1) := by decide +kernel
theorem dX7_knows_1 : decode cX7_knows 1 = .ok (.ifCond .lt 15, 3) := by decide +kernel
theorem dX7_knows_4 : decode cX7_knows 4 = .ok (.iload_n 1, 1) := by decide +kernel
theorem dX7_knows_5 : decode cX7_knows 5 = .ok (.aload_n 0, 1) := by decide +kernel
theorem dX7_knows_6 : decode cX7_knows 6 = .ok (.getfield 36, 3) := by decide +kernel
theorem dX7_knows_9 : decode cX7_knows 9 = .ok (.if_icmp .ge 7, 3) := by decide +kernel
theorem dX7_knows_12 : decode cX7_knows 12 = .ok (.iconst 1, 1) := by decide +kernel
theorem dX7_knows_13 : decode cX7_knows 13 = .ok (.goto 4, 3) := by decide +kernel
theorem dX7_knows_16 : decode cX7_knows 16 = .ok (.iconst 0, 1) := by decide +kernel
theorem dX7_knows_17 : decode cX7_knows 17 = .ok (.ireturn, 1) := by decide +kernel
theorem dX7_openOf_0 : decode cX7_openOf 0 = .ok (.aload_n 0, 1) := by decide +kernel
theorem dX7_openOf_1 : decode cX7_openOf 1 = .ok (.getfield 33, 3) := by decide +kernel
theorem dX7_openOf_4 : decode cX7_openOf 4 = .ok (.iload_n 1, 1) := by decide +kernel
theorem dX7_openOf_5 : decode cX7_openOf 5 = .ok (.iaload, 1) := by decide +kernel
theorem dX7_openOf_6 : decode cX7_openOf 6 = .ok (.iconst 1, 1) := by decide +kernel
theorem dX7_openOf_7 : decode cX7_openOf 7 = .ok (.isub, 1) := by decide +kernel
theorem dX7_openOf_8 : decode cX7_openOf 8 = .ok (.ireturn, 1) := by decide +kernel
theorem dX7_anyOpen_0 : decode cX7_anyOpen 0 = .ok (.iconst 0, 1) := by decide +kernel
theorem dX7_anyOpen_1 : decode cX7_anyOpen 1 = .ok (.istore_n 1, 1) := by decide +kernel
theorem dX7_anyOpen_2 : decode cX7_anyOpen 2 = .ok (.iload_n 1, 1) := by decide +kernel
theorem dX7_anyOpen_3 : decode cX7_anyOpen 3 = .ok (.bipush 16, 2) := by decide +kernel
theorem dX7_anyOpen_5 : decode cX7_anyOpen 5 = .ok (.if_icmp .ge 20, 3) := by decide +kernel
theorem dX7_anyOpen_8 : decode cX7_anyOpen 8 = .ok (.aload_n 0, 1) := by decide +kernel
theorem dX7_anyOpen_9 : decode cX7_anyOpen 9 = .ok (.getfield 33, 3) := by decide +kernel
theorem dX7_anyOpen_12 : decode cX7_anyOpen 12 = .ok (.iload_n 1, 1) := by decide +kernel
theorem dX7_anyOpen_13 : decode cX7_anyOpen 13 = .ok (.iaload, 1) := by decide +kernel
theorem dX7_anyOpen_14 : decode cX7_anyOpen 14 = .ok (.ifCond .le 5, 3) := by decide +kernel
theorem dX7_anyOpen_17 : decode cX7_anyOpen 17 = .ok (.iconst 1, 1) := by decide +kernel
theorem dX7_anyOpen_18 : decode cX7_anyOpen 18 = .ok (.ireturn, 1) := by decide +kernel
theorem dX7_anyOpen_19 : decode cX7_anyOpen 19 = .ok (.iinc 1 1, 3) := by decide +kernel
theorem dX7_anyOpen_22 : decode cX7_anyOpen 22 = .ok (.goto (-20), 3) := by decide +kernel
theorem dX7_anyOpen_25 : decode cX7_anyOpen 25 = .ok (.iconst 0, 1) := by decide +kernel
theorem dX7_anyOpen_26 : decode cX7_anyOpen 26 = .ok (.ireturn, 1) := by decide +kernel
theorem dX7_endOverdue_0 : decode cX7_endOverdue 0 = .ok (.iconst 0, 1) := by decide +kernel
theorem dX7_endOverdue_1 : decode cX7_endOverdue 1 = .ok (.istore_n 3, 1) := by decide +kernel
theorem dX7_endOverdue_2 : decode cX7_endOverdue 2 = .ok (.iload_n 3, 1) := by decide +kernel
theorem dX7_endOverdue_3 : decode cX7_endOverdue 3 = .ok (.bipush 16, 2) := by decide +kernel
theorem dX7_endOverdue_5 : decode cX7_endOverdue 5 = .ok (.if_icmp .ge 51, 3) := by decide +kernel
theorem dX7_endOverdue_8 : decode cX7_endOverdue 8 = .ok (.aload_n 0, 1) := by decide +kernel
theorem dX7_endOverdue_9 : decode cX7_endOverdue 9 = .ok (.iload_n 3, 1) := by decide +kernel
theorem dX7_endOverdue_10 : decode cX7_endOverdue 10 = .ok (.invokevirtual 46, 3) := by decide +kernel
theorem dX7_endOverdue_13 : decode cX7_endOverdue 13 = .ok (.istore 4, 2) := by decide +kernel
theorem dX7_endOverdue_15 : decode cX7_endOverdue 15 = .ok (.iload 4, 2) := by decide +kernel
theorem dX7_endOverdue_17 : decode cX7_endOverdue 17 = .ok (.iconst (-1), 1) := by decide +kernel
theorem dX7_endOverdue_18 : decode cX7_endOverdue 18 = .ok (.if_icmp .eq 32, 3) := by decide +kernel
theorem dX7_endOverdue_21 : decode cX7_endOverdue 21 = .ok (.iload_n 1, 1) := by decide +kernel
theorem dX7_endOverdue_22 : decode cX7_endOverdue 22 = .ok (.aload_n 0, 1) := by decide +kernel
theorem dX7_endOverdue_23 : decode cX7_endOverdue 23 = .ok (.getfield 21, 3) := by decide +kernel
theorem dX7_endOverdue_26 : decode cX7_endOverdue 26 = .ok (.iload 4, 2) := by decide +kernel
theorem dX7_endOverdue_28 : decode cX7_endOverdue 28 = .ok (.iaload, 1) := by decide +kernel
theorem dX7_endOverdue_29 : decode cX7_endOverdue 29 = .ok (.iload_n 2, 1) := by decide +kernel
theorem dX7_endOverdue_30 : decode cX7_endOverdue 30 = .ok (.iadd, 1) := by decide +kernel
theorem dX7_endOverdue_31 : decode cX7_endOverdue 31 = .ok (.if_icmp .lt 19, 3) := by decide +kernel
theorem dX7_endOverdue_34 : decode cX7_endOverdue 34 = .ok (.aload_n 0, 1) := by decide +kernel
theorem dX7_endOverdue_35 : decode cX7_endOverdue 35 = .ok (.iload 4, 2) := by decide +kernel
theorem dX7_endOverdue_37 : decode cX7_endOverdue 37 = .ok (.aload_n 0, 1) := by decide +kernel
theorem dX7_endOverdue_38 : decode cX7_endOverdue 38 = .ok (.getfield 21, 3) := by decide +kernel
theorem dX7_endOverdue_41 : decode cX7_endOverdue 41 = .ok (.iload 4, 2) := by decide +kernel
theorem dX7_endOverdue_43 : decode cX7_endOverdue 43 = .ok (.iaload, 1) := by decide +kernel
theorem dX7_endOverdue_44 : decode cX7_endOverdue 44 = .ok (.iload_n 2, 1) := by decide +kernel
theorem dX7_endOverdue_45 : decode cX7_endOverdue 45 = .ok (.iadd, 1) := by decide +kernel
theorem dX7_endOverdue_46 : decode cX7_endOverdue 46 = .ok (.iconst 3, 1) := by decide +kernel
theorem dX7_endOverdue_47 : decode cX7_endOverdue 47 = .ok (.invokevirtual 50, 3) := by decide +kernel
theorem dX7_endOverdue_50 : decode cX7_endOverdue 50 = .ok (.iinc 3 1, 3) := by decide +kernel
theorem dX7_endOverdue_53 : decode cX7_endOverdue 53 = .ok (.goto (-51), 3) := by decide +kernel
theorem dX7_endOverdue_56 : decode cX7_endOverdue 56 = .ok (.return_, 1) := by decide +kernel
theorem dX10_status_0 : decode cX10_status 0 = .ok (.aload_n 0, 1) := by decide +kernel
theorem dX10_status_1 : decode cX10_status 1 = .ok (.getfield 71, 3) := by decide +kernel
theorem dX10_status_4 : decode cX10_status 4 = .ok (.ireturn, 1) := by decide +kernel
theorem dX10_feed_0 : decode cX10_feed 0 = .ok (.aload_n 0, 1) := by decide +kernel
theorem dX10_feed_1 : decode cX10_feed 1 = .ok (.getfield 81, 3) := by decide +kernel
theorem dX10_feed_4 : decode cX10_feed 4 = .ok (.bipush 20, 2) := by decide +kernel
theorem dX10_feed_6 : decode cX10_feed 6 = .ok (.iadd, 1) := by decide +kernel
theorem dX10_feed_7 : decode cX10_feed 7 = .ok (.sipush 700, 3) := by decide +kernel
theorem dX10_feed_10 : decode cX10_feed 10 = .ok (.if_icmp .le 5, 3) := by decide +kernel
theorem dX10_feed_13 : decode cX10_feed 13 = .ok (.iconst (-1), 1) := by decide +kernel
theorem dX10_feed_14 : decode cX10_feed 14 = .ok (.ireturn, 1) := by decide +kernel
theorem dX10_feed_15 : decode cX10_feed 15 = .ok (.aload_n 0, 1) := by decide +kernel
theorem dX10_feed_16 : decode cX10_feed 16 = .ok (.iload_n 1, 1) := by decide +kernel
theorem dX10_feed_17 : decode cX10_feed 17 = .ok (.invokevirtual 84, 3) := by decide +kernel
theorem dX10_feed_20 : decode cX10_feed 20 = .ok (.aload_n 0, 1) := by decide +kernel
theorem dX10_feed_21 : decode cX10_feed 21 = .ok (.iload_n 2, 1) := by decide +kernel
theorem dX10_feed_22 : decode cX10_feed 22 = .ok (.invokevirtual 84, 3) := by decide +kernel
theorem dX10_feed_25 : decode cX10_feed 25 = .ok (.aload_n 0, 1) := by decide +kernel
theorem dX10_feed_26 : decode cX10_feed 26 = .ok (.iload_n 3, 1) := by decide +kernel
theorem dX10_feed_27 : decode cX10_feed 27 = .ok (.invokevirtual 84, 3) := by decide +kernel
theorem dX10_feed_30 : decode cX10_feed 30 = .ok (.aload_n 0, 1) := by decide +kernel
theorem dX10_feed_31 : decode cX10_feed 31 = .ok (.iload 4, 2) := by decide +kernel
theorem dX10_feed_33 : decode cX10_feed 33 = .ok (.invokevirtual 84, 3) := by decide +kernel
theorem dX10_feed_36 : decode cX10_feed 36 = .ok (.aload_n 0, 1) := by decide +kernel
theorem dX10_feed_37 : decode cX10_feed 37 = .ok (.iload 5, 2) := by decide +kernel
theorem dX10_feed_39 : decode cX10_feed 39 = .ok (.invokevirtual 84, 3) := by decide +kernel
theorem dX10_feed_42 : decode cX10_feed 42 = .ok (.aload_n 0, 1) := by decide +kernel
theorem dX10_feed_43 : decode cX10_feed 43 = .ok (.getfield 81, 3) := by decide +kernel
theorem dX10_feed_46 : decode cX10_feed 46 = .ok (.ireturn, 1) := by decide +kernel
theorem dX10_fault_0 : decode cX10_fault 0 = .ok (.iload_n 1, 1) := by decide +kernel
theorem dX10_fault_1 : decode cX10_fault 1 = .ok (.ifCond .ne 8, 3) := by decide +kernel
theorem dX10_fault_4 : decode cX10_fault 4 = .ok (.aload_n 0, 1) := by decide +kernel
theorem dX10_fault_5 : decode cX10_fault 5 = .ok (.getfield 75, 3) := by decide +kernel
theorem dX10_fault_8 : decode cX10_fault 8 = .ok (.ireturn, 1) := by decide +kernel
theorem dX10_fault_9 : decode cX10_fault 9 = .ok (.iload_n 1, 1) := by decide +kernel
theorem dX10_fault_10 : decode cX10_fault 10 = .ok (.iconst 1, 1) := by decide +kernel
theorem dX10_fault_11 : decode cX10_fault 11 = .ok (.if_icmp .ne 10, 3) := by decide +kernel
theorem dX10_fault_14 : decode cX10_fault 14 = .ok (.aload_n 0, 1) := by decide +kernel
theorem dX10_fault_15 : decode cX10_fault 15 = .ok (.getfield 78, 3) := by decide +kernel
theorem dX10_fault_18 : decode cX10_fault 18 = .ok (.goto 4, 3) := by decide +kernel
theorem dX10_fault_21 : decode cX10_fault 21 = .ok (.iconst (-1), 1) := by decide +kernel
theorem dX10_fault_22 : decode cX10_fault 22 = .ok (.ireturn, 1) := by decide +kernel
theorem dX10_climber_0 : decode cX10_climber 0 = .ok (.aload_n 0, 1) := by decide +kernel
theorem dX10_climber_1 : decode cX10_climber 1 = .ok (.getfield 16, 3) := by decide +kernel
theorem dX10_climber_4 : decode cX10_climber 4 = .ok (.getfield 117, 3) := by decide +kernel
theorem dX10_climber_7 : decode cX10_climber 7 = .ok (.ifCond .ne 9, 3) := by decide +kernel
theorem dX10_climber_10 : decode cX10_climber 10 = .ok (.aload_n 0, 1) := by decide +kernel
theorem dX10_climber_11 : decode cX10_climber 11 = .ok (.iconst 1, 1) := by decide +kernel
theorem dX10_climber_12 : decode cX10_climber 12 = .ok (.invokevirtual 88, 3) := by decide +kernel
theorem dX10_climber_15 : decode cX10_climber 15 = .ok (.ireturn, 1) := by decide +kernel
theorem dX10_climber_16 : decode cX10_climber 16 = .ok (.aload_n 0, 1) := by decide +kernel
theorem dX10_climber_17 : decode cX10_climber 17 = .ok (.getfield 37, 3) := by decide +kernel
theorem dX10_climber_20 : decode cX10_climber 20 = .ok (.getfield 123, 3) := by decide +kernel
theorem dX10_climber_23 : decode cX10_climber 23 = .ok (.bipush 16, 2) := by decide +kernel
theorem dX10_climber_25 : decode cX10_climber 25 = .ok (.if_icmp .lt 9, 3) := by decide +kernel
theorem dX10_climber_28 : decode cX10_climber 28 = .ok (.aload_n 0, 1) := by decide +kernel
theorem dX10_climber_29 : decode cX10_climber 29 = .ok (.iconst 3, 1) := by decide +kernel
theorem dX10_climber_30 : decode cX10_climber 30 = .ok (.invokevirtual 88, 3) := by decide +kernel
theorem dX10_climber_33 : decode cX10_climber 33 = .ok (.ireturn, 1) := by decide +kernel
theorem dX10_climber_34 : decode cX10_climber 34 = .ok (.aload_n 0, 1) := by decide +kernel
theorem dX10_climber_35 : decode cX10_climber 35 = .ok (.getfield 44, 3) := by decide +kernel
theorem dX10_climber_38 : decode cX10_climber 38 = .ok (.getfield 126, 3) := by decide +kernel
theorem dX10_climber_41 : decode cX10_climber 41 = .ok (.ifCond .gt 13, 3) := by decide +kernel
theorem dX10_climber_44 : decode cX10_climber 44 = .ok (.aload_n 0, 1) := by decide +kernel
theorem dX10_climber_45 : decode cX10_climber 45 = .ok (.getfield 37, 3) := by decide +kernel
theorem dX10_climber_48 : decode cX10_climber 48 = .ok (.getfield 129, 3) := by decide +kernel
theorem dX10_climber_51 : decode cX10_climber 51 = .ok (.ifCond .le 10, 3) := by decide +kernel
theorem dX10_climber_54 : decode cX10_climber 54 = .ok (.aload_n 0, 1) := by decide +kernel
theorem dX10_climber_55 : decode cX10_climber 55 = .ok (.bipush 10, 2) := by decide +kernel
theorem dX10_climber_57 : decode cX10_climber 57 = .ok (.invokevirtual 88, 3) := by decide +kernel
theorem dX10_climber_60 : decode cX10_climber 60 = .ok (.ireturn, 1) := by decide +kernel
theorem dX10_climber_61 : decode cX10_climber 61 = .ok (.aload_n 0, 1) := by decide +kernel
theorem dX10_climber_62 : decode cX10_climber 62 = .ok (.aload_n 0, 1) := by decide +kernel
theorem dX10_climber_63 : decode cX10_climber 63 = .ok (.getfield 37, 3) := by decide +kernel
theorem dX10_climber_66 : decode cX10_climber 66 = .ok (.invokevirtual 132, 3) := by decide +kernel
theorem dX10_climber_69 : decode cX10_climber 69 = .ok (.invokevirtual 120, 3) := by decide +kernel
theorem dX10_climber_72 : decode cX10_climber 72 = .ok (.ireturn, 1) := by decide +kernel
theorem dX10_route_0 : decode cX10_route 0 = .ok (.aload_n 0, 1) := by decide +kernel
theorem dX10_route_1 : decode cX10_route 1 = .ok (.getfield 16, 3) := by decide +kernel
theorem dX10_route_4 : decode cX10_route 4 = .ok (.iload_n 1, 1) := by decide +kernel
theorem dX10_route_5 : decode cX10_route 5 = .ok (.iload_n 2, 1) := by decide +kernel
theorem dX10_route_6 : decode cX10_route 6 = .ok (.invokevirtual 136, 3) := by decide +kernel
theorem dX10_route_9 : decode cX10_route 9 = .ok (.ifCond .ne 9, 3) := by decide +kernel
theorem dX10_route_12 : decode cX10_route 12 = .ok (.aload_n 0, 1) := by decide +kernel
theorem dX10_route_13 : decode cX10_route 13 = .ok (.iconst 1, 1) := by decide +kernel
theorem dX10_route_14 : decode cX10_route 14 = .ok (.invokevirtual 140, 3) := by decide +kernel
theorem dX10_route_17 : decode cX10_route 17 = .ok (.ireturn, 1) := by decide +kernel
theorem dX10_route_18 : decode cX10_route 18 = .ok (.iload_n 3, 1) := by decide +kernel
theorem dX10_route_19 : decode cX10_route 19 = .ok (.iconst 2, 1) := by decide +kernel
theorem dX10_route_20 : decode cX10_route 20 = .ok (.if_icmp .lt 22, 3) := by decide +kernel
theorem dX10_route_23 : decode cX10_route 23 = .ok (.iload_n 3, 1) := by decide +kernel
theorem dX10_route_24 : decode cX10_route 24 = .ok (.bipush 60, 2) := by decide +kernel
theorem dX10_route_26 : decode cX10_route 26 = .ok (.if_icmp .gt 16, 3) := by decide +kernel
theorem dX10_route_29 : decode cX10_route 29 = .ok (.iload_n 3, 1) := by decide +kernel
theorem dX10_route_30 : decode cX10_route 30 = .ok (.iload 4, 2) := by decide +kernel
theorem dX10_route_32 : decode cX10_route 32 = .ok (.iload 5, 2) := by decide +kernel
theorem dX10_route_34 : decode cX10_route 34 = .ok (.iload 6, 2) := by decide +kernel
theorem dX10_route_36 : decode cX10_route 36 = .ok (.invokestatic 144, 3) := by decide +kernel
theorem dX10_route_39 : decode cX10_route 39 = .ok (.ifCond .ne 9, 3) := by decide +kernel
theorem dX10_route_42 : decode cX10_route 42 = .ok (.aload_n 0, 1) := by decide +kernel
theorem dX10_route_43 : decode cX10_route 43 = .ok (.iconst 2, 1) := by decide +kernel
theorem dX10_route_44 : decode cX10_route 44 = .ok (.invokevirtual 140, 3) := by decide +kernel
theorem dX10_route_47 : decode cX10_route 47 = .ok (.ireturn, 1) := by decide +kernel
theorem dX10_route_48 : decode cX10_route 48 = .ok (.aload_n 0, 1) := by decide +kernel
theorem dX10_route_49 : decode cX10_route 49 = .ok (.getfield 30, 3) := by decide +kernel
theorem dX10_route_52 : decode cX10_route 52 = .ok (.iload_n 1, 1) := by decide +kernel
theorem dX10_route_53 : decode cX10_route 53 = .ok (.iload_n 2, 1) := by decide +kernel
theorem dX10_route_54 : decode cX10_route 54 = .ok (.invokevirtual 148, 3) := by decide +kernel
theorem dX10_route_57 : decode cX10_route 57 = .ok (.ifCond .le 10, 3) := by decide +kernel
theorem dX10_route_60 : decode cX10_route 60 = .ok (.aload_n 0, 1) := by decide +kernel
theorem dX10_route_61 : decode cX10_route 61 = .ok (.bipush 10, 2) := by decide +kernel
theorem dX10_route_63 : decode cX10_route 63 = .ok (.invokevirtual 140, 3) := by decide +kernel
theorem dX10_route_66 : decode cX10_route 66 = .ok (.ireturn, 1) := by decide +kernel
theorem dX10_route_67 : decode cX10_route 67 = .ok (.aload_n 0, 1) := by decide +kernel
theorem dX10_route_68 : decode cX10_route 68 = .ok (.getfield 30, 3) := by decide +kernel
theorem dX10_route_71 : decode cX10_route 71 = .ok (.iload_n 1, 1) := by decide +kernel
theorem dX10_route_72 : decode cX10_route 72 = .ok (.iload_n 2, 1) := by decide +kernel
theorem dX10_route_73 : decode cX10_route 73 = .ok (.iload_n 3, 1) := by decide +kernel
theorem dX10_route_74 : decode cX10_route 74 = .ok (.invokevirtual 152, 3) := by decide +kernel
theorem dX10_route_77 : decode cX10_route 77 = .ok (.aload_n 0, 1) := by decide +kernel
theorem dX10_route_78 : decode cX10_route 78 = .ok (.getfield 30, 3) := by decide +kernel
theorem dX10_route_81 : decode cX10_route 81 = .ok (.iload_n 1, 1) := by decide +kernel
theorem dX10_route_82 : decode cX10_route 82 = .ok (.iload_n 2, 1) := by decide +kernel
theorem dX10_route_83 : decode cX10_route 83 = .ok (.iconst 0, 1) := by decide +kernel
theorem dX10_route_84 : decode cX10_route 84 = .ok (.iload 4, 2) := by decide +kernel
theorem dX10_route_86 : decode cX10_route 86 = .ok (.invokevirtual 156, 3) := by decide +kernel
theorem dX10_route_89 : decode cX10_route 89 = .ok (.aload_n 0, 1) := by decide +kernel
theorem dX10_route_90 : decode cX10_route 90 = .ok (.getfield 30, 3) := by decide +kernel
theorem dX10_route_93 : decode cX10_route 93 = .ok (.iload_n 1, 1) := by decide +kernel
theorem dX10_route_94 : decode cX10_route 94 = .ok (.iload_n 2, 1) := by decide +kernel
theorem dX10_route_95 : decode cX10_route 95 = .ok (.iconst 1, 1) := by decide +kernel
theorem dX10_route_96 : decode cX10_route 96 = .ok (.iload 5, 2) := by decide +kernel
theorem dX10_route_98 : decode cX10_route 98 = .ok (.invokevirtual 156, 3) := by decide +kernel
theorem dX10_route_101 : decode cX10_route 101 = .ok (.aload_n 0, 1) := by decide +kernel
theorem dX10_route_102 : decode cX10_route 102 = .ok (.getfield 30, 3) := by decide +kernel
theorem dX10_route_105 : decode cX10_route 105 = .ok (.iload_n 1, 1) := by decide +kernel
theorem dX10_route_106 : decode cX10_route 106 = .ok (.iload_n 2, 1) := by decide +kernel
theorem dX10_route_107 : decode cX10_route 107 = .ok (.iconst 2, 1) := by decide +kernel
theorem dX10_route_108 : decode cX10_route 108 = .ok (.iload 6, 2) := by decide +kernel
theorem dX10_route_110 : decode cX10_route 110 = .ok (.invokevirtual 156, 3) := by decide +kernel
theorem dX10_route_113 : decode cX10_route 113 = .ok (.aload_n 0, 1) := by decide +kernel
theorem dX10_route_114 : decode cX10_route 114 = .ok (.invokevirtual 160, 3) := by decide +kernel
theorem dX10_route_117 : decode cX10_route 117 = .ok (.ireturn, 1) := by decide +kernel
theorem dX10_told_0 : decode cX10_told 0 = .ok (.iload_n 2, 1) := by decide +kernel
theorem dX10_told_1 : decode cX10_told 1 = .ok (.iconst (-1), 1) := by decide +kernel
theorem dX10_told_2 : decode cX10_told 2 = .ok (.if_icmp .ne 7, 3) := by decide +kernel
theorem dX10_told_5 : decode cX10_told 5 = .ok (.iconst 1, 1) := by decide +kernel
theorem dX10_told_6 : decode cX10_told 6 = .ok (.goto 4, 3) := by decide +kernel
theorem dX10_told_9 : decode cX10_told 9 = .ok (.iconst 0, 1) := by decide +kernel
theorem dX10_told_10 : decode cX10_told 10 = .ok (.istore 4, 2) := by decide +kernel
theorem dX10_told_12 : decode cX10_told 12 = .ok (.iload 4, 2) := by decide +kernel
theorem dX10_told_14 : decode cX10_told 14 = .ok (.ifCond .eq 17, 3) := by decide +kernel
theorem dX10_told_17 : decode cX10_told 17 = .ok (.aload_n 0, 1) := by decide +kernel
theorem dX10_told_18 : decode cX10_told 18 = .ok (.getfield 16, 3) := by decide +kernel
theorem dX10_told_21 : decode cX10_told 21 = .ok (.iload_n 1, 1) := by decide +kernel
theorem dX10_told_22 : decode cX10_told 22 = .ok (.invokevirtual 164, 3) := by decide +kernel
theorem dX10_told_25 : decode cX10_told 25 = .ok (.ifCond .ne 24, 3) := by decide +kernel
theorem dX10_told_28 : decode cX10_told 28 = .ok (.goto 15, 3) := by decide +kernel
theorem dX10_told_31 : decode cX10_told 31 = .ok (.aload_n 0, 1) := by decide +kernel
theorem dX10_told_32 : decode cX10_told 32 = .ok (.getfield 16, 3) := by decide +kernel
theorem dX10_told_35 : decode cX10_told 35 = .ok (.iload_n 1, 1) := by decide +kernel
theorem dX10_told_36 : decode cX10_told 36 = .ok (.iload_n 2, 1) := by decide +kernel
theorem dX10_told_37 : decode cX10_told 37 = .ok (.invokevirtual 136, 3) := by decide +kernel
theorem dX10_told_40 : decode cX10_told 40 = .ok (.ifCond .ne 9, 3) := by decide +kernel
theorem dX10_told_43 : decode cX10_told 43 = .ok (.aload_n 0, 1) := by decide +kernel
theorem dX10_told_44 : decode cX10_told 44 = .ok (.iconst 1, 1) := by decide +kernel
theorem dX10_told_45 : decode cX10_told 45 = .ok (.invokevirtual 88, 3) := by decide +kernel
theorem dX10_told_48 : decode cX10_told 48 = .ok (.ireturn, 1) := by decide +kernel
theorem dX10_told_49 : decode cX10_told 49 = .ok (.iload_n 3, 1) := by decide +kernel
theorem dX10_told_50 : decode cX10_told 50 = .ok (.ifCond .lt 8, 3) := by decide +kernel
theorem dX10_told_53 : decode cX10_told 53 = .ok (.iload_n 3, 1) := by decide +kernel
theorem dX10_told_54 : decode cX10_told 54 = .ok (.iconst 4, 1) := by decide +kernel
theorem dX10_told_55 : decode cX10_told 55 = .ok (.if_icmp .le 9, 3) := by decide +kernel
theorem dX10_told_58 : decode cX10_told 58 = .ok (.aload_n 0, 1) := by decide +kernel
theorem dX10_told_59 : decode cX10_told 59 = .ok (.iconst 2, 1) := by decide +kernel
theorem dX10_told_60 : decode cX10_told 60 = .ok (.invokevirtual 88, 3) := by decide +kernel
theorem dX10_told_63 : decode cX10_told 63 = .ok (.ireturn, 1) := by decide +kernel
theorem dX10_told_64 : decode cX10_told 64 = .ok (.iload 4, 2) := by decide +kernel
theorem dX10_told_66 : decode cX10_told 66 = .ok (.ifCond .eq 33, 3) := by decide +kernel
theorem dX10_told_69 : decode cX10_told 69 = .ok (.aload_n 0, 1) := by decide +kernel
theorem dX10_told_70 : decode cX10_told 70 = .ok (.iload_n 3, 1) := by decide +kernel
theorem dX10_told_71 : decode cX10_told 71 = .ok (.iconst 4, 1) := by decide +kernel
theorem dX10_told_72 : decode cX10_told 72 = .ok (.if_icmp .ne 14, 3) := by decide +kernel
theorem dX10_told_75 : decode cX10_told 75 = .ok (.aload_n 0, 1) := by decide +kernel
theorem dX10_told_76 : decode cX10_told 76 = .ok (.getfield 37, 3) := by decide +kernel
theorem dX10_told_79 : decode cX10_told 79 = .ok (.iload_n 1, 1) := by decide +kernel
theorem dX10_told_80 : decode cX10_told 80 = .ok (.invokevirtual 167, 3) := by decide +kernel
theorem dX10_told_83 : decode cX10_told 83 = .ok (.goto 12, 3) := by decide +kernel
theorem dX10_told_86 : decode cX10_told 86 = .ok (.aload_n 0, 1) := by decide +kernel
theorem dX10_told_87 : decode cX10_told 87 = .ok (.getfield 16, 3) := by decide +kernel
theorem dX10_told_90 : decode cX10_told 90 = .ok (.iload_n 1, 1) := by decide +kernel
theorem dX10_told_91 : decode cX10_told 91 = .ok (.iload_n 3, 1) := by decide +kernel
theorem dX10_told_92 : decode cX10_told 92 = .ok (.invokevirtual 170, 3) := by decide +kernel
theorem dX10_told_95 : decode cX10_told 95 = .ok (.invokevirtual 120, 3) := by decide +kernel
theorem dX10_told_98 : decode cX10_told 98 = .ok (.ireturn, 1) := by decide +kernel
theorem dX10_told_99 : decode cX10_told 99 = .ok (.iload_n 3, 1) := by decide +kernel
theorem dX10_told_100 : decode cX10_told 100 = .ok (.ifCond .ne 17, 3) := by decide +kernel
theorem dX10_told_103 : decode cX10_told 103 = .ok (.aload_n 0, 1) := by decide +kernel
theorem dX10_told_104 : decode cX10_told 104 = .ok (.aload_n 0, 1) := by decide +kernel
theorem dX10_told_105 : decode cX10_told 105 = .ok (.getfield 30, 3) := by decide +kernel
theorem dX10_told_108 : decode cX10_told 108 = .ok (.iload_n 1, 1) := by decide +kernel
theorem dX10_told_109 : decode cX10_told 109 = .ok (.iload_n 2, 1) := by decide +kernel
theorem dX10_told_110 : decode cX10_told 110 = .ok (.invokevirtual 173, 3) := by decide +kernel
theorem dX10_told_113 : decode cX10_told 113 = .ok (.invokevirtual 120, 3) := by decide +kernel
theorem dX10_told_116 : decode cX10_told 116 = .ok (.ireturn, 1) := by decide +kernel
theorem dX10_told_117 : decode cX10_told 117 = .ok (.aload_n 0, 1) := by decide +kernel
theorem dX10_told_118 : decode cX10_told 118 = .ok (.iload_n 3, 1) := by decide +kernel
theorem dX10_told_119 : decode cX10_told 119 = .ok (.iconst 4, 1) := by decide +kernel
theorem dX10_told_120 : decode cX10_told 120 = .ok (.if_icmp .ne 15, 3) := by decide +kernel
theorem dX10_told_123 : decode cX10_told 123 = .ok (.aload_n 0, 1) := by decide +kernel
theorem dX10_told_124 : decode cX10_told 124 = .ok (.getfield 30, 3) := by decide +kernel
theorem dX10_told_127 : decode cX10_told 127 = .ok (.iload_n 1, 1) := by decide +kernel
theorem dX10_told_128 : decode cX10_told 128 = .ok (.iload_n 2, 1) := by decide +kernel
theorem dX10_told_129 : decode cX10_told 129 = .ok (.invokevirtual 148, 3) := by decide +kernel
theorem dX10_told_132 : decode cX10_told 132 = .ok (.goto 15, 3) := by decide +kernel
theorem dX10_told_135 : decode cX10_told 135 = .ok (.aload_n 0, 1) := by decide +kernel
theorem dX10_told_136 : decode cX10_told 136 = .ok (.getfield 30, 3) := by decide +kernel
theorem dX10_told_139 : decode cX10_told 139 = .ok (.iload_n 1, 1) := by decide +kernel
theorem dX10_told_140 : decode cX10_told 140 = .ok (.iload_n 2, 1) := by decide +kernel
theorem dX10_told_141 : decode cX10_told 141 = .ok (.iload_n 3, 1) := by decide +kernel
theorem dX10_told_142 : decode cX10_told 142 = .ok (.iconst 1, 1) := by decide +kernel
theorem dX10_told_143 : decode cX10_told 143 = .ok (.isub, 1) := by decide +kernel
theorem dX10_told_144 : decode cX10_told 144 = .ok (.invokevirtual 176, 3) := by decide +kernel
theorem dX10_told_147 : decode cX10_told 147 = .ok (.invokevirtual 120, 3) := by decide +kernel
theorem dX10_told_150 : decode cX10_told 150 = .ok (.ireturn, 1) := by decide +kernel
theorem dX10_begin_0 : decode cX10_begin 0 = .ok (.iconst 1, 1) := by decide +kernel
theorem dX10_begin_1 : decode cX10_begin 1 = .ok (.istore 4, 2) := by decide +kernel
theorem dX10_begin_3 : decode cX10_begin 3 = .ok (.aload_n 0, 1) := by decide +kernel
theorem dX10_begin_4 : decode cX10_begin 4 = .ok (.getfield 37, 3) := by decide +kernel
theorem dX10_begin_7 : decode cX10_begin 7 = .ok (.iload_n 1, 1) := by decide +kernel
theorem dX10_begin_8 : decode cX10_begin 8 = .ok (.invokevirtual 180, 3) := by decide +kernel
theorem dX10_begin_11 : decode cX10_begin 11 = .ok (.ifCond .eq 28, 3) := by decide +kernel
theorem dX10_begin_14 : decode cX10_begin 14 = .ok (.aload_n 0, 1) := by decide +kernel
theorem dX10_begin_15 : decode cX10_begin 15 = .ok (.getfield 16, 3) := by decide +kernel
theorem dX10_begin_18 : decode cX10_begin 18 = .ok (.aload_n 0, 1) := by decide +kernel
theorem dX10_begin_19 : decode cX10_begin 19 = .ok (.getfield 37, 3) := by decide +kernel
theorem dX10_begin_22 : decode cX10_begin 22 = .ok (.getfield 129, 3) := by decide +kernel
theorem dX10_begin_25 : decode cX10_begin 25 = .ok (.iload_n 2, 1) := by decide +kernel
theorem dX10_begin_26 : decode cX10_begin 26 = .ok (.invokevirtual 136, 3) := by decide +kernel
theorem dX10_begin_29 : decode cX10_begin 29 = .ok (.ifCond .eq 10, 3) := by decide +kernel
theorem dX10_begin_32 : decode cX10_begin 32 = .ok (.aload_n 0, 1) := by decide +kernel
theorem dX10_begin_33 : decode cX10_begin 33 = .ok (.iload_n 3, 1) := by decide +kernel
theorem dX10_begin_34 : decode cX10_begin 34 = .ok (.invokevirtual 183, 3) := by decide +kernel
theorem dX10_begin_37 : decode cX10_begin 37 = .ok (.istore 4, 2) := by decide +kernel
theorem dX10_begin_39 : decode cX10_begin 39 = .ok (.iload 4, 2) := by decide +kernel
theorem dX10_begin_41 : decode cX10_begin 41 = .ok (.ifCond .ne 11, 3) := by decide +kernel
theorem dX10_begin_44 : decode cX10_begin 44 = .ok (.aload_n 0, 1) := by decide +kernel
theorem dX10_begin_45 : decode cX10_begin 45 = .ok (.iload_n 1, 1) := by decide +kernel
theorem dX10_begin_46 : decode cX10_begin 46 = .ok (.iload_n 2, 1) := by decide +kernel
theorem dX10_begin_47 : decode cX10_begin 47 = .ok (.invokevirtual 186, 3) := by decide +kernel
theorem dX10_begin_50 : decode cX10_begin 50 = .ok (.istore 4, 2) := by decide +kernel
theorem dX10_begin_52 : decode cX10_begin 52 = .ok (.iload 4, 2) := by decide +kernel
theorem dX10_begin_54 : decode cX10_begin 54 = .ok (.ifCond .eq 10, 3) := by decide +kernel
theorem dX10_begin_57 : decode cX10_begin 57 = .ok (.aload_n 0, 1) := by decide +kernel
theorem dX10_begin_58 : decode cX10_begin 58 = .ok (.iload 4, 2) := by decide +kernel
theorem dX10_begin_60 : decode cX10_begin 60 = .ok (.invokevirtual 88, 3) := by decide +kernel
theorem dX10_begin_63 : decode cX10_begin 63 = .ok (.ireturn, 1) := by decide +kernel
theorem dX10_begin_64 : decode cX10_begin 64 = .ok (.aload_n 0, 1) := by decide +kernel
theorem dX10_begin_65 : decode cX10_begin 65 = .ok (.getfield 30, 3) := by decide +kernel
theorem dX10_begin_68 : decode cX10_begin 68 = .ok (.aload_n 0, 1) := by decide +kernel
theorem dX10_begin_69 : decode cX10_begin 69 = .ok (.getfield 37, 3) := by decide +kernel
theorem dX10_begin_72 : decode cX10_begin 72 = .ok (.getfield 129, 3) := by decide +kernel
theorem dX10_begin_75 : decode cX10_begin 75 = .ok (.iload_n 2, 1) := by decide +kernel
theorem dX10_begin_76 : decode cX10_begin 76 = .ok (.invokevirtual 189, 3) := by decide +kernel
theorem dX10_begin_79 : decode cX10_begin 79 = .ok (.aload_n 0, 1) := by decide +kernel
theorem dX10_begin_80 : decode cX10_begin 80 = .ok (.aload_n 0, 1) := by decide +kernel
theorem dX10_begin_81 : decode cX10_begin 81 = .ok (.getfield 44, 3) := by decide +kernel
theorem dX10_begin_84 : decode cX10_begin 84 = .ok (.iload_n 1, 1) := by decide +kernel
theorem dX10_begin_85 : decode cX10_begin 85 = .ok (.aload_n 0, 1) := by decide +kernel
theorem dX10_begin_86 : decode cX10_begin 86 = .ok (.getfield 37, 3) := by decide +kernel
theorem dX10_begin_89 : decode cX10_begin 89 = .ok (.getfield 129, 3) := by decide +kernel
theorem dX10_begin_92 : decode cX10_begin 92 = .ok (.iload_n 2, 1) := by decide +kernel
theorem dX10_begin_93 : decode cX10_begin 93 = .ok (.aload_n 0, 1) := by decide +kernel
theorem dX10_begin_94 : decode cX10_begin 94 = .ok (.getfield 114, 3) := by decide +kernel
theorem dX10_begin_97 : decode cX10_begin 97 = .ok (.invokevirtual 193, 3) := by decide +kernel
theorem dX10_begin_100 : decode cX10_begin 100 = .ok (.invokevirtual 120, 3) := by decide +kernel
theorem dX10_begin_103 : decode cX10_begin 103 = .ok (.ireturn, 1) := by decide +kernel
theorem dX10_reach_0 : decode cX10_reach 0 = .ok (.iconst 1, 1) := by decide +kernel
theorem dX10_reach_1 : decode cX10_reach 1 = .ok (.istore 4, 2) := by decide +kernel
theorem dX10_reach_3 : decode cX10_reach 3 = .ok (.aload_n 0, 1) := by decide +kernel
theorem dX10_reach_4 : decode cX10_reach 4 = .ok (.getfield 37, 3) := by decide +kernel
theorem dX10_reach_7 : decode cX10_reach 7 = .ok (.iload_n 1, 1) := by decide +kernel
theorem dX10_reach_8 : decode cX10_reach 8 = .ok (.invokevirtual 180, 3) := by decide +kernel
theorem dX10_reach_11 : decode cX10_reach 11 = .ok (.ifCond .eq 25, 3) := by decide +kernel
theorem dX10_reach_14 : decode cX10_reach 14 = .ok (.iload_n 2, 1) := by decide +kernel
theorem dX10_reach_15 : decode cX10_reach 15 = .ok (.iconst 1, 1) := by decide +kernel
theorem dX10_reach_16 : decode cX10_reach 16 = .ok (.if_icmp .lt 9, 3) := by decide +kernel
theorem dX10_reach_19 : decode cX10_reach 19 = .ok (.iload_n 2, 1) := by decide +kernel
theorem dX10_reach_20 : decode cX10_reach 20 = .ok (.bipush 60, 2) := by decide +kernel
theorem dX10_reach_22 : decode cX10_reach 22 = .ok (.if_icmp .le 7, 3) := by decide +kernel
theorem dX10_reach_25 : decode cX10_reach 25 = .ok (.iconst 2, 1) := by decide +kernel
theorem dX10_reach_26 : decode cX10_reach 26 = .ok (.goto 8, 3) := by decide +kernel
theorem dX10_reach_29 : decode cX10_reach 29 = .ok (.aload_n 0, 1) := by decide +kernel
theorem dX10_reach_30 : decode cX10_reach 30 = .ok (.iload_n 3, 1) := by decide +kernel
theorem dX10_reach_31 : decode cX10_reach 31 = .ok (.invokevirtual 183, 3) := by decide +kernel
theorem dX10_reach_34 : decode cX10_reach 34 = .ok (.istore 4, 2) := by decide +kernel
theorem dX10_reach_36 : decode cX10_reach 36 = .ok (.iload 4, 2) := by decide +kernel
theorem dX10_reach_38 : decode cX10_reach 38 = .ok (.ifCond .eq 10, 3) := by decide +kernel
theorem dX10_reach_41 : decode cX10_reach 41 = .ok (.aload_n 0, 1) := by decide +kernel
theorem dX10_reach_42 : decode cX10_reach 42 = .ok (.iload 4, 2) := by decide +kernel
theorem dX10_reach_44 : decode cX10_reach 44 = .ok (.invokevirtual 88, 3) := by decide +kernel
theorem dX10_reach_47 : decode cX10_reach 47 = .ok (.ireturn, 1) := by decide +kernel
theorem dX10_reach_48 : decode cX10_reach 48 = .ok (.aload_n 0, 1) := by decide +kernel
theorem dX10_reach_49 : decode cX10_reach 49 = .ok (.getfield 44, 3) := by decide +kernel
theorem dX10_reach_52 : decode cX10_reach 52 = .ok (.iload_n 1, 1) := by decide +kernel
theorem dX10_reach_53 : decode cX10_reach 53 = .ok (.invokevirtual 197, 3) := by decide +kernel
theorem dX10_reach_56 : decode cX10_reach 56 = .ok (.istore 5, 2) := by decide +kernel
theorem dX10_reach_58 : decode cX10_reach 58 = .ok (.iload 5, 2) := by decide +kernel
theorem dX10_reach_60 : decode cX10_reach 60 = .ok (.iconst (-1), 1) := by decide +kernel
theorem dX10_reach_61 : decode cX10_reach 61 = .ok (.if_icmp .ne 9, 3) := by decide +kernel
theorem dX10_reach_64 : decode cX10_reach 64 = .ok (.aload_n 0, 1) := by decide +kernel
theorem dX10_reach_65 : decode cX10_reach 65 = .ok (.iconst 5, 1) := by decide +kernel
theorem dX10_reach_66 : decode cX10_reach 66 = .ok (.invokevirtual 88, 3) := by decide +kernel
theorem dX10_reach_69 : decode cX10_reach 69 = .ok (.ireturn, 1) := by decide +kernel
theorem dX10_reach_70 : decode cX10_reach 70 = .ok (.aload_n 0, 1) := by decide +kernel
theorem dX10_reach_71 : decode cX10_reach 71 = .ok (.getfield 30, 3) := by decide +kernel
theorem dX10_reach_74 : decode cX10_reach 74 = .ok (.aload_n 0, 1) := by decide +kernel
theorem dX10_reach_75 : decode cX10_reach 75 = .ok (.getfield 44, 3) := by decide +kernel
theorem dX10_reach_78 : decode cX10_reach 78 = .ok (.getfield 200, 3) := by decide +kernel
theorem dX10_reach_81 : decode cX10_reach 81 = .ok (.iload 5, 2) := by decide +kernel
theorem dX10_reach_83 : decode cX10_reach 83 = .ok (.iaload, 1) := by decide +kernel
theorem dX10_reach_84 : decode cX10_reach 84 = .ok (.aload_n 0, 1) := by decide +kernel
theorem dX10_reach_85 : decode cX10_reach 85 = .ok (.getfield 44, 3) := by decide +kernel
theorem dX10_reach_88 : decode cX10_reach 88 = .ok (.getfield 203, 3) := by decide +kernel
theorem dX10_reach_91 : decode cX10_reach 91 = .ok (.iload 5, 2) := by decide +kernel
theorem dX10_reach_93 : decode cX10_reach 93 = .ok (.iaload, 1) := by decide +kernel
theorem dX10_reach_94 : decode cX10_reach 94 = .ok (.invokevirtual 173, 3) := by decide +kernel
theorem dX10_reach_97 : decode cX10_reach 97 = .ok (.istore 6, 2) := by decide +kernel
theorem dX10_reach_99 : decode cX10_reach 99 = .ok (.iload_n 2, 1) := by decide +kernel
theorem dX10_reach_100 : decode cX10_reach 100 = .ok (.aload_n 0, 1) := by decide +kernel
theorem dX10_reach_101 : decode cX10_reach 101 = .ok (.getfield 44, 3) := by decide +kernel
theorem dX10_reach_104 : decode cX10_reach 104 = .ok (.getfield 206, 3) := by decide +kernel
theorem dX10_reach_107 : decode cX10_reach 107 = .ok (.iload 5, 2) := by decide +kernel
theorem dX10_reach_109 : decode cX10_reach 109 = .ok (.iaload, 1) := by decide +kernel
theorem dX10_reach_110 : decode cX10_reach 110 = .ok (.if_icmp .le 9, 3) := by decide +kernel
theorem dX10_reach_113 : decode cX10_reach 113 = .ok (.iload_n 2, 1) := by decide +kernel
theorem dX10_reach_114 : decode cX10_reach 114 = .ok (.iload 6, 2) := by decide +kernel
theorem dX10_reach_116 : decode cX10_reach 116 = .ok (.if_icmp .le 10, 3) := by decide +kernel
theorem dX10_reach_119 : decode cX10_reach 119 = .ok (.aload_n 0, 1) := by decide +kernel
theorem dX10_reach_120 : decode cX10_reach 120 = .ok (.bipush 10, 2) := by decide +kernel
theorem dX10_reach_122 : decode cX10_reach 122 = .ok (.invokevirtual 88, 3) := by decide +kernel
theorem dX10_reach_125 : decode cX10_reach 125 = .ok (.ireturn, 1) := by decide +kernel
theorem dX10_reach_126 : decode cX10_reach 126 = .ok (.aload_n 0, 1) := by decide +kernel
theorem dX10_reach_127 : decode cX10_reach 127 = .ok (.getfield 44, 3) := by decide +kernel
theorem dX10_reach_130 : decode cX10_reach 130 = .ok (.getfield 206, 3) := by decide +kernel
theorem dX10_reach_133 : decode cX10_reach 133 = .ok (.iload 5, 2) := by decide +kernel
theorem dX10_reach_135 : decode cX10_reach 135 = .ok (.iload_n 2, 1) := by decide +kernel
theorem dX10_reach_136 : decode cX10_reach 136 = .ok (.iastore, 1) := by decide +kernel
theorem dX10_reach_137 : decode cX10_reach 137 = .ok (.iload_n 2, 1) := by decide +kernel
theorem dX10_reach_138 : decode cX10_reach 138 = .ok (.iload 6, 2) := by decide +kernel
theorem dX10_reach_140 : decode cX10_reach 140 = .ok (.if_icmp .ge 9, 3) := by decide +kernel
theorem dX10_reach_143 : decode cX10_reach 143 = .ok (.aload_n 0, 1) := by decide +kernel
theorem dX10_reach_144 : decode cX10_reach 144 = .ok (.iconst 0, 1) := by decide +kernel
theorem dX10_reach_145 : decode cX10_reach 145 = .ok (.invokevirtual 120, 3) := by decide +kernel
theorem dX10_reach_148 : decode cX10_reach 148 = .ok (.ireturn, 1) := by decide +kernel
theorem dX10_reach_149 : decode cX10_reach 149 = .ok (.aload_n 0, 1) := by decide +kernel
theorem dX10_reach_150 : decode cX10_reach 150 = .ok (.getfield 44, 3) := by decide +kernel
theorem dX10_reach_153 : decode cX10_reach 153 = .ok (.iload 5, 2) := by decide +kernel
theorem dX10_reach_155 : decode cX10_reach 155 = .ok (.aload_n 0, 1) := by decide +kernel
theorem dX10_reach_156 : decode cX10_reach 156 = .ok (.getfield 114, 3) := by decide +kernel
theorem dX10_reach_159 : decode cX10_reach 159 = .ok (.iconst 1, 1) := by decide +kernel
theorem dX10_reach_160 : decode cX10_reach 160 = .ok (.invokevirtual 209, 3) := by decide +kernel
theorem dX10_reach_163 : decode cX10_reach 163 = .ok (.aload_n 0, 1) := by decide +kernel
theorem dX10_reach_164 : decode cX10_reach 164 = .ok (.iconst 1, 1) := by decide +kernel
theorem dX10_reach_165 : decode cX10_reach 165 = .ok (.invokevirtual 120, 3) := by decide +kernel
theorem dX10_reach_168 : decode cX10_reach 168 = .ok (.ireturn, 1) := by decide +kernel
theorem dX10_fall_0 : decode cX10_fall 0 = .ok (.aload_n 0, 1) := by decide +kernel
theorem dX10_fall_1 : decode cX10_fall 1 = .ok (.getfield 37, 3) := by decide +kernel
theorem dX10_fall_4 : decode cX10_fall 4 = .ok (.iload_n 1, 1) := by decide +kernel
theorem dX10_fall_5 : decode cX10_fall 5 = .ok (.invokevirtual 180, 3) := by decide +kernel
theorem dX10_fall_8 : decode cX10_fall 8 = .ok (.ifCond .eq 11, 3) := by decide +kernel
theorem dX10_fall_11 : decode cX10_fall 11 = .ok (.aload_n 0, 1) := by decide +kernel
theorem dX10_fall_12 : decode cX10_fall 12 = .ok (.iload_n 2, 1) := by decide +kernel
theorem dX10_fall_13 : decode cX10_fall 13 = .ok (.invokevirtual 183, 3) := by decide +kernel
theorem dX10_fall_16 : decode cX10_fall 16 = .ok (.goto 4, 3) := by decide +kernel
theorem dX10_fall_19 : decode cX10_fall 19 = .ok (.iconst 1, 1) := by decide +kernel
theorem dX10_fall_20 : decode cX10_fall 20 = .ok (.istore 4, 2) := by decide +kernel
theorem dX10_fall_22 : decode cX10_fall 22 = .ok (.iload 4, 2) := by decide +kernel
theorem dX10_fall_24 : decode cX10_fall 24 = .ok (.ifCond .eq 10, 3) := by decide +kernel
theorem dX10_fall_27 : decode cX10_fall 27 = .ok (.aload_n 0, 1) := by decide +kernel
theorem dX10_fall_28 : decode cX10_fall 28 = .ok (.iload 4, 2) := by decide +kernel
theorem dX10_fall_30 : decode cX10_fall 30 = .ok (.invokevirtual 140, 3) := by decide +kernel
theorem dX10_fall_33 : decode cX10_fall 33 = .ok (.ireturn, 1) := by decide +kernel
theorem dX10_fall_34 : decode cX10_fall 34 = .ok (.aload_n 0, 1) := by decide +kernel
theorem dX10_fall_35 : decode cX10_fall 35 = .ok (.getfield 44, 3) := by decide +kernel
theorem dX10_fall_38 : decode cX10_fall 38 = .ok (.iload_n 1, 1) := by decide +kernel
theorem dX10_fall_39 : decode cX10_fall 39 = .ok (.invokevirtual 197, 3) := by decide +kernel
theorem dX10_fall_42 : decode cX10_fall 42 = .ok (.istore 5, 2) := by decide +kernel
theorem dX10_fall_44 : decode cX10_fall 44 = .ok (.iload 5, 2) := by decide +kernel
theorem dX10_fall_46 : decode cX10_fall 46 = .ok (.iconst (-1), 1) := by decide +kernel
theorem dX10_fall_47 : decode cX10_fall 47 = .ok (.if_icmp .ne 9, 3) := by decide +kernel
theorem dX10_fall_50 : decode cX10_fall 50 = .ok (.aload_n 0, 1) := by decide +kernel
theorem dX10_fall_51 : decode cX10_fall 51 = .ok (.iconst 5, 1) := by decide +kernel
theorem dX10_fall_52 : decode cX10_fall 52 = .ok (.invokevirtual 140, 3) := by decide +kernel
theorem dX10_fall_55 : decode cX10_fall 55 = .ok (.ireturn, 1) := by decide +kernel
theorem dX10_fall_56 : decode cX10_fall 56 = .ok (.aload_n 0, 1) := by decide +kernel
theorem dX10_fall_57 : decode cX10_fall 57 = .ok (.getfield 44, 3) := by decide +kernel
theorem dX10_fall_60 : decode cX10_fall 60 = .ok (.iload 5, 2) := by decide +kernel
theorem dX10_fall_62 : decode cX10_fall 62 = .ok (.aload_n 0, 1) := by decide +kernel
theorem dX10_fall_63 : decode cX10_fall 63 = .ok (.getfield 114, 3) := by decide +kernel
theorem dX10_fall_66 : decode cX10_fall 66 = .ok (.iload_n 3, 1) := by decide +kernel
theorem dX10_fall_67 : decode cX10_fall 67 = .ok (.ifCond .eq 7, 3) := by decide +kernel
theorem dX10_fall_70 : decode cX10_fall 70 = .ok (.iconst 4, 1) := by decide +kernel
theorem dX10_fall_71 : decode cX10_fall 71 = .ok (.goto 4, 3) := by decide +kernel
theorem dX10_fall_74 : decode cX10_fall 74 = .ok (.iconst 2, 1) := by decide +kernel
theorem dX10_fall_75 : decode cX10_fall 75 = .ok (.invokevirtual 209, 3) := by decide +kernel
theorem dX10_fall_78 : decode cX10_fall 78 = .ok (.aload_n 0, 1) := by decide +kernel
theorem dX10_fall_79 : decode cX10_fall 79 = .ok (.invokevirtual 160, 3) := by decide +kernel
theorem dX10_fall_82 : decode cX10_fall 82 = .ok (.ireturn, 1) := by decide +kernel
theorem dX10_out_0 : decode cX10_out 0 = .ok (.aload_n 0, 1) := by decide +kernel
theorem dX10_out_1 : decode cX10_out 1 = .ok (.getfield 37, 3) := by decide +kernel
theorem dX10_out_4 : decode cX10_out 4 = .ok (.iload_n 1, 1) := by decide +kernel
theorem dX10_out_5 : decode cX10_out 5 = .ok (.invokevirtual 180, 3) := by decide +kernel
theorem dX10_out_8 : decode cX10_out 8 = .ok (.ifCond .eq 11, 3) := by decide +kernel
theorem dX10_out_11 : decode cX10_out 11 = .ok (.aload_n 0, 1) := by decide +kernel
theorem dX10_out_12 : decode cX10_out 12 = .ok (.iload_n 2, 1) := by decide +kernel
theorem dX10_out_13 : decode cX10_out 13 = .ok (.invokevirtual 183, 3) := by decide +kernel
theorem dX10_out_16 : decode cX10_out 16 = .ok (.goto 4, 3) := by decide +kernel
theorem dX10_out_19 : decode cX10_out 19 = .ok (.iconst 1, 1) := by decide +kernel
theorem dX10_out_20 : decode cX10_out 20 = .ok (.istore 4, 2) := by decide +kernel
theorem dX10_out_22 : decode cX10_out 22 = .ok (.iload 4, 2) := by decide +kernel
theorem dX10_out_24 : decode cX10_out 24 = .ok (.ifCond .eq 10, 3) := by decide +kernel
theorem dX10_out_27 : decode cX10_out 27 = .ok (.aload_n 0, 1) := by decide +kernel
theorem dX10_out_28 : decode cX10_out 28 = .ok (.iload 4, 2) := by decide +kernel
theorem dX10_out_30 : decode cX10_out 30 = .ok (.invokevirtual 140, 3) := by decide +kernel
theorem dX10_out_33 : decode cX10_out 33 = .ok (.ireturn, 1) := by decide +kernel
theorem dX10_out_34 : decode cX10_out 34 = .ok (.aload_n 0, 1) := by decide +kernel
theorem dX10_out_35 : decode cX10_out 35 = .ok (.getfield 58, 3) := by decide +kernel
theorem dX10_out_38 : decode cX10_out 38 = .ok (.iload_n 1, 1) := by decide +kernel
theorem dX10_out_39 : decode cX10_out 39 = .ok (.invokevirtual 212, 3) := by decide +kernel
theorem dX10_out_42 : decode cX10_out 42 = .ok (.iload_n 3, 1) := by decide +kernel
theorem dX10_out_43 : decode cX10_out 43 = .ok (.if_icmp .ne 10, 3) := by decide +kernel
theorem dX10_out_46 : decode cX10_out 46 = .ok (.aload_n 0, 1) := by decide +kernel
theorem dX10_out_47 : decode cX10_out 47 = .ok (.bipush 10, 2) := by decide +kernel
theorem dX10_out_49 : decode cX10_out 49 = .ok (.invokevirtual 140, 3) := by decide +kernel
theorem dX10_out_52 : decode cX10_out 52 = .ok (.ireturn, 1) := by decide +kernel
theorem dX10_out_53 : decode cX10_out 53 = .ok (.iload_n 3, 1) := by decide +kernel
theorem dX10_out_54 : decode cX10_out 54 = .ok (.ifCond .ne 20, 3) := by decide +kernel
theorem dX10_out_57 : decode cX10_out 57 = .ok (.aload_n 0, 1) := by decide +kernel
theorem dX10_out_58 : decode cX10_out 58 = .ok (.getfield 58, 3) := by decide +kernel
theorem dX10_out_61 : decode cX10_out 61 = .ok (.iload_n 1, 1) := by decide +kernel
theorem dX10_out_62 : decode cX10_out 62 = .ok (.aload_n 0, 1) := by decide +kernel
theorem dX10_out_63 : decode cX10_out 63 = .ok (.getfield 114, 3) := by decide +kernel
theorem dX10_out_66 : decode cX10_out 66 = .ok (.invokevirtual 215, 3) := by decide +kernel
theorem dX10_out_69 : decode cX10_out 69 = .ok (.aload_n 0, 1) := by decide +kernel
theorem dX10_out_70 : decode cX10_out 70 = .ok (.invokevirtual 160, 3) := by decide +kernel
theorem dX10_out_73 : decode cX10_out 73 = .ok (.ireturn, 1) := by decide +kernel
theorem dX10_out_74 : decode cX10_out 74 = .ok (.aload_n 0, 1) := by decide +kernel
theorem dX10_out_75 : decode cX10_out 75 = .ok (.getfield 58, 3) := by decide +kernel
theorem dX10_out_78 : decode cX10_out 78 = .ok (.getfield 218, 3) := by decide +kernel
theorem dX10_out_81 : decode cX10_out 81 = .ok (.iload_n 1, 1) := by decide +kernel
theorem dX10_out_82 : decode cX10_out 82 = .ok (.iaload, 1) := by decide +kernel
theorem dX10_out_83 : decode cX10_out 83 = .ok (.bipush 20, 2) := by decide +kernel
theorem dX10_out_85 : decode cX10_out 85 = .ok (.if_icmp .lt 9, 3) := by decide +kernel
theorem dX10_out_88 : decode cX10_out 88 = .ok (.aload_n 0, 1) := by decide +kernel
theorem dX10_out_89 : decode cX10_out 89 = .ok (.iconst 3, 1) := by decide +kernel
theorem dX10_out_90 : decode cX10_out 90 = .ok (.invokevirtual 140, 3) := by decide +kernel
theorem dX10_out_93 : decode cX10_out 93 = .ok (.ireturn, 1) := by decide +kernel
theorem dX10_out_94 : decode cX10_out 94 = .ok (.aload_n 0, 1) := by decide +kernel
theorem dX10_out_95 : decode cX10_out 95 = .ok (.getfield 58, 3) := by decide +kernel
theorem dX10_out_98 : decode cX10_out 98 = .ok (.iload_n 1, 1) := by decide +kernel
theorem dX10_out_99 : decode cX10_out 99 = .ok (.aload_n 0, 1) := by decide +kernel
theorem dX10_out_100 : decode cX10_out 100 = .ok (.getfield 114, 3) := by decide +kernel
theorem dX10_out_103 : decode cX10_out 103 = .ok (.invokevirtual 221, 3) := by decide +kernel
theorem dX10_out_106 : decode cX10_out 106 = .ok (.aload_n 0, 1) := by decide +kernel
theorem dX10_out_107 : decode cX10_out 107 = .ok (.invokevirtual 160, 3) := by decide +kernel
theorem dX10_out_110 : decode cX10_out 110 = .ok (.ireturn, 1) := by decide +kernel
theorem dX10_clock_0 : decode cX10_clock 0 = .ok (.aload_n 0, 1) := by decide +kernel
theorem dX10_clock_1 : decode cX10_clock 1 = .ok (.iload_n 1, 1) := by decide +kernel
theorem dX10_clock_2 : decode cX10_clock 2 = .ok (.invokevirtual 183, 3) := by decide +kernel
theorem dX10_clock_5 : decode cX10_clock 5 = .ok (.istore_n 2, 1) := by decide +kernel
theorem dX10_clock_6 : decode cX10_clock 6 = .ok (.iload_n 2, 1) := by decide +kernel
theorem dX10_clock_7 : decode cX10_clock 7 = .ok (.ifCond .ne 10, 3) := by decide +kernel
theorem dX10_clock_10 : decode cX10_clock 10 = .ok (.aload_n 0, 1) := by decide +kernel
theorem dX10_clock_11 : decode cX10_clock 11 = .ok (.invokevirtual 160, 3) := by decide +kernel
theorem dX10_clock_14 : decode cX10_clock 14 = .ok (.goto 8, 3) := by decide +kernel
theorem dX10_clock_17 : decode cX10_clock 17 = .ok (.aload_n 0, 1) := by decide +kernel
theorem dX10_clock_18 : decode cX10_clock 18 = .ok (.iload_n 2, 1) := by decide +kernel
theorem dX10_clock_19 : decode cX10_clock 19 = .ok (.invokevirtual 140, 3) := by decide +kernel
theorem dX10_clock_22 : decode cX10_clock 22 = .ok (.ireturn, 1) := by decide +kernel
theorem dX10_now_0 : decode cX10_now 0 = .ok (.aload_n 0, 1) := by decide +kernel
theorem dX10_now_1 : decode cX10_now 1 = .ok (.aload_n 0, 1) := by decide +kernel
theorem dX10_now_2 : decode cX10_now 2 = .ok (.getfield 114, 3) := by decide +kernel
theorem dX10_now_5 : decode cX10_now 5 = .ok (.invokevirtual 120, 3) := by decide +kernel
theorem dX10_now_8 : decode cX10_now 8 = .ok (.ireturn, 1) := by decide +kernel
theorem dX10_tried_0 : decode cX10_tried 0 = .ok (.aload_n 0, 1) := by decide +kernel
theorem dX10_tried_1 : decode cX10_tried 1 = .ok (.getfield 44, 3) := by decide +kernel
theorem dX10_tried_4 : decode cX10_tried 4 = .ok (.iload_n 1, 1) := by decide +kernel
theorem dX10_tried_5 : decode cX10_tried 5 = .ok (.invokevirtual 224, 3) := by decide +kernel
theorem dX10_tried_8 : decode cX10_tried 8 = .ok (.ifCond .ne 9, 3) := by decide +kernel
theorem dX10_tried_11 : decode cX10_tried 11 = .ok (.aload_n 0, 1) := by decide +kernel
theorem dX10_tried_12 : decode cX10_tried 12 = .ok (.iconst 1, 1) := by decide +kernel
theorem dX10_tried_13 : decode cX10_tried 13 = .ok (.invokevirtual 88, 3) := by decide +kernel
theorem dX10_tried_16 : decode cX10_tried 16 = .ok (.ireturn, 1) := by decide +kernel
theorem dX10_tried_17 : decode cX10_tried 17 = .ok (.iload_n 2, 1) := by decide +kernel
theorem dX10_tried_18 : decode cX10_tried 18 = .ok (.tableswitch 140 0 6 #[42, 56, 70, 84, 98, 112, 126], 42) := by decide +kernel
theorem dX10_tried_60 : decode cX10_tried 60 = .ok (.aload_n 0, 1) := by decide +kernel
theorem dX10_tried_61 : decode cX10_tried 61 = .ok (.aload_n 0, 1) := by decide +kernel
theorem dX10_tried_62 : decode cX10_tried 62 = .ok (.getfield 44, 3) := by decide +kernel
theorem dX10_tried_65 : decode cX10_tried 65 = .ok (.getfield 225, 3) := by decide +kernel
theorem dX10_tried_68 : decode cX10_tried 68 = .ok (.iload_n 1, 1) := by decide +kernel
theorem dX10_tried_69 : decode cX10_tried 69 = .ok (.iaload, 1) := by decide +kernel
theorem dX10_tried_70 : decode cX10_tried 70 = .ok (.invokevirtual 120, 3) := by decide +kernel
theorem dX10_tried_73 : decode cX10_tried 73 = .ok (.ireturn, 1) := by decide +kernel
theorem dX10_tried_74 : decode cX10_tried 74 = .ok (.aload_n 0, 1) := by decide +kernel
theorem dX10_tried_75 : decode cX10_tried 75 = .ok (.aload_n 0, 1) := by decide +kernel
theorem dX10_tried_76 : decode cX10_tried 76 = .ok (.getfield 44, 3) := by decide +kernel
theorem dX10_tried_79 : decode cX10_tried 79 = .ok (.getfield 200, 3) := by decide +kernel
theorem dX10_tried_82 : decode cX10_tried 82 = .ok (.iload_n 1, 1) := by decide +kernel
theorem dX10_tried_83 : decode cX10_tried 83 = .ok (.iaload, 1) := by decide +kernel
theorem dX10_tried_84 : decode cX10_tried 84 = .ok (.invokevirtual 120, 3) := by decide +kernel
theorem dX10_tried_87 : decode cX10_tried 87 = .ok (.ireturn, 1) := by decide +kernel
theorem dX10_tried_88 : decode cX10_tried 88 = .ok (.aload_n 0, 1) := by decide +kernel
theorem dX10_tried_89 : decode cX10_tried 89 = .ok (.aload_n 0, 1) := by decide +kernel
theorem dX10_tried_90 : decode cX10_tried 90 = .ok (.getfield 44, 3) := by decide +kernel
theorem dX10_tried_93 : decode cX10_tried 93 = .ok (.getfield 203, 3) := by decide +kernel
theorem dX10_tried_96 : decode cX10_tried 96 = .ok (.iload_n 1, 1) := by decide +kernel
theorem dX10_tried_97 : decode cX10_tried 97 = .ok (.iaload, 1) := by decide +kernel
theorem dX10_tried_98 : decode cX10_tried 98 = .ok (.invokevirtual 120, 3) := by decide +kernel
theorem dX10_tried_101 : decode cX10_tried 101 = .ok (.ireturn, 1) := by decide +kernel
theorem dX10_tried_102 : decode cX10_tried 102 = .ok (.aload_n 0, 1) := by decide +kernel
theorem dX10_tried_103 : decode cX10_tried 103 = .ok (.aload_n 0, 1) := by decide +kernel
theorem dX10_tried_104 : decode cX10_tried 104 = .ok (.getfield 44, 3) := by decide +kernel
theorem dX10_tried_107 : decode cX10_tried 107 = .ok (.getfield 228, 3) := by decide +kernel
theorem dX10_tried_110 : decode cX10_tried 110 = .ok (.iload_n 1, 1) := by decide +kernel
theorem dX10_tried_111 : decode cX10_tried 111 = .ok (.iaload, 1) := by decide +kernel
theorem dX10_tried_112 : decode cX10_tried 112 = .ok (.invokevirtual 120, 3) := by decide +kernel
theorem dX10_tried_115 : decode cX10_tried 115 = .ok (.ireturn, 1) := by decide +kernel
theorem dX10_tried_116 : decode cX10_tried 116 = .ok (.aload_n 0, 1) := by decide +kernel
theorem dX10_tried_117 : decode cX10_tried 117 = .ok (.aload_n 0, 1) := by decide +kernel
theorem dX10_tried_118 : decode cX10_tried 118 = .ok (.getfield 44, 3) := by decide +kernel
theorem dX10_tried_121 : decode cX10_tried 121 = .ok (.getfield 231, 3) := by decide +kernel
theorem dX10_tried_124 : decode cX10_tried 124 = .ok (.iload_n 1, 1) := by decide +kernel
theorem dX10_tried_125 : decode cX10_tried 125 = .ok (.iaload, 1) := by decide +kernel
theorem dX10_tried_126 : decode cX10_tried 126 = .ok (.invokevirtual 120, 3) := by decide +kernel
theorem dX10_tried_129 : decode cX10_tried 129 = .ok (.ireturn, 1) := by decide +kernel
theorem dX10_tried_130 : decode cX10_tried 130 = .ok (.aload_n 0, 1) := by decide +kernel
theorem dX10_tried_131 : decode cX10_tried 131 = .ok (.aload_n 0, 1) := by decide +kernel
theorem dX10_tried_132 : decode cX10_tried 132 = .ok (.getfield 44, 3) := by decide +kernel
theorem dX10_tried_135 : decode cX10_tried 135 = .ok (.getfield 206, 3) := by decide +kernel
theorem dX10_tried_138 : decode cX10_tried 138 = .ok (.iload_n 1, 1) := by decide +kernel
theorem dX10_tried_139 : decode cX10_tried 139 = .ok (.iaload, 1) := by decide +kernel
theorem dX10_tried_140 : decode cX10_tried 140 = .ok (.invokevirtual 120, 3) := by decide +kernel
theorem dX10_tried_143 : decode cX10_tried 143 = .ok (.ireturn, 1) := by decide +kernel
theorem dX10_tried_144 : decode cX10_tried 144 = .ok (.aload_n 0, 1) := by decide +kernel
theorem dX10_tried_145 : decode cX10_tried 145 = .ok (.aload_n 0, 1) := by decide +kernel
theorem dX10_tried_146 : decode cX10_tried 146 = .ok (.getfield 44, 3) := by decide +kernel
theorem dX10_tried_149 : decode cX10_tried 149 = .ok (.getfield 234, 3) := by decide +kernel
theorem dX10_tried_152 : decode cX10_tried 152 = .ok (.iload_n 1, 1) := by decide +kernel
theorem dX10_tried_153 : decode cX10_tried 153 = .ok (.iaload, 1) := by decide +kernel
theorem dX10_tried_154 : decode cX10_tried 154 = .ok (.invokevirtual 120, 3) := by decide +kernel
theorem dX10_tried_157 : decode cX10_tried 157 = .ok (.ireturn, 1) := by decide +kernel
theorem dX10_tried_158 : decode cX10_tried 158 = .ok (.aload_n 0, 1) := by decide +kernel
theorem dX10_tried_159 : decode cX10_tried 159 = .ok (.iconst 2, 1) := by decide +kernel
theorem dX10_tried_160 : decode cX10_tried 160 = .ok (.invokevirtual 88, 3) := by decide +kernel
theorem dX10_tried_163 : decode cX10_tried 163 = .ok (.ireturn, 1) := by decide +kernel
theorem dX10_seen_0 : decode cX10_seen 0 = .ok (.aload_n 0, 1) := by decide +kernel
theorem dX10_seen_1 : decode cX10_seen 1 = .ok (.getfield 37, 3) := by decide +kernel
theorem dX10_seen_4 : decode cX10_seen 4 = .ok (.iload_n 1, 1) := by decide +kernel
theorem dX10_seen_5 : decode cX10_seen 5 = .ok (.invokevirtual 180, 3) := by decide +kernel
theorem dX10_seen_8 : decode cX10_seen 8 = .ok (.ifCond .eq 21, 3) := by decide +kernel
theorem dX10_seen_11 : decode cX10_seen 11 = .ok (.aload_n 0, 1) := by decide +kernel
theorem dX10_seen_12 : decode cX10_seen 12 = .ok (.getfield 16, 3) := by decide +kernel
theorem dX10_seen_15 : decode cX10_seen 15 = .ok (.aload_n 0, 1) := by decide +kernel
theorem dX10_seen_16 : decode cX10_seen 16 = .ok (.getfield 37, 3) := by decide +kernel
theorem dX10_seen_19 : decode cX10_seen 19 = .ok (.getfield 129, 3) := by decide +kernel
theorem dX10_seen_22 : decode cX10_seen 22 = .ok (.iload_n 2, 1) := by decide +kernel
theorem dX10_seen_23 : decode cX10_seen 23 = .ok (.invokevirtual 136, 3) := by decide +kernel
theorem dX10_seen_26 : decode cX10_seen 26 = .ok (.ifCond .ne 9, 3) := by decide +kernel
theorem dX10_seen_29 : decode cX10_seen 29 = .ok (.aload_n 0, 1) := by decide +kernel
theorem dX10_seen_30 : decode cX10_seen 30 = .ok (.iconst 1, 1) := by decide +kernel
theorem dX10_seen_31 : decode cX10_seen 31 = .ok (.invokevirtual 88, 3) := by decide +kernel
theorem dX10_seen_34 : decode cX10_seen 34 = .ok (.ireturn, 1) := by decide +kernel
theorem dX10_seen_35 : decode cX10_seen 35 = .ok (.aload_n 0, 1) := by decide +kernel
theorem dX10_seen_36 : decode cX10_seen 36 = .ok (.aload_n 0, 1) := by decide +kernel
theorem dX10_seen_37 : decode cX10_seen 37 = .ok (.iload_n 1, 1) := by decide +kernel
theorem dX10_seen_38 : decode cX10_seen 38 = .ok (.iload_n 2, 1) := by decide +kernel
theorem dX10_seen_39 : decode cX10_seen 39 = .ok (.invokevirtual 237, 3) := by decide +kernel
theorem dX10_seen_42 : decode cX10_seen 42 = .ok (.ifCond .eq 7, 3) := by decide +kernel
theorem dX10_seen_45 : decode cX10_seen 45 = .ok (.iconst 1, 1) := by decide +kernel
theorem dX10_seen_46 : decode cX10_seen 46 = .ok (.goto 4, 3) := by decide +kernel
theorem dX10_seen_49 : decode cX10_seen 49 = .ok (.iconst 0, 1) := by decide +kernel
theorem dX10_seen_50 : decode cX10_seen 50 = .ok (.invokevirtual 120, 3) := by decide +kernel
theorem dX10_seen_53 : decode cX10_seen 53 = .ok (.ireturn, 1) := by decide +kernel
theorem dX10_ready_0 : decode cX10_ready 0 = .ok (.aload_n 0, 1) := by decide +kernel
theorem dX10_ready_1 : decode cX10_ready 1 = .ok (.getfield 37, 3) := by decide +kernel
theorem dX10_ready_4 : decode cX10_ready 4 = .ok (.iload_n 1, 1) := by decide +kernel
theorem dX10_ready_5 : decode cX10_ready 5 = .ok (.invokevirtual 180, 3) := by decide +kernel
theorem dX10_ready_8 : decode cX10_ready 8 = .ok (.ifCond .ne 9, 3) := by decide +kernel
theorem dX10_ready_11 : decode cX10_ready 11 = .ok (.aload_n 0, 1) := by decide +kernel
theorem dX10_ready_12 : decode cX10_ready 12 = .ok (.iconst 1, 1) := by decide +kernel
theorem dX10_ready_13 : decode cX10_ready 13 = .ok (.invokevirtual 88, 3) := by decide +kernel
theorem dX10_ready_16 : decode cX10_ready 16 = .ok (.ireturn, 1) := by decide +kernel
theorem dX10_ready_17 : decode cX10_ready 17 = .ok (.aload_n 0, 1) := by decide +kernel
theorem dX10_ready_18 : decode cX10_ready 18 = .ok (.getfield 44, 3) := by decide +kernel
theorem dX10_ready_21 : decode cX10_ready 21 = .ok (.iload_n 1, 1) := by decide +kernel
theorem dX10_ready_22 : decode cX10_ready 22 = .ok (.invokevirtual 197, 3) := by decide +kernel
theorem dX10_ready_25 : decode cX10_ready 25 = .ok (.iconst (-1), 1) := by decide +kernel
theorem dX10_ready_26 : decode cX10_ready 26 = .ok (.if_icmp .eq 9, 3) := by decide +kernel
theorem dX10_ready_29 : decode cX10_ready 29 = .ok (.aload_n 0, 1) := by decide +kernel
theorem dX10_ready_30 : decode cX10_ready 30 = .ok (.iconst 5, 1) := by decide +kernel
theorem dX10_ready_31 : decode cX10_ready 31 = .ok (.invokevirtual 88, 3) := by decide +kernel
theorem dX10_ready_34 : decode cX10_ready 34 = .ok (.ireturn, 1) := by decide +kernel
theorem dX10_ready_35 : decode cX10_ready 35 = .ok (.aload_n 0, 1) := by decide +kernel
theorem dX10_ready_36 : decode cX10_ready 36 = .ok (.aload_n 0, 1) := by decide +kernel
theorem dX10_ready_37 : decode cX10_ready 37 = .ok (.getfield 114, 3) := by decide +kernel
theorem dX10_ready_40 : decode cX10_ready 40 = .ok (.aload_n 0, 1) := by decide +kernel
theorem dX10_ready_41 : decode cX10_ready 41 = .ok (.iload_n 1, 1) := by decide +kernel
theorem dX10_ready_42 : decode cX10_ready 42 = .ok (.invokevirtual 240, 3) := by decide +kernel
theorem dX10_ready_45 : decode cX10_ready 45 = .ok (.invokestatic 243, 3) := by decide +kernel
theorem dX10_ready_48 : decode cX10_ready 48 = .ok (.invokevirtual 120, 3) := by decide +kernel
theorem dX10_ready_51 : decode cX10_ready 51 = .ok (.ireturn, 1) := by decide +kernel
theorem dX10_appeal_0 : decode cX10_appeal 0 = .ok (.aload_n 0, 1) := by decide +kernel
theorem dX10_appeal_1 : decode cX10_appeal 1 = .ok (.getfield 44, 3) := by decide +kernel
theorem dX10_appeal_4 : decode cX10_appeal 4 = .ok (.iload_n 1, 1) := by decide +kernel
theorem dX10_appeal_5 : decode cX10_appeal 5 = .ok (.invokevirtual 224, 3) := by decide +kernel
theorem dX10_appeal_8 : decode cX10_appeal 8 = .ok (.ifCond .ne 9, 3) := by decide +kernel
theorem dX10_appeal_11 : decode cX10_appeal 11 = .ok (.aload_n 0, 1) := by decide +kernel
theorem dX10_appeal_12 : decode cX10_appeal 12 = .ok (.iconst 1, 1) := by decide +kernel
theorem dX10_appeal_13 : decode cX10_appeal 13 = .ok (.invokevirtual 140, 3) := by decide +kernel
theorem dX10_appeal_16 : decode cX10_appeal 16 = .ok (.ireturn, 1) := by decide +kernel
theorem dX10_appeal_17 : decode cX10_appeal 17 = .ok (.aload_n 0, 1) := by decide +kernel
theorem dX10_appeal_18 : decode cX10_appeal 18 = .ok (.getfield 30, 3) := by decide +kernel
theorem dX10_appeal_21 : decode cX10_appeal 21 = .ok (.aload_n 0, 1) := by decide +kernel
theorem dX10_appeal_22 : decode cX10_appeal 22 = .ok (.getfield 44, 3) := by decide +kernel
theorem dX10_appeal_25 : decode cX10_appeal 25 = .ok (.getfield 200, 3) := by decide +kernel
theorem dX10_appeal_28 : decode cX10_appeal 28 = .ok (.iload_n 1, 1) := by decide +kernel
theorem dX10_appeal_29 : decode cX10_appeal 29 = .ok (.iaload, 1) := by decide +kernel
theorem dX10_appeal_30 : decode cX10_appeal 30 = .ok (.aload_n 0, 1) := by decide +kernel
theorem dX10_appeal_31 : decode cX10_appeal 31 = .ok (.getfield 44, 3) := by decide +kernel
theorem dX10_appeal_34 : decode cX10_appeal 34 = .ok (.getfield 203, 3) := by decide +kernel
theorem dX10_appeal_37 : decode cX10_appeal 37 = .ok (.iload_n 1, 1) := by decide +kernel
theorem dX10_appeal_38 : decode cX10_appeal 38 = .ok (.iaload, 1) := by decide +kernel
theorem dX10_appeal_39 : decode cX10_appeal 39 = .ok (.invokevirtual 173, 3) := by decide +kernel
theorem dX10_appeal_42 : decode cX10_appeal 42 = .ok (.istore 4, 2) := by decide +kernel
theorem dX10_appeal_44 : decode cX10_appeal 44 = .ok (.iload_n 2, 1) := by decide +kernel
theorem dX10_appeal_45 : decode cX10_appeal 45 = .ok (.ifCond .lt 16, 3) := by decide +kernel
theorem dX10_appeal_48 : decode cX10_appeal 48 = .ok (.iload_n 2, 1) := by decide +kernel
theorem dX10_appeal_49 : decode cX10_appeal 49 = .ok (.iload 4, 2) := by decide +kernel
theorem dX10_appeal_51 : decode cX10_appeal 51 = .ok (.if_icmp .gt 10, 3) := by decide +kernel
theorem dX10_appeal_54 : decode cX10_appeal 54 = .ok (.iload_n 3, 1) := by decide +kernel
theorem dX10_appeal_55 : decode cX10_appeal 55 = .ok (.invokestatic 248, 3) := by decide +kernel
theorem dX10_appeal_58 : decode cX10_appeal 58 = .ok (.ifCond .ne 9, 3) := by decide +kernel
theorem dX10_appeal_61 : decode cX10_appeal 61 = .ok (.aload_n 0, 1) := by decide +kernel
theorem dX10_appeal_62 : decode cX10_appeal 62 = .ok (.iconst 2, 1) := by decide +kernel
theorem dX10_appeal_63 : decode cX10_appeal 63 = .ok (.invokevirtual 140, 3) := by decide +kernel
theorem dX10_appeal_66 : decode cX10_appeal 66 = .ok (.ireturn, 1) := by decide +kernel
theorem dX10_appeal_67 : decode cX10_appeal 67 = .ok (.aload_n 0, 1) := by decide +kernel
theorem dX10_appeal_68 : decode cX10_appeal 68 = .ok (.getfield 44, 3) := by decide +kernel
theorem dX10_appeal_71 : decode cX10_appeal 71 = .ok (.getfield 234, 3) := by decide +kernel
theorem dX10_appeal_74 : decode cX10_appeal 74 = .ok (.iload_n 1, 1) := by decide +kernel
theorem dX10_appeal_75 : decode cX10_appeal 75 = .ok (.iaload, 1) := by decide +kernel
theorem dX10_appeal_76 : decode cX10_appeal 76 = .ok (.ifCond .eq 16, 3) := by decide +kernel
theorem dX10_appeal_79 : decode cX10_appeal 79 = .ok (.aload_n 0, 1) := by decide +kernel
theorem dX10_appeal_80 : decode cX10_appeal 80 = .ok (.getfield 44, 3) := by decide +kernel
theorem dX10_appeal_83 : decode cX10_appeal 83 = .ok (.getfield 234, 3) := by decide +kernel
theorem dX10_appeal_86 : decode cX10_appeal 86 = .ok (.iload_n 1, 1) := by decide +kernel
theorem dX10_appeal_87 : decode cX10_appeal 87 = .ok (.iaload, 1) := by decide +kernel
theorem dX10_appeal_88 : decode cX10_appeal 88 = .ok (.iconst 4, 1) := by decide +kernel
theorem dX10_appeal_89 : decode cX10_appeal 89 = .ok (.if_icmp .ne 10, 3) := by decide +kernel
theorem dX10_appeal_92 : decode cX10_appeal 92 = .ok (.aload_n 0, 1) := by decide +kernel
theorem dX10_appeal_93 : decode cX10_appeal 93 = .ok (.bipush 10, 2) := by decide +kernel
theorem dX10_appeal_95 : decode cX10_appeal 95 = .ok (.invokevirtual 140, 3) := by decide +kernel
theorem dX10_appeal_98 : decode cX10_appeal 98 = .ok (.ireturn, 1) := by decide +kernel
theorem dX10_appeal_99 : decode cX10_appeal 99 = .ok (.aload_n 0, 1) := by decide +kernel
theorem dX10_appeal_100 : decode cX10_appeal 100 = .ok (.getfield 51, 3) := by decide +kernel
theorem dX10_appeal_103 : decode cX10_appeal 103 = .ok (.getfield 251, 3) := by decide +kernel
theorem dX10_appeal_106 : decode cX10_appeal 106 = .ok (.bipush 40, 2) := by decide +kernel
theorem dX10_appeal_108 : decode cX10_appeal 108 = .ok (.if_icmp .lt 9, 3) := by decide +kernel
theorem dX10_appeal_111 : decode cX10_appeal 111 = .ok (.aload_n 0, 1) := by decide +kernel
theorem dX10_appeal_112 : decode cX10_appeal 112 = .ok (.iconst 3, 1) := by decide +kernel
theorem dX10_appeal_113 : decode cX10_appeal 113 = .ok (.invokevirtual 140, 3) := by decide +kernel
theorem dX10_appeal_116 : decode cX10_appeal 116 = .ok (.ireturn, 1) := by decide +kernel
theorem dX10_appeal_117 : decode cX10_appeal 117 = .ok (.aload_n 0, 1) := by decide +kernel
theorem dX10_appeal_118 : decode cX10_appeal 118 = .ok (.getfield 51, 3) := by decide +kernel
theorem dX10_appeal_121 : decode cX10_appeal 121 = .ok (.iload_n 1, 1) := by decide +kernel
theorem dX10_appeal_122 : decode cX10_appeal 122 = .ok (.iload_n 2, 1) := by decide +kernel
theorem dX10_appeal_123 : decode cX10_appeal 123 = .ok (.iload_n 3, 1) := by decide +kernel
theorem dX10_appeal_124 : decode cX10_appeal 124 = .ok (.invokevirtual 252, 3) := by decide +kernel
theorem dX10_appeal_127 : decode cX10_appeal 127 = .ok (.aload_n 0, 1) := by decide +kernel
theorem dX10_appeal_128 : decode cX10_appeal 128 = .ok (.invokevirtual 160, 3) := by decide +kernel
theorem dX10_appeal_131 : decode cX10_appeal 131 = .ok (.ireturn, 1) := by decide +kernel
theorem dX10_of_0 : decode cX10_of 0 = .ok (.aload_n 0, 1) := by decide +kernel
theorem dX10_of_1 : decode cX10_of 1 = .ok (.getfield 16, 3) := by decide +kernel
theorem dX10_of_4 : decode cX10_of 4 = .ok (.iload_n 1, 1) := by decide +kernel
theorem dX10_of_5 : decode cX10_of 5 = .ok (.iload_n 2, 1) := by decide +kernel
theorem dX10_of_6 : decode cX10_of 6 = .ok (.invokevirtual 136, 3) := by decide +kernel
theorem dX10_of_9 : decode cX10_of 9 = .ok (.ifCond .eq 14, 3) := by decide +kernel
theorem dX10_of_12 : decode cX10_of 12 = .ok (.aload_n 0, 1) := by decide +kernel
theorem dX10_of_13 : decode cX10_of 13 = .ok (.getfield 37, 3) := by decide +kernel
theorem dX10_of_16 : decode cX10_of 16 = .ok (.iload_n 3, 1) := by decide +kernel
theorem dX10_of_17 : decode cX10_of 17 = .ok (.invokevirtual 180, 3) := by decide +kernel
theorem dX10_of_20 : decode cX10_of 20 = .ok (.ifCond .ne 9, 3) := by decide +kernel
theorem dX10_of_23 : decode cX10_of 23 = .ok (.aload_n 0, 1) := by decide +kernel
theorem dX10_of_24 : decode cX10_of 24 = .ok (.iconst 1, 1) := by decide +kernel
theorem dX10_of_25 : decode cX10_of 25 = .ok (.invokevirtual 88, 3) := by decide +kernel
theorem dX10_of_28 : decode cX10_of 28 = .ok (.ireturn, 1) := by decide +kernel
theorem dX10_of_29 : decode cX10_of 29 = .ok (.iload 4, 2) := by decide +kernel
theorem dX10_of_31 : decode cX10_of 31 = .ok (.invokestatic 248, 3) := by decide +kernel
theorem dX10_of_34 : decode cX10_of 34 = .ok (.ifCond .eq 15, 3) := by decide +kernel
theorem dX10_of_37 : decode cX10_of 37 = .ok (.iload 5, 2) := by decide +kernel
theorem dX10_of_39 : decode cX10_of 39 = .ok (.ifCond .lt 10, 3) := by decide +kernel
theorem dX10_of_42 : decode cX10_of 42 = .ok (.iload 5, 2) := by decide +kernel
theorem dX10_of_44 : decode cX10_of 44 = .ok (.bipush 6, 2) := by decide +kernel
theorem dX10_of_46 : decode cX10_of 46 = .ok (.if_icmp .le 9, 3) := by decide +kernel
theorem dX10_of_49 : decode cX10_of 49 = .ok (.aload_n 0, 1) := by decide +kernel
theorem dX10_of_50 : decode cX10_of 50 = .ok (.iconst 2, 1) := by decide +kernel
theorem dX10_of_51 : decode cX10_of 51 = .ok (.invokevirtual 88, 3) := by decide +kernel
theorem dX10_of_54 : decode cX10_of 54 = .ok (.ireturn, 1) := by decide +kernel
theorem dX10_of_55 : decode cX10_of 55 = .ok (.aload_n 0, 1) := by decide +kernel
theorem dX10_of_56 : decode cX10_of 56 = .ok (.getfield 67, 3) := by decide +kernel
theorem dX10_of_59 : decode cX10_of 59 = .ok (.iload 4, 2) := by decide +kernel
theorem dX10_of_61 : decode cX10_of 61 = .ok (.invokevirtual 255, 3) := by decide +kernel
theorem dX10_of_64 : decode cX10_of 64 = .ok (.aload_n 0, 1) := by decide +kernel
theorem dX10_of_65 : decode cX10_of 65 = .ok (.getfield 67, 3) := by decide +kernel
theorem dX10_of_68 : decode cX10_of 68 = .ok (.iload_n 1, 1) := by decide +kernel
theorem dX10_of_69 : decode cX10_of 69 = .ok (.iload_n 3, 1) := by decide +kernel
theorem dX10_of_70 : decode cX10_of 70 = .ok (.iload_n 2, 1) := by decide +kernel
theorem dX10_of_71 : decode cX10_of 71 = .ok (.invokevirtual 258, 3) := by decide +kernel
theorem dX10_of_74 : decode cX10_of 74 = .ok (.aload_n 0, 1) := by decide +kernel
theorem dX10_of_75 : decode cX10_of 75 = .ok (.iload 5, 2) := by decide +kernel
theorem dX10_of_77 : decode cX10_of 77 = .ok (.bipush 6, 2) := by decide +kernel
theorem dX10_of_79 : decode cX10_of 79 = .ok (.if_icmp .ne 20, 3) := by decide +kernel
theorem dX10_of_82 : decode cX10_of 82 = .ok (.aload_n 0, 1) := by decide +kernel
theorem dX10_of_83 : decode cX10_of 83 = .ok (.getfield 16, 3) := by decide +kernel
theorem dX10_of_86 : decode cX10_of 86 = .ok (.aload_n 0, 1) := by decide +kernel
theorem dX10_of_87 : decode cX10_of 87 = .ok (.getfield 67, 3) := by decide +kernel
theorem dX10_of_90 : decode cX10_of 90 = .ok (.getfield 261, 3) := by decide +kernel
theorem dX10_of_93 : decode cX10_of 93 = .ok (.invokevirtual 264, 3) := by decide +kernel
theorem dX10_of_96 : decode cX10_of 96 = .ok (.goto 13, 3) := by decide +kernel
theorem dX10_of_99 : decode cX10_of 99 = .ok (.aload_n 0, 1) := by decide +kernel
theorem dX10_of_100 : decode cX10_of 100 = .ok (.getfield 67, 3) := by decide +kernel
theorem dX10_of_103 : decode cX10_of 103 = .ok (.getfield 261, 3) := by decide +kernel
theorem dX10_of_106 : decode cX10_of 106 = .ok (.iload 5, 2) := by decide +kernel
theorem dX10_of_108 : decode cX10_of 108 = .ok (.iaload, 1) := by decide +kernel
theorem dX10_of_109 : decode cX10_of 109 = .ok (.invokevirtual 120, 3) := by decide +kernel
theorem dX10_of_112 : decode cX10_of 112 = .ok (.ireturn, 1) := by decide +kernel
theorem dX10_key_0 : decode cX10_key 0 = .ok (.aload_n 0, 1) := by decide +kernel
theorem dX10_key_1 : decode cX10_key 1 = .ok (.getfield 16, 3) := by decide +kernel
theorem dX10_key_4 : decode cX10_key 4 = .ok (.iload_n 1, 1) := by decide +kernel
theorem dX10_key_5 : decode cX10_key 5 = .ok (.invokevirtual 164, 3) := by decide +kernel
theorem dX10_key_8 : decode cX10_key 8 = .ok (.ifCond .eq 32, 3) := by decide +kernel
theorem dX10_key_11 : decode cX10_key 11 = .ok (.aload_n 0, 1) := by decide +kernel
theorem dX10_key_12 : decode cX10_key 12 = .ok (.getfield 37, 3) := by decide +kernel
theorem dX10_key_15 : decode cX10_key 15 = .ok (.iload_n 1, 1) := by decide +kernel
theorem dX10_key_16 : decode cX10_key 16 = .ok (.iload_n 2, 1) := by decide +kernel
theorem dX10_key_17 : decode cX10_key 17 = .ok (.invokevirtual 268, 3) := by decide +kernel
theorem dX10_key_20 : decode cX10_key 20 = .ok (.ifCond .eq 20, 3) := by decide +kernel
theorem dX10_key_23 : decode cX10_key 23 = .ok (.iload 4, 2) := by decide +kernel
theorem dX10_key_25 : decode cX10_key 25 = .ok (.ifCond .lt 15, 3) := by decide +kernel
theorem dX10_key_28 : decode cX10_key 28 = .ok (.iload 4, 2) := by decide +kernel
theorem dX10_key_30 : decode cX10_key 30 = .ok (.aload_n 0, 1) := by decide +kernel
theorem dX10_key_31 : decode cX10_key 31 = .ok (.getfield 16, 3) := by decide +kernel
theorem dX10_key_34 : decode cX10_key 34 = .ok (.getfield 271, 3) := by decide +kernel
theorem dX10_key_37 : decode cX10_key 37 = .ok (.if_icmp .lt 10, 3) := by decide +kernel
theorem dX10_key_40 : decode cX10_key 40 = .ok (.aload_n 0, 1) := by decide +kernel
theorem dX10_key_41 : decode cX10_key 41 = .ok (.iconst 1, 1) := by decide +kernel
theorem dX10_key_42 : decode cX10_key 42 = .ok (.invokevirtual 88, 3) := by decide +kernel
theorem dX10_key_45 : decode cX10_key 45 = .ok (.i2l, 1) := by decide +kernel
theorem dX10_key_46 : decode cX10_key 46 = .ok (.lreturn, 1) := by decide +kernel
theorem dX10_key_47 : decode cX10_key 47 = .ok (.iload_n 3, 1) := by decide +kernel
theorem dX10_key_48 : decode cX10_key 48 = .ok (.invokestatic 248, 3) := by decide +kernel
theorem dX10_key_51 : decode cX10_key 51 = .ok (.ifCond .ne 10, 3) := by decide +kernel
theorem dX10_key_54 : decode cX10_key 54 = .ok (.aload_n 0, 1) := by decide +kernel
theorem dX10_key_55 : decode cX10_key 55 = .ok (.iconst 2, 1) := by decide +kernel
theorem dX10_key_56 : decode cX10_key 56 = .ok (.invokevirtual 88, 3) := by decide +kernel
theorem dX10_key_59 : decode cX10_key 59 = .ok (.i2l, 1) := by decide +kernel
theorem dX10_key_60 : decode cX10_key 60 = .ok (.lreturn, 1) := by decide +kernel
theorem dX10_key_61 : decode cX10_key 61 = .ok (.aload_n 0, 1) := by decide +kernel
theorem dX10_key_62 : decode cX10_key 62 = .ok (.getfield 67, 3) := by decide +kernel
theorem dX10_key_65 : decode cX10_key 65 = .ok (.iload_n 3, 1) := by decide +kernel
theorem dX10_key_66 : decode cX10_key 66 = .ok (.invokevirtual 255, 3) := by decide +kernel
theorem dX10_key_69 : decode cX10_key 69 = .ok (.aload_n 0, 1) := by decide +kernel
theorem dX10_key_70 : decode cX10_key 70 = .ok (.getfield 67, 3) := by decide +kernel
theorem dX10_key_73 : decode cX10_key 73 = .ok (.iload_n 1, 1) := by decide +kernel
theorem dX10_key_74 : decode cX10_key 74 = .ok (.iload_n 2, 1) := by decide +kernel
theorem dX10_key_75 : decode cX10_key 75 = .ok (.invokevirtual 274, 3) := by decide +kernel
theorem dX10_key_78 : decode cX10_key 78 = .ok (.aload_n 0, 1) := by decide +kernel
theorem dX10_key_79 : decode cX10_key 79 = .ok (.iconst 0, 1) := by decide +kernel
theorem dX10_key_80 : decode cX10_key 80 = .ok (.putfield 71, 3) := by decide +kernel
theorem dX10_key_83 : decode cX10_key 83 = .ok (.aload_n 0, 1) := by decide +kernel
theorem dX10_key_84 : decode cX10_key 84 = .ok (.getfield 67, 3) := by decide +kernel
theorem dX10_key_87 : decode cX10_key 87 = .ok (.iload_n 1, 1) := by decide +kernel
theorem dX10_key_88 : decode cX10_key 88 = .ok (.iload_n 2, 1) := by decide +kernel
theorem dX10_key_89 : decode cX10_key 89 = .ok (.iload 4, 2) := by decide +kernel
theorem dX10_key_91 : decode cX10_key 91 = .ok (.invokevirtual 277, 3) := by decide +kernel
theorem dX10_key_94 : decode cX10_key 94 = .ok (.lreturn, 1) := by decide +kernel
theorem dX10_rank_0 : decode cX10_rank 0 = .ok (.aload_n 0, 1) := by decide +kernel
theorem dX10_rank_1 : decode cX10_rank 1 = .ok (.getfield 16, 3) := by decide +kernel
theorem dX10_rank_4 : decode cX10_rank 4 = .ok (.iload_n 1, 1) := by decide +kernel
theorem dX10_rank_5 : decode cX10_rank 5 = .ok (.invokevirtual 164, 3) := by decide +kernel
theorem dX10_rank_8 : decode cX10_rank 8 = .ok (.ifCond .eq 15, 3) := by decide +kernel
theorem dX10_rank_11 : decode cX10_rank 11 = .ok (.aload_n 0, 1) := by decide +kernel
theorem dX10_rank_12 : decode cX10_rank 12 = .ok (.getfield 37, 3) := by decide +kernel
theorem dX10_rank_15 : decode cX10_rank 15 = .ok (.iload_n 1, 1) := by decide +kernel
theorem dX10_rank_16 : decode cX10_rank 16 = .ok (.iload_n 2, 1) := by decide +kernel
theorem dX10_rank_17 : decode cX10_rank 17 = .ok (.invokevirtual 268, 3) := by decide +kernel
theorem dX10_rank_20 : decode cX10_rank 20 = .ok (.ifCond .ne 9, 3) := by decide +kernel
theorem dX10_rank_23 : decode cX10_rank 23 = .ok (.aload_n 0, 1) := by decide +kernel
theorem dX10_rank_24 : decode cX10_rank 24 = .ok (.iconst 1, 1) := by decide +kernel
theorem dX10_rank_25 : decode cX10_rank 25 = .ok (.invokevirtual 88, 3) := by decide +kernel
theorem dX10_rank_28 : decode cX10_rank 28 = .ok (.ireturn, 1) := by decide +kernel
theorem dX10_rank_29 : decode cX10_rank 29 = .ok (.iload_n 3, 1) := by decide +kernel
theorem dX10_rank_30 : decode cX10_rank 30 = .ok (.invokestatic 248, 3) := by decide +kernel
theorem dX10_rank_33 : decode cX10_rank 33 = .ok (.ifCond .ne 9, 3) := by decide +kernel
theorem dX10_rank_36 : decode cX10_rank 36 = .ok (.aload_n 0, 1) := by decide +kernel
theorem dX10_rank_37 : decode cX10_rank 37 = .ok (.iconst 2, 1) := by decide +kernel
theorem dX10_rank_38 : decode cX10_rank 38 = .ok (.invokevirtual 88, 3) := by decide +kernel
theorem dX10_rank_41 : decode cX10_rank 41 = .ok (.ireturn, 1) := by decide +kernel
theorem dX10_rank_42 : decode cX10_rank 42 = .ok (.aload_n 0, 1) := by decide +kernel
theorem dX10_rank_43 : decode cX10_rank 43 = .ok (.getfield 67, 3) := by decide +kernel
theorem dX10_rank_46 : decode cX10_rank 46 = .ok (.iload_n 1, 1) := by decide +kernel
theorem dX10_rank_47 : decode cX10_rank 47 = .ok (.iload_n 3, 1) := by decide +kernel
theorem dX10_rank_48 : decode cX10_rank 48 = .ok (.invokevirtual 281, 3) := by decide +kernel
theorem dX10_rank_51 : decode cX10_rank 51 = .ok (.aload_n 0, 1) := by decide +kernel
theorem dX10_rank_52 : decode cX10_rank 52 = .ok (.aload_n 0, 1) := by decide +kernel
theorem dX10_rank_53 : decode cX10_rank 53 = .ok (.getfield 67, 3) := by decide +kernel
theorem dX10_rank_56 : decode cX10_rank 56 = .ok (.getfield 284, 3) := by decide +kernel
theorem dX10_rank_59 : decode cX10_rank 59 = .ok (.iload_n 2, 1) := by decide +kernel
theorem dX10_rank_60 : decode cX10_rank 60 = .ok (.iaload, 1) := by decide +kernel
theorem dX10_rank_61 : decode cX10_rank 61 = .ok (.invokevirtual 120, 3) := by decide +kernel
theorem dX10_rank_64 : decode cX10_rank 64 = .ok (.ireturn, 1) := by decide +kernel
theorem dX10_advance_0 : decode cX10_advance 0 = .ok (.iload_n 1, 1) := by decide +kernel
theorem dX10_advance_1 : decode cX10_advance 1 = .ok (.iconst 1, 1) := by decide +kernel
theorem dX10_advance_2 : decode cX10_advance 2 = .ok (.if_icmp .lt 16, 3) := by decide +kernel
theorem dX10_advance_5 : decode cX10_advance 5 = .ok (.iload_n 1, 1) := by decide +kernel
theorem dX10_advance_6 : decode cX10_advance 6 = .ok (.bipush 16, 2) := by decide +kernel
theorem dX10_advance_8 : decode cX10_advance 8 = .ok (.if_icmp .gt 10, 3) := by decide +kernel
theorem dX10_advance_11 : decode cX10_advance 11 = .ok (.iload_n 2, 1) := by decide +kernel
theorem dX10_advance_12 : decode cX10_advance 12 = .ok (.invokestatic 248, 3) := by decide +kernel
theorem dX10_advance_15 : decode cX10_advance 15 = .ok (.ifCond .ne 9, 3) := by decide +kernel
theorem dX10_advance_18 : decode cX10_advance 18 = .ok (.aload_n 0, 1) := by decide +kernel
theorem dX10_advance_19 : decode cX10_advance 19 = .ok (.iconst 2, 1) := by decide +kernel
theorem dX10_advance_20 : decode cX10_advance 20 = .ok (.invokevirtual 88, 3) := by decide +kernel
theorem dX10_advance_23 : decode cX10_advance 23 = .ok (.ireturn, 1) := by decide +kernel
theorem dX10_advance_24 : decode cX10_advance 24 = .ok (.aload_n 0, 1) := by decide +kernel
theorem dX10_advance_25 : decode cX10_advance 25 = .ok (.getfield 44, 3) := by decide +kernel
theorem dX10_advance_28 : decode cX10_advance 28 = .ok (.invokevirtual 287, 3) := by decide +kernel
theorem dX10_advance_31 : decode cX10_advance 31 = .ok (.ifCond .eq 9, 3) := by decide +kernel
theorem dX10_advance_34 : decode cX10_advance 34 = .ok (.aload_n 0, 1) := by decide +kernel
theorem dX10_advance_35 : decode cX10_advance 35 = .ok (.iconst 5, 1) := by decide +kernel
theorem dX10_advance_36 : decode cX10_advance 36 = .ok (.invokevirtual 88, 3) := by decide +kernel
theorem dX10_advance_39 : decode cX10_advance 39 = .ok (.ireturn, 1) := by decide +kernel
theorem dX10_advance_40 : decode cX10_advance 40 = .ok (.aload_n 0, 1) := by decide +kernel
theorem dX10_advance_41 : decode cX10_advance 41 = .ok (.getfield 37, 3) := by decide +kernel
theorem dX10_advance_44 : decode cX10_advance 44 = .ok (.getfield 123, 3) := by decide +kernel
theorem dX10_advance_47 : decode cX10_advance 47 = .ok (.ifCond .eq 22, 3) := by decide +kernel
theorem dX10_advance_50 : decode cX10_advance 50 = .ok (.aload_n 0, 1) := by decide +kernel
theorem dX10_advance_51 : decode cX10_advance 51 = .ok (.getfield 37, 3) := by decide +kernel
theorem dX10_advance_54 : decode cX10_advance 54 = .ok (.getfield 129, 3) := by decide +kernel
theorem dX10_advance_57 : decode cX10_advance 57 = .ok (.iconst 1, 1) := by decide +kernel
theorem dX10_advance_58 : decode cX10_advance 58 = .ok (.iadd, 1) := by decide +kernel
theorem dX10_advance_59 : decode cX10_advance 59 = .ok (.aload_n 0, 1) := by decide +kernel
theorem dX10_advance_60 : decode cX10_advance 60 = .ok (.getfield 16, 3) := by decide +kernel
theorem dX10_advance_63 : decode cX10_advance 63 = .ok (.getfield 117, 3) := by decide +kernel
theorem dX10_advance_66 : decode cX10_advance 66 = .ok (.if_icmp .lt 10, 3) := by decide +kernel
theorem dX10_advance_69 : decode cX10_advance 69 = .ok (.aload_n 0, 1) := by decide +kernel
theorem dX10_advance_70 : decode cX10_advance 70 = .ok (.bipush 10, 2) := by decide +kernel
theorem dX10_advance_72 : decode cX10_advance 72 = .ok (.invokevirtual 88, 3) := by decide +kernel
theorem dX10_advance_75 : decode cX10_advance 75 = .ok (.ireturn, 1) := by decide +kernel
theorem dX10_advance_76 : decode cX10_advance 76 = .ok (.aload_n 0, 1) := by decide +kernel
theorem dX10_advance_77 : decode cX10_advance 77 = .ok (.getfield 67, 3) := by decide +kernel
theorem dX10_advance_80 : decode cX10_advance 80 = .ok (.aload_n 0, 1) := by decide +kernel
theorem dX10_advance_81 : decode cX10_advance 81 = .ok (.getfield 37, 3) := by decide +kernel
theorem dX10_advance_84 : decode cX10_advance 84 = .ok (.getfield 129, 3) := by decide +kernel
theorem dX10_advance_87 : decode cX10_advance 87 = .ok (.iload_n 2, 1) := by decide +kernel
theorem dX10_advance_88 : decode cX10_advance 88 = .ok (.invokevirtual 281, 3) := by decide +kernel
theorem dX10_advance_91 : decode cX10_advance 91 = .ok (.aload_n 0, 1) := by decide +kernel
theorem dX10_advance_92 : decode cX10_advance 92 = .ok (.getfield 37, 3) := by decide +kernel
theorem dX10_advance_95 : decode cX10_advance 95 = .ok (.aload_n 0, 1) := by decide +kernel
theorem dX10_advance_96 : decode cX10_advance 96 = .ok (.getfield 67, 3) := by decide +kernel
theorem dX10_advance_99 : decode cX10_advance 99 = .ok (.getfield 284, 3) := by decide +kernel
theorem dX10_advance_102 : decode cX10_advance 102 = .ok (.iload_n 1, 1) := by decide +kernel
theorem dX10_advance_103 : decode cX10_advance 103 = .ok (.iload_n 2, 1) := by decide +kernel
theorem dX10_advance_104 : decode cX10_advance 104 = .ok (.invokevirtual 290, 3) := by decide +kernel
theorem dX10_advance_107 : decode cX10_advance 107 = .ok (.istore_n 3, 1) := by decide +kernel
theorem dX10_advance_108 : decode cX10_advance 108 = .ok (.aload_n 0, 1) := by decide +kernel
theorem dX10_advance_109 : decode cX10_advance 109 = .ok (.getfield 58, 3) := by decide +kernel
theorem dX10_advance_112 : decode cX10_advance 112 = .ok (.invokevirtual 113, 3) := by decide +kernel
theorem dX10_advance_115 : decode cX10_advance 115 = .ok (.aload_n 0, 1) := by decide +kernel
theorem dX10_advance_116 : decode cX10_advance 116 = .ok (.iload_n 3, 1) := by decide +kernel
theorem dX10_advance_117 : decode cX10_advance 117 = .ok (.invokevirtual 120, 3) := by decide +kernel
theorem dX10_advance_120 : decode cX10_advance 120 = .ok (.ireturn, 1) := by decide +kernel
theorem dX10_order_0 : decode cX10_order 0 = .ok (.aload_n 0, 1) := by decide +kernel
theorem dX10_order_1 : decode cX10_order 1 = .ok (.getfield 16, 3) := by decide +kernel
theorem dX10_order_4 : decode cX10_order 4 = .ok (.iload_n 1, 1) := by decide +kernel
theorem dX10_order_5 : decode cX10_order 5 = .ok (.invokevirtual 164, 3) := by decide +kernel
theorem dX10_order_8 : decode cX10_order 8 = .ok (.ifCond .eq 19, 3) := by decide +kernel
theorem dX10_order_11 : decode cX10_order 11 = .ok (.iload_n 2, 1) := by decide +kernel
theorem dX10_order_12 : decode cX10_order 12 = .ok (.ifCond .lt 15, 3) := by decide +kernel
theorem dX10_order_15 : decode cX10_order 15 = .ok (.iload_n 2, 1) := by decide +kernel
theorem dX10_order_16 : decode cX10_order 16 = .ok (.aload_n 0, 1) := by decide +kernel
theorem dX10_order_17 : decode cX10_order 17 = .ok (.getfield 37, 3) := by decide +kernel
theorem dX10_order_20 : decode cX10_order 20 = .ok (.iload_n 1, 1) := by decide +kernel
theorem dX10_order_21 : decode cX10_order 21 = .ok (.invokevirtual 167, 3) := by decide +kernel
theorem dX10_order_24 : decode cX10_order 24 = .ok (.if_icmp .lt 9, 3) := by decide +kernel
theorem dX10_order_27 : decode cX10_order 27 = .ok (.aload_n 0, 1) := by decide +kernel
theorem dX10_order_28 : decode cX10_order 28 = .ok (.iconst 1, 1) := by decide +kernel
theorem dX10_order_29 : decode cX10_order 29 = .ok (.invokevirtual 88, 3) := by decide +kernel
theorem dX10_order_32 : decode cX10_order 32 = .ok (.ireturn, 1) := by decide +kernel
theorem dX10_order_33 : decode cX10_order 33 = .ok (.iload_n 1, 1) := by decide +kernel
theorem dX10_order_34 : decode cX10_order 34 = .ok (.ifCond .ne 9, 3) := by decide +kernel
theorem dX10_order_37 : decode cX10_order 37 = .ok (.aload_n 0, 1) := by decide +kernel
theorem dX10_order_38 : decode cX10_order 38 = .ok (.iload_n 2, 1) := by decide +kernel
theorem dX10_order_39 : decode cX10_order 39 = .ok (.invokevirtual 120, 3) := by decide +kernel
theorem dX10_order_42 : decode cX10_order 42 = .ok (.ireturn, 1) := by decide +kernel
theorem dX10_order_43 : decode cX10_order 43 = .ok (.aload_n 0, 1) := by decide +kernel
theorem dX10_order_44 : decode cX10_order 44 = .ok (.getfield 67, 3) := by decide +kernel
theorem dX10_order_47 : decode cX10_order 47 = .ok (.iload_n 1, 1) := by decide +kernel
theorem dX10_order_48 : decode cX10_order 48 = .ok (.iconst 1, 1) := by decide +kernel
theorem dX10_order_49 : decode cX10_order 49 = .ok (.isub, 1) := by decide +kernel
theorem dX10_order_50 : decode cX10_order 50 = .ok (.aload_n 0, 1) := by decide +kernel
theorem dX10_order_51 : decode cX10_order 51 = .ok (.getfield 37, 3) := by decide +kernel
theorem dX10_order_54 : decode cX10_order 54 = .ok (.iload_n 1, 1) := by decide +kernel
theorem dX10_order_55 : decode cX10_order 55 = .ok (.invokevirtual 294, 3) := by decide +kernel
theorem dX10_order_58 : decode cX10_order 58 = .ok (.invokevirtual 281, 3) := by decide +kernel
theorem dX10_order_61 : decode cX10_order 61 = .ok (.aload_n 0, 1) := by decide +kernel
theorem dX10_order_62 : decode cX10_order 62 = .ok (.aload_n 0, 1) := by decide +kernel
theorem dX10_order_63 : decode cX10_order 63 = .ok (.getfield 67, 3) := by decide +kernel
theorem dX10_order_66 : decode cX10_order 66 = .ok (.iload_n 1, 1) := by decide +kernel
theorem dX10_order_67 : decode cX10_order 67 = .ok (.iload_n 2, 1) := by decide +kernel
theorem dX10_order_68 : decode cX10_order 68 = .ok (.invokevirtual 297, 3) := by decide +kernel
theorem dX10_order_71 : decode cX10_order 71 = .ok (.invokevirtual 120, 3) := by decide +kernel
theorem dX10_order_74 : decode cX10_order 74 = .ok (.ireturn, 1) := by decide +kernel
theorem dX10_parts_0 : decode cX10_parts 0 = .ok (.aload_n 0, 1) := by decide +kernel
theorem dX10_parts_1 : decode cX10_parts 1 = .ok (.getfield 16, 3) := by decide +kernel
theorem dX10_parts_4 : decode cX10_parts 4 = .ok (.iload_n 1, 1) := by decide +kernel
theorem dX10_parts_5 : decode cX10_parts 5 = .ok (.invokevirtual 164, 3) := by decide +kernel
theorem dX10_parts_8 : decode cX10_parts 8 = .ok (.ifCond .ne 9, 3) := by decide +kernel
theorem dX10_parts_11 : decode cX10_parts 11 = .ok (.aload_n 0, 1) := by decide +kernel
theorem dX10_parts_12 : decode cX10_parts 12 = .ok (.iconst 1, 1) := by decide +kernel
theorem dX10_parts_13 : decode cX10_parts 13 = .ok (.invokevirtual 88, 3) := by decide +kernel
theorem dX10_parts_16 : decode cX10_parts 16 = .ok (.ireturn, 1) := by decide +kernel
theorem dX10_parts_17 : decode cX10_parts 17 = .ok (.iload_n 2, 1) := by decide +kernel
theorem dX10_parts_18 : decode cX10_parts 18 = .ok (.ifCond .lt 25, 3) := by decide +kernel
theorem dX10_parts_21 : decode cX10_parts 21 = .ok (.iload_n 2, 1) := by decide +kernel
theorem dX10_parts_22 : decode cX10_parts 22 = .ok (.iconst 1, 1) := by decide +kernel
theorem dX10_parts_23 : decode cX10_parts 23 = .ok (.aload_n 0, 1) := by decide +kernel
theorem dX10_parts_24 : decode cX10_parts 24 = .ok (.getfield 16, 3) := by decide +kernel
theorem dX10_parts_27 : decode cX10_parts 27 = .ok (.iload_n 1, 1) := by decide +kernel
theorem dX10_parts_28 : decode cX10_parts 28 = .ok (.iconst 0, 1) := by decide +kernel
theorem dX10_parts_29 : decode cX10_parts 29 = .ok (.invokevirtual 170, 3) := by decide +kernel
theorem dX10_parts_32 : decode cX10_parts 32 = .ok (.ishl, 1) := by decide +kernel
theorem dX10_parts_33 : decode cX10_parts 33 = .ok (.if_icmp .ge 10, 3) := by decide +kernel
theorem dX10_parts_36 : decode cX10_parts 36 = .ok (.iload_n 3, 1) := by decide +kernel
theorem dX10_parts_37 : decode cX10_parts 37 = .ok (.invokestatic 248, 3) := by decide +kernel
theorem dX10_parts_40 : decode cX10_parts 40 = .ok (.ifCond .ne 9, 3) := by decide +kernel
theorem dX10_parts_43 : decode cX10_parts 43 = .ok (.aload_n 0, 1) := by decide +kernel
theorem dX10_parts_44 : decode cX10_parts 44 = .ok (.iconst 2, 1) := by decide +kernel
theorem dX10_parts_45 : decode cX10_parts 45 = .ok (.invokevirtual 88, 3) := by decide +kernel
theorem dX10_parts_48 : decode cX10_parts 48 = .ok (.ireturn, 1) := by decide +kernel
theorem dX10_parts_49 : decode cX10_parts 49 = .ok (.aload_n 0, 1) := by decide +kernel
theorem dX10_parts_50 : decode cX10_parts 50 = .ok (.getfield 67, 3) := by decide +kernel
theorem dX10_parts_53 : decode cX10_parts 53 = .ok (.iload_n 1, 1) := by decide +kernel
theorem dX10_parts_54 : decode cX10_parts 54 = .ok (.iload_n 3, 1) := by decide +kernel
theorem dX10_parts_55 : decode cX10_parts 55 = .ok (.invokevirtual 300, 3) := by decide +kernel
theorem dX10_parts_58 : decode cX10_parts 58 = .ok (.aload_n 0, 1) := by decide +kernel
theorem dX10_parts_59 : decode cX10_parts 59 = .ok (.aload_n 0, 1) := by decide +kernel
theorem dX10_parts_60 : decode cX10_parts 60 = .ok (.getfield 67, 3) := by decide +kernel
theorem dX10_parts_63 : decode cX10_parts 63 = .ok (.iload_n 1, 1) := by decide +kernel
theorem dX10_parts_64 : decode cX10_parts 64 = .ok (.iload_n 2, 1) := by decide +kernel
theorem dX10_parts_65 : decode cX10_parts 65 = .ok (.invokevirtual 303, 3) := by decide +kernel
theorem dX10_parts_68 : decode cX10_parts 68 = .ok (.invokevirtual 120, 3) := by decide +kernel
theorem dX10_parts_71 : decode cX10_parts 71 = .ok (.ireturn, 1) := by decide +kernel
theorem dX10_choose_0 : decode cX10_choose 0 = .ok (.aload_n 0, 1) := by decide +kernel
theorem dX10_choose_1 : decode cX10_choose 1 = .ok (.getfield 16, 3) := by decide +kernel
theorem dX10_choose_4 : decode cX10_choose 4 = .ok (.iload_n 1, 1) := by decide +kernel
theorem dX10_choose_5 : decode cX10_choose 5 = .ok (.invokevirtual 164, 3) := by decide +kernel
theorem dX10_choose_8 : decode cX10_choose 8 = .ok (.ifCond .ne 9, 3) := by decide +kernel
theorem dX10_choose_11 : decode cX10_choose 11 = .ok (.aload_n 0, 1) := by decide +kernel
theorem dX10_choose_12 : decode cX10_choose 12 = .ok (.iconst 1, 1) := by decide +kernel
theorem dX10_choose_13 : decode cX10_choose 13 = .ok (.invokevirtual 88, 3) := by decide +kernel
theorem dX10_choose_16 : decode cX10_choose 16 = .ok (.ireturn, 1) := by decide +kernel
theorem dX10_choose_17 : decode cX10_choose 17 = .ok (.aload_n 0, 1) := by decide +kernel
theorem dX10_choose_18 : decode cX10_choose 18 = .ok (.getfield 16, 3) := by decide +kernel
theorem dX10_choose_21 : decode cX10_choose 21 = .ok (.iload_n 1, 1) := by decide +kernel
theorem dX10_choose_22 : decode cX10_choose 22 = .ok (.iconst 0, 1) := by decide +kernel
theorem dX10_choose_23 : decode cX10_choose 23 = .ok (.invokevirtual 170, 3) := by decide +kernel
theorem dX10_choose_26 : decode cX10_choose 26 = .ok (.istore 4, 2) := by decide +kernel
theorem dX10_choose_28 : decode cX10_choose 28 = .ok (.iload_n 2, 1) := by decide +kernel
theorem dX10_choose_29 : decode cX10_choose 29 = .ok (.iconst 1, 1) := by decide +kernel
theorem dX10_choose_30 : decode cX10_choose 30 = .ok (.if_icmp .lt 16, 3) := by decide +kernel
theorem dX10_choose_33 : decode cX10_choose 33 = .ok (.iload_n 2, 1) := by decide +kernel
theorem dX10_choose_34 : decode cX10_choose 34 = .ok (.iload 4, 2) := by decide +kernel
theorem dX10_choose_36 : decode cX10_choose 36 = .ok (.if_icmp .gt 10, 3) := by decide +kernel
theorem dX10_choose_39 : decode cX10_choose 39 = .ok (.iload_n 3, 1) := by decide +kernel
theorem dX10_choose_40 : decode cX10_choose 40 = .ok (.invokestatic 248, 3) := by decide +kernel
theorem dX10_choose_43 : decode cX10_choose 43 = .ok (.ifCond .ne 9, 3) := by decide +kernel
theorem dX10_choose_46 : decode cX10_choose 46 = .ok (.aload_n 0, 1) := by decide +kernel
theorem dX10_choose_47 : decode cX10_choose 47 = .ok (.iconst 2, 1) := by decide +kernel
theorem dX10_choose_48 : decode cX10_choose 48 = .ok (.invokevirtual 88, 3) := by decide +kernel
theorem dX10_choose_51 : decode cX10_choose 51 = .ok (.ireturn, 1) := by decide +kernel
theorem dX10_choose_52 : decode cX10_choose 52 = .ok (.aload_n 0, 1) := by decide +kernel
theorem dX10_choose_53 : decode cX10_choose 53 = .ok (.getfield 67, 3) := by decide +kernel
theorem dX10_choose_56 : decode cX10_choose 56 = .ok (.iload_n 1, 1) := by decide +kernel
theorem dX10_choose_57 : decode cX10_choose 57 = .ok (.iload_n 3, 1) := by decide +kernel
theorem dX10_choose_58 : decode cX10_choose 58 = .ok (.invokevirtual 300, 3) := by decide +kernel
theorem dX10_choose_61 : decode cX10_choose 61 = .ok (.aload_n 0, 1) := by decide +kernel
theorem dX10_choose_62 : decode cX10_choose 62 = .ok (.aload_n 0, 1) := by decide +kernel
theorem dX10_choose_63 : decode cX10_choose 63 = .ok (.getfield 67, 3) := by decide +kernel
theorem dX10_choose_66 : decode cX10_choose 66 = .ok (.iload_n 1, 1) := by decide +kernel
theorem dX10_choose_67 : decode cX10_choose 67 = .ok (.iload 4, 2) := by decide +kernel
theorem dX10_choose_69 : decode cX10_choose 69 = .ok (.iload_n 2, 1) := by decide +kernel
theorem dX10_choose_70 : decode cX10_choose 70 = .ok (.invokevirtual 306, 3) := by decide +kernel
theorem dX10_choose_73 : decode cX10_choose 73 = .ok (.invokevirtual 120, 3) := by decide +kernel
theorem dX10_choose_76 : decode cX10_choose 76 = .ok (.ireturn, 1) := by decide +kernel
theorem dX10_refuse_0 : decode cX10_refuse 0 = .ok (.aload_n 0, 1) := by decide +kernel
theorem dX10_refuse_1 : decode cX10_refuse 1 = .ok (.iload_n 1, 1) := by decide +kernel
theorem dX10_refuse_2 : decode cX10_refuse 2 = .ok (.putfield 71, 3) := by decide +kernel
theorem dX10_refuse_5 : decode cX10_refuse 5 = .ok (.iconst (-1), 1) := by decide +kernel
theorem dX10_refuse_6 : decode cX10_refuse 6 = .ok (.ireturn, 1) := by decide +kernel
theorem dX10_answer_0 : decode cX10_answer 0 = .ok (.aload_n 0, 1) := by decide +kernel
theorem dX10_answer_1 : decode cX10_answer 1 = .ok (.iconst 0, 1) := by decide +kernel
theorem dX10_answer_2 : decode cX10_answer 2 = .ok (.putfield 71, 3) := by decide +kernel
theorem dX10_answer_5 : decode cX10_answer 5 = .ok (.iload_n 1, 1) := by decide +kernel
theorem dX10_answer_6 : decode cX10_answer 6 = .ok (.ireturn, 1) := by decide +kernel
theorem dX10_deny_0 : decode cX10_deny 0 = .ok (.aload_n 0, 1) := by decide +kernel
theorem dX10_deny_1 : decode cX10_deny 1 = .ok (.iload_n 1, 1) := by decide +kernel
theorem dX10_deny_2 : decode cX10_deny 2 = .ok (.putfield 71, 3) := by decide +kernel
theorem dX10_deny_5 : decode cX10_deny 5 = .ok (.iconst 0, 1) := by decide +kernel
theorem dX10_deny_6 : decode cX10_deny 6 = .ok (.ireturn, 1) := by decide +kernel
theorem dX10_grant_0 : decode cX10_grant 0 = .ok (.aload_n 0, 1) := by decide +kernel
theorem dX10_grant_1 : decode cX10_grant 1 = .ok (.iconst 0, 1) := by decide +kernel
theorem dX10_grant_2 : decode cX10_grant 2 = .ok (.putfield 71, 3) := by decide +kernel
theorem dX10_grant_5 : decode cX10_grant 5 = .ok (.iconst 1, 1) := by decide +kernel
theorem dX10_grant_6 : decode cX10_grant 6 = .ok (.ireturn, 1) := by decide +kernel
theorem dX10_isDay_0 : decode cX10_isDay 0 = .ok (.iload_n 0, 1) := by decide +kernel
theorem dX10_isDay_1 : decode cX10_isDay 1 = .ok (.ifCond .lt 14, 3) := by decide +kernel
theorem dX10_isDay_4 : decode cX10_isDay 4 = .ok (.iload_n 0, 1) := by decide +kernel
theorem dX10_isDay_5 : decode cX10_isDay 5 = .ok (.sipush 999, 3) := by decide +kernel
theorem dX10_isDay_8 : decode cX10_isDay 8 = .ok (.if_icmp .gt 7, 3) := by decide +kernel
theorem dX10_isDay_11 : decode cX10_isDay 11 = .ok (.iconst 1, 1) := by decide +kernel
theorem dX10_isDay_12 : decode cX10_isDay 12 = .ok (.goto 4, 3) := by decide +kernel
theorem dX10_isDay_15 : decode cX10_isDay 15 = .ok (.iconst 0, 1) := by decide +kernel
theorem dX10_isDay_16 : decode cX10_isDay 16 = .ok (.ireturn, 1) := by decide +kernel
theorem dX10_putOnTape_0 : decode cX10_putOnTape 0 = .ok (.bipush 24, 2) := by decide +kernel
theorem dX10_putOnTape_2 : decode cX10_putOnTape 2 = .ok (.istore_n 2, 1) := by decide +kernel
theorem dX10_putOnTape_3 : decode cX10_putOnTape 3 = .ok (.iload_n 2, 1) := by decide +kernel
theorem dX10_putOnTape_4 : decode cX10_putOnTape 4 = .ok (.ifCond .lt 45, 3) := by decide +kernel
theorem dX10_putOnTape_7 : decode cX10_putOnTape 7 = .ok (.aload_n 0, 1) := by decide +kernel
theorem dX10_putOnTape_8 : decode cX10_putOnTape 8 = .ok (.getfield 81, 3) := by decide +kernel
theorem dX10_putOnTape_11 : decode cX10_putOnTape 11 = .ok (.sipush 700, 3) := by decide +kernel
theorem dX10_putOnTape_14 : decode cX10_putOnTape 14 = .ok (.if_icmp .ge 29, 3) := by decide +kernel
theorem dX10_putOnTape_17 : decode cX10_putOnTape 17 = .ok (.aload_n 0, 1) := by decide +kernel
theorem dX10_putOnTape_18 : decode cX10_putOnTape 18 = .ok (.getfield 9, 3) := by decide +kernel
theorem dX10_putOnTape_21 : decode cX10_putOnTape 21 = .ok (.aload_n 0, 1) := by decide +kernel
theorem dX10_putOnTape_22 : decode cX10_putOnTape 22 = .ok (.getfield 81, 3) := by decide +kernel
theorem dX10_putOnTape_25 : decode cX10_putOnTape 25 = .ok (.iload_n 1, 1) := by decide +kernel
theorem dX10_putOnTape_26 : decode cX10_putOnTape 26 = .ok (.iload_n 2, 1) := by decide +kernel
theorem dX10_putOnTape_27 : decode cX10_putOnTape 27 = .ok (.iushr, 1) := by decide +kernel
theorem dX10_putOnTape_28 : decode cX10_putOnTape 28 = .ok (.sipush 255, 3) := by decide +kernel
theorem dX10_putOnTape_31 : decode cX10_putOnTape 31 = .ok (.iand, 1) := by decide +kernel
theorem dX10_putOnTape_32 : decode cX10_putOnTape 32 = .ok (.iastore, 1) := by decide +kernel
theorem dX10_putOnTape_33 : decode cX10_putOnTape 33 = .ok (.aload_n 0, 1) := by decide +kernel
theorem dX10_putOnTape_34 : decode cX10_putOnTape 34 = .ok (.dup, 1) := by decide +kernel
theorem dX10_putOnTape_35 : decode cX10_putOnTape 35 = .ok (.getfield 81, 3) := by decide +kernel
theorem dX10_putOnTape_38 : decode cX10_putOnTape 38 = .ok (.iconst 1, 1) := by decide +kernel
theorem dX10_putOnTape_39 : decode cX10_putOnTape 39 = .ok (.iadd, 1) := by decide +kernel
theorem dX10_putOnTape_40 : decode cX10_putOnTape 40 = .ok (.putfield 81, 3) := by decide +kernel
theorem dX10_putOnTape_43 : decode cX10_putOnTape 43 = .ok (.iinc 2 (-8), 3) := by decide +kernel
theorem dX10_putOnTape_46 : decode cX10_putOnTape 46 = .ok (.goto (-43), 3) := by decide +kernel
theorem dX10_putOnTape_49 : decode cX10_putOnTape 49 = .ok (.return_, 1) := by decide +kernel
theorem dX10_passTo_0 : decode cX10_passTo 0 = .ok (.iload_n 1, 1) := by decide +kernel
theorem dX10_passTo_1 : decode cX10_passTo 1 = .ok (.ifCond .lt 10, 3) := by decide +kernel
theorem dX10_passTo_4 : decode cX10_passTo 4 = .ok (.iload_n 1, 1) := by decide +kernel
theorem dX10_passTo_5 : decode cX10_passTo 5 = .ok (.ldc_w 313, 3) := by decide +kernel
theorem dX10_passTo_8 : decode cX10_passTo 8 = .ok (.if_icmp .le 5, 3) := by decide +kernel
theorem dX10_passTo_11 : decode cX10_passTo 11 = .ok (.iconst 2, 1) := by decide +kernel
theorem dX10_passTo_12 : decode cX10_passTo 12 = .ok (.ireturn, 1) := by decide +kernel
theorem dX10_passTo_13 : decode cX10_passTo 13 = .ok (.iload_n 1, 1) := by decide +kernel
theorem dX10_passTo_14 : decode cX10_passTo 14 = .ok (.aload_n 0, 1) := by decide +kernel
theorem dX10_passTo_15 : decode cX10_passTo 15 = .ok (.getfield 114, 3) := by decide +kernel
theorem dX10_passTo_18 : decode cX10_passTo 18 = .ok (.if_icmp .ge 6, 3) := by decide +kernel
theorem dX10_passTo_21 : decode cX10_passTo 21 = .ok (.bipush 9, 2) := by decide +kernel
theorem dX10_passTo_23 : decode cX10_passTo 23 = .ok (.ireturn, 1) := by decide +kernel
theorem dX10_passTo_24 : decode cX10_passTo 24 = .ok (.aload_n 0, 1) := by decide +kernel
theorem dX10_passTo_25 : decode cX10_passTo 25 = .ok (.iload_n 1, 1) := by decide +kernel
theorem dX10_passTo_26 : decode cX10_passTo 26 = .ok (.putfield 114, 3) := by decide +kernel
theorem dX10_passTo_29 : decode cX10_passTo 29 = .ok (.aload_n 0, 1) := by decide +kernel
theorem dX10_passTo_30 : decode cX10_passTo 30 = .ok (.getfield 44, 3) := by decide +kernel
theorem dX10_passTo_33 : decode cX10_passTo 33 = .ok (.iload_n 1, 1) := by decide +kernel
theorem dX10_passTo_34 : decode cX10_passTo 34 = .ok (.aload_n 0, 1) := by decide +kernel
theorem dX10_passTo_35 : decode cX10_passTo 35 = .ok (.getfield 16, 3) := by decide +kernel
theorem dX10_passTo_38 : decode cX10_passTo 38 = .ok (.aload_n 0, 1) := by decide +kernel
theorem dX10_passTo_39 : decode cX10_passTo 39 = .ok (.getfield 37, 3) := by decide +kernel
theorem dX10_passTo_42 : decode cX10_passTo 42 = .ok (.getfield 129, 3) := by decide +kernel
theorem dX10_passTo_45 : decode cX10_passTo 45 = .ok (.iconst 2, 1) := by decide +kernel
theorem dX10_passTo_46 : decode cX10_passTo 46 = .ok (.invokevirtual 170, 3) := by decide +kernel
theorem dX10_passTo_49 : decode cX10_passTo 49 = .ok (.invokevirtual 314, 3) := by decide +kernel
theorem dX10_passTo_52 : decode cX10_passTo 52 = .ok (.iconst 0, 1) := by decide +kernel
theorem dX10_passTo_53 : decode cX10_passTo 53 = .ok (.ireturn, 1) := by decide +kernel
end
section
set_option maxHeartbeats 4000000 in
set_option maxRecDepth 100000 in
theorem c_X10_refuse (l : Launch) (D : va_G) (k : Nat → ClassId) (A : Nat → Prop) (ad : Nat → Nat) (hD : rwD A k ad) (v : gV) (f g : gF) (a : Int) (h_a : inR a) : GM l D k A (rwW k ad) yX10_refuse cX10_refuse 2 (some .int) 0 0 [.ref (ad 0), .int (iI a)] v f g (fun r v1 f1 g1 => r = some (.int (iI (-1))) ∧ (va_up v 25 a) = v1 ∧ f = f1 ∧ g = g1) := by
  refine GM.of (by decide) (Nat.le_of_ble_eq_true rfl) ?_
  intro p e s m args below meth c Q ls hQ C hml hr hlocks hP hl
  have hx := C.1
  have hb := C.2.1
  have hok := hP.2
  have hS : va_S A s.heap s.heap [] := va_S.rf
  have hl : lv_has ls 2 [(0, .ref (ad 0)), (1, .int (iI a))] := hl
  refine lv_aload_n hx hb dX10_refuse_0 rfl (lv_at hl 0 rfl) ?_
  refine lv_iload_n hx hb dX10_refuse_1 rfl (lv_at hl 1 rfl) ?_
  refine rwP_state (v1 := (va_up v 25 a)) C hP hD hS mF_X10_71 (by omega) rfl (Or.inl rfl) dX10_refuse_2 (fun H locs hP hS => ?_)
  refine lv_iconst (v := iI (-1)) hx hb dX10_refuse_5 rfl ?_
  exact g_iret hQ C hr hlocks hP hS dX10_refuse_6 ⟨rfl, rfl, rfl, rfl⟩

set_option maxHeartbeats 4000000 in
set_option maxRecDepth 100000 in
theorem c_X10_answer (l : Launch) (D : va_G) (k : Nat → ClassId) (A : Nat → Prop) (ad : Nat → Nat) (hD : rwD A k ad) (v : gV) (f g : gF) (a : Int) (h_a : inR a) : GM l D k A (rwW k ad) yX10_answer cX10_answer 2 (some .int) 0 0 [.ref (ad 0), .int (iI a)] v f g (fun r v1 f1 g1 => r = some (.int (iI a)) ∧ (va_up v 25 0) = v1 ∧ f = f1 ∧ g = g1) := by
  refine GM.of (by decide) (Nat.le_of_ble_eq_true rfl) ?_
  intro p e s m args below meth c Q ls hQ C hml hr hlocks hP hl
  have hx := C.1
  have hb := C.2.1
  have hok := hP.2
  have hS : va_S A s.heap s.heap [] := va_S.rf
  have hl : lv_has ls 2 [(0, .ref (ad 0)), (1, .int (iI a))] := hl
  refine lv_aload_n hx hb dX10_answer_0 rfl (lv_at hl 0 rfl) ?_
  refine lv_iconst (v := iI 0) hx hb dX10_answer_1 rfl ?_
  refine rwP_state (v1 := (va_up v 25 0)) C hP hD hS mF_X10_71 (by decide) rfl (Or.inl rfl) dX10_answer_2 (fun H locs hP hS => ?_)
  refine lv_iload_n hx hb dX10_answer_5 rfl (lv_at hl 1 rfl) ?_
  exact g_iret hQ C hr hlocks hP hS dX10_answer_6 ⟨rfl, rfl, rfl, rfl⟩

set_option maxHeartbeats 4000000 in
set_option maxRecDepth 100000 in
theorem c_X10_deny (l : Launch) (D : va_G) (k : Nat → ClassId) (A : Nat → Prop) (ad : Nat → Nat) (hD : rwD A k ad) (v : gV) (f g : gF) (a : Int) (h_a : inR a) : GM l D k A (rwW k ad) yX10_deny cX10_deny 2 (some .boolean) 0 0 [.ref (ad 0), .int (iI a)] v f g (fun r v1 f1 g1 => r = some (.int (iI 0)) ∧ (va_up v 25 a) = v1 ∧ f = f1 ∧ g = g1) := by
  refine GM.of (by decide) (Nat.le_of_ble_eq_true rfl) ?_
  intro p e s m args below meth c Q ls hQ C hml hr hlocks hP hl
  have hx := C.1
  have hb := C.2.1
  have hok := hP.2
  have hS : va_S A s.heap s.heap [] := va_S.rf
  have hl : lv_has ls 2 [(0, .ref (ad 0)), (1, .int (iI a))] := hl
  refine lv_aload_n hx hb dX10_deny_0 rfl (lv_at hl 0 rfl) ?_
  refine lv_iload_n hx hb dX10_deny_1 rfl (lv_at hl 1 rfl) ?_
  refine rwP_state (v1 := (va_up v 25 a)) C hP hD hS mF_X10_71 (by omega) rfl (Or.inl rfl) dX10_deny_2 (fun H locs hP hS => ?_)
  refine lv_iconst (v := iI 0) hx hb dX10_deny_5 rfl ?_
  exact g_zret hQ C hr hlocks (by decide) hP hS dX10_deny_6 ⟨rfl, rfl, rfl, rfl⟩

set_option maxHeartbeats 4000000 in
set_option maxRecDepth 100000 in
theorem c_X10_grant (l : Launch) (D : va_G) (k : Nat → ClassId) (A : Nat → Prop) (ad : Nat → Nat) (hD : rwD A k ad) (v : gV) (f g : gF) : GM l D k A (rwW k ad) yX10_grant cX10_grant 1 (some .boolean) 0 0 [.ref (ad 0)] v f g (fun r v1 f1 g1 => r = some (.int (iI 1)) ∧ (va_up v 25 0) = v1 ∧ f = f1 ∧ g = g1) := by
  refine GM.of (by decide) (Nat.le_of_ble_eq_true rfl) ?_
  intro p e s m args below meth c Q ls hQ C hml hr hlocks hP hl
  have hx := C.1
  have hb := C.2.1
  have hok := hP.2
  have hS : va_S A s.heap s.heap [] := va_S.rf
  have hl : lv_has ls 1 [(0, .ref (ad 0))] := hl
  refine lv_aload_n hx hb dX10_grant_0 rfl (lv_at hl 0 rfl) ?_
  refine lv_iconst (v := iI 0) hx hb dX10_grant_1 rfl ?_
  refine rwP_state (v1 := (va_up v 25 0)) C hP hD hS mF_X10_71 (by decide) rfl (Or.inl rfl) dX10_grant_2 (fun H locs hP hS => ?_)
  refine lv_iconst (v := iI 1) hx hb dX10_grant_5 rfl ?_
  exact g_zret hQ C hr hlocks (by decide) hP hS dX10_grant_6 ⟨rfl, rfl, rfl, rfl⟩

set_option maxHeartbeats 4000000 in
set_option maxRecDepth 100000 in
theorem c_X10_isDay (l : Launch) (D : va_G) (k : Nat → ClassId) (A : Nat → Prop) (ad : Nat → Nat) (hD : rwD A k ad) (v : gV) (f g : gF) (a : Int) (h_a : inR a) : GM l D k A (rwW k ad) yX10_isDay cX10_isDay 1 (some .boolean) 0 0 [.int (iI a)] v f g (fun r v1 f1 g1 => (∃ z : Int, r = some (.int (iI z)) ∧ z = (if 0 ≤ a ∧ a ≤ 999 then 1 else 0)) ∧ v = v1 ∧ f = f1 ∧ g = g1) := by
  refine GM.of (by decide) (Nat.le_of_ble_eq_true rfl) ?_
  intro p e s m args below meth c Q ls hQ C hml hr hlocks hP hl
  have hx := C.1
  have hb := C.2.1
  have hok := hP.2
  have hS : va_S A s.heap s.heap [] := va_S.rf
  have hl : lv_has ls 1 [(0, .int (iI a))] := hl
  refine lv_iload_n hx hb dX10_isDay_0 rfl (lv_at hl 0 rfl) ?_
  refine gi_zlt (tgt := 15) hx hb dX10_isDay_1 (by decide) (by omega) (fun c_1 => ?_) (fun c_1 => ?_)
  · refine lv_iconst (v := iI 0) hx hb dX10_isDay_15 rfl ?_
    exact g_zret hQ C hr hlocks (by decide) hP hS dX10_isDay_16 ⟨⟨_, rfl, (by first | omega | (split <;> omega))⟩, rfl, rfl, rfl⟩
  · refine lv_iload_n hx hb dX10_isDay_4 rfl (lv_at hl 0 rfl) ?_
    refine lv_sipush (v := iI 999) hx hb dX10_isDay_5 (by decide) ?_
    refine gi_cgt (tgt := 15) hx hb dX10_isDay_8 (by decide) (by omega) (by decide) (fun c_2 => ?_) (fun c_2 => ?_)
    · refine lv_iconst (v := iI 0) hx hb dX10_isDay_15 rfl ?_
      exact g_zret hQ C hr hlocks (by decide) hP hS dX10_isDay_16 ⟨⟨_, rfl, (by first | omega | (split <;> omega))⟩, rfl, rfl, rfl⟩
    · refine lv_iconst (v := iI 1) hx hb dX10_isDay_11 rfl ?_
      refine lv_goto (tgt := 16) hx hb dX10_isDay_12 (by decide) ?_
      exact g_zret hQ C hr hlocks (by decide) hP hS dX10_isDay_16 ⟨⟨_, rfl, (by first | omega | (split <;> omega))⟩, rfl, rfl, rfl⟩

set_option maxHeartbeats 4000000 in
set_option maxRecDepth 100000 in
theorem c_X2_knows (l : Launch) (D : va_G) (k : Nat → ClassId) (A : Nat → Prop) (ad : Nat → Nat) (hD : rwD A k ad) (v : gV) (f g : gF) (a : Int) (h_a : inR a) : GM l D k A (rwW k ad) yX2_knows cX2_knows 2 (some .boolean) 0 0 [.ref (ad 27), .int (iI a)] v f g (fun r v1 f1 g1 => (∃ z : Int, r = some (.int (iI z)) ∧ z = (if 0 ≤ a ∧ a < v 21 then 1 else 0)) ∧ v = v1 ∧ f = f1 ∧ g = g1) := by
  refine GM.of (by decide) (Nat.le_of_ble_eq_true rfl) ?_
  intro p e s m args below meth c Q ls hQ C hml hr hlocks hP hl
  have hx := C.1
  have hb := C.2.1
  have hok := hP.2
  have hS : va_S A s.heap s.heap [] := va_S.rf
  have hl : lv_has ls 2 [(0, .ref (ad 27)), (1, .int (iI a))] := hl
  refine lv_iload_n hx hb dX2_knows_0 rfl (lv_at hl 1 rfl) ?_
  refine gi_zlt (tgt := 16) hx hb dX2_knows_1 (by decide) (by omega) (fun c_1 => ?_) (fun c_1 => ?_)
  · refine lv_iconst (v := iI 0) hx hb dX2_knows_16 rfl ?_
    exact g_zret hQ C hr hlocks (by decide) hP hS dX2_knows_17 ⟨⟨_, rfl, (by first | omega | (split <;> omega))⟩, rfl, rfl, rfl⟩
  · refine lv_iload_n hx hb dX2_knows_4 rfl (lv_at hl 1 rfl) ?_
    refine lv_aload_n hx hb dX2_knows_5 rfl (lv_at hl 0 rfl) ?_
    refine rwG_field_climbers C hP mF_X2_18 dX2_knows_6 ?_
    have r_2 := hok.1 21
    refine gi_cge (tgt := 16) hx hb dX2_knows_9 (by decide) (by omega) (by omega) (fun c_3 => ?_) (fun c_3 => ?_)
    · refine lv_iconst (v := iI 0) hx hb dX2_knows_16 rfl ?_
      exact g_zret hQ C hr hlocks (by decide) hP hS dX2_knows_17 ⟨⟨_, rfl, (by first | omega | (split <;> omega))⟩, rfl, rfl, rfl⟩
    · refine lv_iconst (v := iI 1) hx hb dX2_knows_12 rfl ?_
      refine lv_goto (tgt := 17) hx hb dX2_knows_13 (by decide) ?_
      exact g_zret hQ C hr hlocks (by decide) hP hS dX2_knows_17 ⟨⟨_, rfl, (by first | omega | (split <;> omega))⟩, rfl, rfl, rfl⟩

set_option maxHeartbeats 4000000 in
set_option maxRecDepth 100000 in
theorem c_X7_knows (l : Launch) (D : va_G) (k : Nat → ClassId) (A : Nat → Prop) (ad : Nat → Nat) (hD : rwD A k ad) (v : gV) (f g : gF) (a : Int) (h_a : inR a) : GM l D k A (rwW k ad) yX7_knows cX7_knows 2 (some .boolean) 0 0 [.ref (ad 30), .int (iI a)] v f g (fun r v1 f1 g1 => (∃ z : Int, r = some (.int (iI z)) ∧ z = (if 0 ≤ a ∧ a < v 23 then 1 else 0)) ∧ v = v1 ∧ f = f1 ∧ g = g1) := by
  refine GM.of (by decide) (Nat.le_of_ble_eq_true rfl) ?_
  intro p e s m args below meth c Q ls hQ C hml hr hlocks hP hl
  have hx := C.1
  have hb := C.2.1
  have hok := hP.2
  have hS : va_S A s.heap s.heap [] := va_S.rf
  have hl : lv_has ls 2 [(0, .ref (ad 30)), (1, .int (iI a))] := hl
  refine lv_iload_n hx hb dX7_knows_0 rfl (lv_at hl 1 rfl) ?_
  refine gi_zlt (tgt := 16) hx hb dX7_knows_1 (by decide) (by omega) (fun c_1 => ?_) (fun c_1 => ?_)
  · refine lv_iconst (v := iI 0) hx hb dX7_knows_16 rfl ?_
    exact g_zret hQ C hr hlocks (by decide) hP hS dX7_knows_17 ⟨⟨_, rfl, (by first | omega | (split <;> omega))⟩, rfl, rfl, rfl⟩
  · refine lv_iload_n hx hb dX7_knows_4 rfl (lv_at hl 1 rfl) ?_
    refine lv_aload_n hx hb dX7_knows_5 rfl (lv_at hl 0 rfl) ?_
    refine rwG_tries_many C hP mF_X7_36 dX7_knows_6 ?_
    have r_2 := hok.1 23
    refine gi_cge (tgt := 16) hx hb dX7_knows_9 (by decide) (by omega) (by omega) (fun c_3 => ?_) (fun c_3 => ?_)
    · refine lv_iconst (v := iI 0) hx hb dX7_knows_16 rfl ?_
      exact g_zret hQ C hr hlocks (by decide) hP hS dX7_knows_17 ⟨⟨_, rfl, (by first | omega | (split <;> omega))⟩, rfl, rfl, rfl⟩
    · refine lv_iconst (v := iI 1) hx hb dX7_knows_12 rfl ?_
      refine lv_goto (tgt := 17) hx hb dX7_knows_13 (by decide) ?_
      exact g_zret hQ C hr hlocks (by decide) hP hS dX7_knows_17 ⟨⟨_, rfl, (by first | omega | (split <;> omega))⟩, rfl, rfl, rfl⟩

set_option maxHeartbeats 4000000 in
set_option maxRecDepth 100000 in
theorem c_X4_hasRound (l : Launch) (D : va_G) (k : Nat → ClassId) (A : Nat → Prop) (ad : Nat → Nat) (hD : rwD A k ad) (v : gV) (f g : gF) (a : Int) (h_a : inR a) : GM l D k A (rwW k ad) yX4_hasRound cX4_hasRound 2 (some .boolean) 0 0 [.ref (ad 2), .int (iI a)] v f g (fun r v1 f1 g1 => (∃ z : Int, r = some (.int (iI z)) ∧ z = (if 0 ≤ a ∧ a < v 1 then 1 else 0)) ∧ v = v1 ∧ f = f1 ∧ g = g1) := by
  refine GM.of (by decide) (Nat.le_of_ble_eq_true rfl) ?_
  intro p e s m args below meth c Q ls hQ C hml hr hlocks hP hl
  have hx := C.1
  have hb := C.2.1
  have hok := hP.2
  have hS : va_S A s.heap s.heap [] := va_S.rf
  have hl : lv_has ls 2 [(0, .ref (ad 2)), (1, .int (iI a))] := hl
  refine lv_iload_n hx hb dX4_hasRound_0 rfl (lv_at hl 1 rfl) ?_
  refine gi_zlt (tgt := 16) hx hb dX4_hasRound_1 (by decide) (by omega) (fun c_1 => ?_) (fun c_1 => ?_)
  · refine lv_iconst (v := iI 0) hx hb dX4_hasRound_16 rfl ?_
    exact g_zret hQ C hr hlocks (by decide) hP hS dX4_hasRound_17 ⟨⟨_, rfl, (by first | omega | (split <;> omega))⟩, rfl, rfl, rfl⟩
  · refine lv_iload_n hx hb dX4_hasRound_4 rfl (lv_at hl 1 rfl) ?_
    refine lv_aload_n hx hb dX4_hasRound_5 rfl (lv_at hl 0 rfl) ?_
    refine rwG_laws_rounds C hP mF_X4_31 dX4_hasRound_6 ?_
    have r_2 := hok.1 1
    refine gi_cge (tgt := 16) hx hb dX4_hasRound_9 (by decide) (by omega) (by omega) (fun c_3 => ?_) (fun c_3 => ?_)
    · refine lv_iconst (v := iI 0) hx hb dX4_hasRound_16 rfl ?_
      exact g_zret hQ C hr hlocks (by decide) hP hS dX4_hasRound_17 ⟨⟨_, rfl, (by first | omega | (split <;> omega))⟩, rfl, rfl, rfl⟩
    · refine lv_iconst (v := iI 1) hx hb dX4_hasRound_12 rfl ?_
      refine lv_goto (tgt := 17) hx hb dX4_hasRound_13 (by decide) ?_
      exact g_zret hQ C hr hlocks (by decide) hP hS dX4_hasRound_17 ⟨⟨_, rfl, (by first | omega | (split <;> omega))⟩, rfl, rfl, rfl⟩

set_option maxHeartbeats 4000000 in
set_option maxRecDepth 100000 in
theorem c_X4_hasRoute (l : Launch) (D : va_G) (k : Nat → ClassId) (A : Nat → Prop) (ad : Nat → Nat) (hD : rwD A k ad) (v : gV) (f g : gF) (a : Int) (b : Int) (h_a : inR a) (h_b : inR b) (h1 : v 1 ≤ 4) : GM l D k A (rwW k ad) yX4_hasRoute cX4_hasRoute 3 (some .boolean) 1 21 [.ref (ad 2), .int (iI a), .int (iI b)] v f g (fun r v1 f1 g1 => (∃ z : Int, r = some (.int (iI z)) ∧ z = (if (0 ≤ a ∧ a < v 1) ∧ 0 ≤ b ∧ b < f 1 (a * 4) then 1 else 0)) ∧ v = v1 ∧ f = f1 ∧ g = g1) := by
  refine GM.of (by decide) (Nat.le_of_ble_eq_true rfl) ?_
  intro p e s m args below meth c Q ls hQ C hml hr hlocks hP hl
  have hx := C.1
  have hb := C.2.1
  have hok := hP.2
  have hS : va_S A s.heap s.heap [] := va_S.rf
  have hl : lv_has ls 3 [(0, .ref (ad 2)), (1, .int (iI a)), (2, .int (iI b))] := hl
  refine lv_aload_n hx hb dX4_hasRoute_0 rfl (lv_at hl 0 rfl) ?_
  refine lv_iload_n hx hb dX4_hasRoute_1 rfl (lv_at hl 1 rfl) ?_
  refine g_cv (As := [.int (iI a)]) (rest := []) (n := 1) C hml (c_X4_hasRound l D k A ad hD v f g a (by omega)) mM_X4_59 mI_X4_hasRound mE_X4_hasRound mN_X4 mC_X4_hasRound (by decide +kernel) 2 (ci := 4) rfl rfl hP hS (fun _ h => h) ⟨Nat.le_of_ble_eq_true rfl, Nat.le_of_ble_eq_true rfl⟩ ⟨Nat.zero_le _, Nat.zero_le _⟩ hl.1 rfl rfl (Nat.le_of_ble_eq_true rfl) dX4_hasRoute_2 (fun r_1 v_1 f_1 g_1 H locs hq_1 hP _ hS => ?_)
  obtain ⟨⟨z_1, rfl, ez0_1⟩, rfl, rfl, rfl⟩ := hq_1
  have ez_1 : z_1 = (if 0 ≤ a ∧ a < v 1 then 1 else 0) := ez0_1
  have w_1 := gif (P := 0 ≤ a ∧ a < v 1) ez_1
  have hz_1 : inR z_1 := (by omega)
  show W p l e (gRm 1 21) s m args below meth c _ _ 0 0 Q (F0 m 5 ls [.int (iI z_1)])
  refine gi_zeq (tgt := 30) hx hb dX4_hasRoute_5 (by decide) (by omega) (fun c_2 => ?_) (fun c_2 => ?_)
  · refine lv_iconst (v := iI 0) hx hb dX4_hasRoute_30 rfl ?_
    exact g_zret hQ C hr hlocks (by decide) hP hS dX4_hasRoute_31 ⟨⟨_, rfl, (by first | omega | (split <;> omega))⟩, rfl, rfl, rfl⟩
  · refine lv_iload_n hx hb dX4_hasRoute_8 rfl (lv_at hl 2 rfl) ?_
    refine gi_zlt (tgt := 30) hx hb dX4_hasRoute_9 (by decide) (by omega) (fun c_3 => ?_) (fun c_3 => ?_)
    · refine lv_iconst (v := iI 0) hx hb dX4_hasRoute_30 rfl ?_
      exact g_zret hQ C hr hlocks (by decide) hP hS dX4_hasRoute_31 ⟨⟨_, rfl, (by first | omega | (split <;> omega))⟩, rfl, rfl, rfl⟩
    · refine lv_iload_n hx hb dX4_hasRoute_12 rfl (lv_at hl 2 rfl) ?_
      refine lv_aload_n hx hb dX4_hasRoute_13 rfl (lv_at hl 0 rfl) ?_
      refine rwG_laws_shape C hP mF_X4_9 dX4_hasRoute_14 ?_
      refine lv_iload_n hx hb dX4_hasRoute_17 rfl (lv_at hl 1 rfl) ?_
      refine lv_iconst (v := iI 4) hx hb dX4_hasRoute_18 rfl ?_
      refine gi_mul (z := (a * 4)) hx hb dX4_hasRoute_19 rfl ?_
      refine lv_iconst (v := iI 0) hx hb dX4_hasRoute_20 rfl ?_
      refine gi_add (z := (a * 4)) hx hb dX4_hasRoute_21 (by omega) ?_
      refine rwL_laws_shape C hP (by omega) (by omega) dX4_hasRoute_22 ?_
      have r_4 := hok.2 1 (a * 4)
      refine gi_cge (tgt := 30) hx hb dX4_hasRoute_23 (by decide) (by omega) (by omega) (fun c_5 => ?_) (fun c_5 => ?_)
      · refine lv_iconst (v := iI 0) hx hb dX4_hasRoute_30 rfl ?_
        exact g_zret hQ C hr hlocks (by decide) hP hS dX4_hasRoute_31 ⟨⟨_, rfl, (by first | omega | (split <;> omega))⟩, rfl, rfl, rfl⟩
      · refine lv_iconst (v := iI 1) hx hb dX4_hasRoute_26 rfl ?_
        refine lv_goto (tgt := 31) hx hb dX4_hasRoute_27 (by decide) ?_
        exact g_zret hQ C hr hlocks (by decide) hP hS dX4_hasRoute_31 ⟨⟨_, rfl, (by first | omega | (split <;> omega))⟩, rfl, rfl, rfl⟩

set_option maxHeartbeats 4000000 in
set_option maxRecDepth 100000 in
theorem c_X4_shapeOf (l : Launch) (D : va_G) (k : Nat → ClassId) (A : Nat → Prop) (ad : Nat → Nat) (hD : rwD A k ad) (v : gV) (f g : gF) (a : Int) (b : Int) (h_a : inR a) (h_b : inR b) (h1 : v 1 ≤ 4) : GM l D k A (rwW k ad) yX4_shapeOf cX4_shapeOf 3 (some .int) 1 21 [.ref (ad 2), .int (iI a), .int (iI b)] v f g (fun r v1 f1 g1 => (∃ z : Int, r = some (.int (iI z)) ∧ z = (if (0 ≤ a ∧ a < v 1) ∧ 0 ≤ b ∧ b < 4 then f 1 (a * 4 + b) else 0)) ∧ v = v1 ∧ f = f1 ∧ g = g1) := by
  refine GM.of (by decide) (Nat.le_of_ble_eq_true rfl) ?_
  intro p e s m args below meth c Q ls hQ C hml hr hlocks hP hl
  have hx := C.1
  have hb := C.2.1
  have hok := hP.2
  have hS : va_S A s.heap s.heap [] := va_S.rf
  have hl : lv_has ls 3 [(0, .ref (ad 2)), (1, .int (iI a)), (2, .int (iI b))] := hl
  refine lv_aload_n hx hb dX4_shapeOf_0 rfl (lv_at hl 0 rfl) ?_
  refine lv_iload_n hx hb dX4_shapeOf_1 rfl (lv_at hl 1 rfl) ?_
  refine g_cv (As := [.int (iI a)]) (rest := []) (n := 1) C hml (c_X4_hasRound l D k A ad hD v f g a (by omega)) mM_X4_59 mI_X4_hasRound mE_X4_hasRound mN_X4 mC_X4_hasRound (by decide +kernel) 2 (ci := 4) rfl rfl hP hS (fun _ h => h) ⟨Nat.le_of_ble_eq_true rfl, Nat.le_of_ble_eq_true rfl⟩ ⟨Nat.zero_le _, Nat.zero_le _⟩ hl.1 rfl rfl (Nat.le_of_ble_eq_true rfl) dX4_shapeOf_2 (fun r_1 v_1 f_1 g_1 H locs hq_1 hP _ hS => ?_)
  obtain ⟨⟨z_1, rfl, ez0_1⟩, rfl, rfl, rfl⟩ := hq_1
  have ez_1 : z_1 = (if 0 ≤ a ∧ a < v 1 then 1 else 0) := ez0_1
  have w_1 := gif (P := 0 ≤ a ∧ a < v 1) ez_1
  have hz_1 : inR z_1 := (by omega)
  show W p l e (gRm 1 21) s m args below meth c _ _ 0 0 Q (F0 m 5 ls [.int (iI z_1)])
  refine gi_zeq (tgt := 30) hx hb dX4_shapeOf_5 (by decide) (by omega) (fun c_2 => ?_) (fun c_2 => ?_)
  · refine lv_iconst (v := iI 0) hx hb dX4_shapeOf_30 rfl ?_
    exact g_iret hQ C hr hlocks hP hS dX4_shapeOf_31 ⟨⟨_, rfl, (by first | omega | (split <;> omega))⟩, rfl, rfl, rfl⟩
  · refine lv_iload_n hx hb dX4_shapeOf_8 rfl (lv_at hl 2 rfl) ?_
    refine gi_zlt (tgt := 30) hx hb dX4_shapeOf_9 (by decide) (by omega) (fun c_3 => ?_) (fun c_3 => ?_)
    · refine lv_iconst (v := iI 0) hx hb dX4_shapeOf_30 rfl ?_
      exact g_iret hQ C hr hlocks hP hS dX4_shapeOf_31 ⟨⟨_, rfl, (by first | omega | (split <;> omega))⟩, rfl, rfl, rfl⟩
    · refine lv_iload_n hx hb dX4_shapeOf_12 rfl (lv_at hl 2 rfl) ?_
      refine lv_iconst (v := iI 4) hx hb dX4_shapeOf_13 rfl ?_
      refine gi_cge (tgt := 30) hx hb dX4_shapeOf_14 (by decide) (by omega) (by decide) (fun c_4 => ?_) (fun c_4 => ?_)
      · refine lv_iconst (v := iI 0) hx hb dX4_shapeOf_30 rfl ?_
        exact g_iret hQ C hr hlocks hP hS dX4_shapeOf_31 ⟨⟨_, rfl, (by first | omega | (split <;> omega))⟩, rfl, rfl, rfl⟩
      · refine lv_aload_n hx hb dX4_shapeOf_17 rfl (lv_at hl 0 rfl) ?_
        refine rwG_laws_shape C hP mF_X4_9 dX4_shapeOf_18 ?_
        refine lv_iload_n hx hb dX4_shapeOf_21 rfl (lv_at hl 1 rfl) ?_
        refine lv_iconst (v := iI 4) hx hb dX4_shapeOf_22 rfl ?_
        refine gi_mul (z := (a * 4)) hx hb dX4_shapeOf_23 rfl ?_
        refine lv_iload_n hx hb dX4_shapeOf_24 rfl (lv_at hl 2 rfl) ?_
        refine gi_add (z := ((a * 4) + b)) hx hb dX4_shapeOf_25 rfl ?_
        refine rwL_laws_shape C hP (by omega) (by omega) dX4_shapeOf_26 ?_
        have r_5 := hok.2 1 ((a * 4) + b)
        refine lv_goto (tgt := 31) hx hb dX4_shapeOf_27 (by decide) ?_
        exact g_iret hQ C hr hlocks hP hS dX4_shapeOf_31 ⟨⟨_, rfl, (by first | omega | (split <;> omega))⟩, rfl, rfl, rfl⟩

set_option maxHeartbeats 4000000 in
set_option maxRecDepth 100000 in
theorem c_X7_openOf (l : Launch) (D : va_G) (k : Nat → ClassId) (A : Nat → Prop) (ad : Nat → Nat) (hD : rwD A k ad) (v : gV) (f g : gF) (a : Int) (h_a : inR a) (h1 : 0 ≤ a ∧ a < 16) (h2 : 0 ≤ f 27 a ∧ f 27 a ≤ 300) : GM l D k A (rwW k ad) yX7_openOf cX7_openOf 2 (some .int) 0 0 [.ref (ad 30), .int (iI a)] v f g (fun r v1 f1 g1 => (∃ z : Int, r = some (.int (iI z)) ∧ z = (f 27 a - 1)) ∧ v = v1 ∧ f = f1 ∧ g = g1) := by
  refine GM.of (by decide) (Nat.le_of_ble_eq_true rfl) ?_
  intro p e s m args below meth c Q ls hQ C hml hr hlocks hP hl
  have hx := C.1
  have hb := C.2.1
  have hok := hP.2
  have hS : va_S A s.heap s.heap [] := va_S.rf
  have hl : lv_has ls 2 [(0, .ref (ad 30)), (1, .int (iI a))] := hl
  refine lv_aload_n hx hb dX7_openOf_0 rfl (lv_at hl 0 rfl) ?_
  refine rwG_tries_openNext C hP mF_X7_33 dX7_openOf_1 ?_
  refine lv_iload_n hx hb dX7_openOf_4 rfl (lv_at hl 1 rfl) ?_
  refine rwL_tries_openNext C hP (by omega) (by omega) dX7_openOf_5 ?_
  have r_1 := hok.2 27 a
  refine lv_iconst (v := iI 1) hx hb dX7_openOf_6 rfl ?_
  refine gi_sub (z := ((f 27 a) - 1)) hx hb dX7_openOf_7 rfl ?_
  exact g_iret hQ C hr hlocks hP hS dX7_openOf_8 ⟨⟨_, rfl, (by first | omega | (split <;> omega))⟩, rfl, rfl, rfl⟩

set_option maxHeartbeats 4000000 in
set_option maxRecDepth 100000 in
theorem c_X10_putOnTape (l : Launch) (D : va_G) (k : Nat → ClassId) (A : Nat → Prop) (ad : Nat → Nat) (hD : rwD A k ad) (v : gV) (f g : gF) (a : Int) (h_a : inR a) (h1 : 0 ≤ v 0 ∧ v 0 ≤ 696) : GM l D k A (rwW k ad) yX10_putOnTape cX10_putOnTape 3 none 0 0 [.ref (ad 0), .int (iI a)] v f g (fun r v1 f1 g1 => r = none ∧ (va_up v 0 ((v 0) + 4)) = v1 ∧ True ∧ g = g1) := by
  refine GM.of (by decide) (Nat.le_of_ble_eq_true rfl) ?_
  intro p e s m args below meth c Q ls hQ C hml hr hlocks hP hl
  have hx := C.1
  have hb := C.2.1
  have hok := hP.2
  have hS : va_S A s.heap s.heap [] := va_S.rf
  have hl : lv_has ls 3 [(0, .ref (ad 0)), (1, .int (iI a))] := hl
  refine lv_bipush (v := iI 24) hx hb dX10_putOnTape_0 (by decide) ?_
  refine lv_istore_n (lv' := [(2, .int (iI 24)), (0, .ref (ad 0)), (1, .int (iI a))]) hx hb dX10_putOnTape_2 rfl hl (by decide) rfl (fun ls hl => ?_)
  refine lv_iload_n hx hb dX10_putOnTape_3 rfl (lv_at hl 0 rfl) ?_
  refine gi_zlt (tgt := 49) hx hb dX10_putOnTape_4 (by decide) (by decide) (fun c_1 => ?_) (fun c_1 => ?_)
  · exfalso; omega
  · refine lv_aload_n hx hb dX10_putOnTape_7 rfl (lv_at hl 1 rfl) ?_
    refine rwG_taped C hP mF_X10_81 dX10_putOnTape_8 ?_
    have r_2 := hok.1 0
    refine lv_sipush (v := iI 700) hx hb dX10_putOnTape_11 (by decide) ?_
    refine gi_cge (tgt := 43) hx hb dX10_putOnTape_14 (by decide) (by omega) (by decide) (fun c_3 => ?_) (fun c_3 => ?_)
    · exfalso; omega
    · refine lv_aload_n hx hb dX10_putOnTape_17 rfl (lv_at hl 1 rfl) ?_
      refine rwG_tape C hP mF_X10_9 dX10_putOnTape_18 ?_
      refine lv_aload_n hx hb dX10_putOnTape_21 rfl (lv_at hl 1 rfl) ?_
      refine rwG_taped C hP mF_X10_81 dX10_putOnTape_22 ?_
      refine lv_iload_n hx hb dX10_putOnTape_25 rfl (lv_at hl 2 rfl) ?_
      refine lv_iload_n hx hb dX10_putOnTape_26 rfl (lv_at hl 0 rfl) ?_
      obtain ⟨x_4, ex_4, hx_4⟩ : ∃ z : Int, ((iI a).toUInt32 >>> ((iI 24).toUInt32 &&& Int32.toUInt32 31)).toInt32 = iI z ∧ inR z := ⟨(((iI a).toUInt32 >>> ((iI 24).toUInt32 &&& Int32.toUInt32 31)).toInt32).toInt, (iI_of _).symm, iI_rng _⟩
      refine gi_ushr (z := x_4) hx hb dX10_putOnTape_27 ex_4 ?_
      refine lv_sipush (v := iI 255) hx hb dX10_putOnTape_28 (by decide) ?_
      obtain ⟨x_5, ex_5, hx_5⟩ : ∃ z : Int, iI x_4 &&& iI 255 = iI z ∧ inR z := ⟨(iI x_4 &&& iI 255).toInt, (iI_of _).symm, iI_rng _⟩
      refine gi_and (z := x_5) hx hb dX10_putOnTape_31 ex_5 ?_
      refine rwS_tape (f1 := (va_up f 0 (u1 (f 0) (v 0) x_5))) C hP hD hS (by omega) (by omega) (by omega) rfl (Or.inl rfl) dX10_putOnTape_32 (fun H locs hP hS => ?_)
      refine lv_aload_n hx hb dX10_putOnTape_33 rfl (lv_at hl 1 rfl) ?_
      refine lv_dup hx hb dX10_putOnTape_34 rfl ?_
      refine rwG_taped C hP mF_X10_81 dX10_putOnTape_35 ?_
      refine lv_iconst (v := iI 1) hx hb dX10_putOnTape_38 rfl ?_
      refine gi_add (z := ((v 0) + 1)) hx hb dX10_putOnTape_39 rfl ?_
      refine rwP_taped (v1 := (va_up v 0 ((v 0) + 1))) C hP hD hS mF_X10_81 (by omega) rfl (Or.inl rfl) dX10_putOnTape_40 (fun H locs hP hS => ?_)
      refine lv_iinc (v := iI 16) (lv' := [(2, .int (iI 16)), (0, .ref (ad 0)), (1, .int (iI a))]) hx hb dX10_putOnTape_43 hl (k := 0) rfl (by show iI _ + iI (-8) = _; rw [iI_add]; congr 1) (by decide) rfl (fun ls hl => ?_)
      refine lv_goto (tgt := 3) hx hb dX10_putOnTape_46 (by decide) ?_
      refine lv_iload_n hx hb dX10_putOnTape_3 rfl (lv_at hl 0 rfl) ?_
      refine gi_zlt (tgt := 49) hx hb dX10_putOnTape_4 (by decide) (by decide) (fun c_6 => ?_) (fun c_6 => ?_)
      · exfalso; omega
      · refine lv_aload_n hx hb dX10_putOnTape_7 rfl (lv_at hl 1 rfl) ?_
        refine rwG_taped C hP mF_X10_81 dX10_putOnTape_8 ?_
        show W p l e (gRm 0 0) s m args below meth c _ _ 0 0 Q (F0 m 11 ls [.int (iI ((v 0) + 1))])
        refine lv_sipush (v := iI 700) hx hb dX10_putOnTape_11 (by decide) ?_
        refine gi_cge (tgt := 43) hx hb dX10_putOnTape_14 (by decide) (by omega) (by decide) (fun c_7 => ?_) (fun c_7 => ?_)
        · exfalso; omega
        · refine lv_aload_n hx hb dX10_putOnTape_17 rfl (lv_at hl 1 rfl) ?_
          refine rwG_tape C hP mF_X10_9 dX10_putOnTape_18 ?_
          refine lv_aload_n hx hb dX10_putOnTape_21 rfl (lv_at hl 1 rfl) ?_
          refine rwG_taped C hP mF_X10_81 dX10_putOnTape_22 ?_
          show W p l e (gRm 0 0) s m args below meth c _ _ 0 0 Q (F0 m 25 ls [.int (iI ((v 0) + 1)), .ref (ad 1)])
          refine lv_iload_n hx hb dX10_putOnTape_25 rfl (lv_at hl 2 rfl) ?_
          refine lv_iload_n hx hb dX10_putOnTape_26 rfl (lv_at hl 0 rfl) ?_
          obtain ⟨x_8, ex_8, hx_8⟩ : ∃ z : Int, ((iI a).toUInt32 >>> ((iI 16).toUInt32 &&& Int32.toUInt32 31)).toInt32 = iI z ∧ inR z := ⟨(((iI a).toUInt32 >>> ((iI 16).toUInt32 &&& Int32.toUInt32 31)).toInt32).toInt, (iI_of _).symm, iI_rng _⟩
          refine gi_ushr (z := x_8) hx hb dX10_putOnTape_27 ex_8 ?_
          refine lv_sipush (v := iI 255) hx hb dX10_putOnTape_28 (by decide) ?_
          obtain ⟨x_9, ex_9, hx_9⟩ : ∃ z : Int, iI x_8 &&& iI 255 = iI z ∧ inR z := ⟨(iI x_8 &&& iI 255).toInt, (iI_of _).symm, iI_rng _⟩
          refine gi_and (z := x_9) hx hb dX10_putOnTape_31 ex_9 ?_
          refine rwS_tape (f1 := (va_up f 0 (u1 (u1 (f 0) (v 0) x_5) ((v 0) + 1) x_9))) C hP hD hS (by omega) (by omega) (by omega) rfl (Or.inr (gF_up (gR_up ⟨hok.1, hok.2⟩ 0 (by omega)) 0 (u1_rng (u1_rng (hok.2 0) (by omega)) (by omega)))) dX10_putOnTape_32 (fun H locs hP hS => ?_)
          refine lv_aload_n hx hb dX10_putOnTape_33 rfl (lv_at hl 1 rfl) ?_
          refine lv_dup hx hb dX10_putOnTape_34 rfl ?_
          refine rwG_taped C hP mF_X10_81 dX10_putOnTape_35 ?_
          show W p l e (gRm 0 0) s m args below meth c _ _ 0 0 Q (F0 m 38 ls [.int (iI ((v 0) + 1)), .ref (ad 0)])
          refine lv_iconst (v := iI 1) hx hb dX10_putOnTape_38 rfl ?_
          refine gi_add (z := ((v 0) + 2)) hx hb dX10_putOnTape_39 (by omega) ?_
          refine rwP_taped (v1 := (va_up v 0 ((v 0) + 2))) C hP hD hS mF_X10_81 (by omega) rfl (Or.inr (gF_up (gR_up ⟨hok.1, hok.2⟩ 0 (by omega)) 0 (u1_rng (u1_rng (hok.2 0) (by omega)) (by omega)))) dX10_putOnTape_40 (fun H locs hP hS => ?_)
          refine lv_iinc (v := iI 8) (lv' := [(2, .int (iI 8)), (0, .ref (ad 0)), (1, .int (iI a))]) hx hb dX10_putOnTape_43 hl (k := 0) rfl (by show iI _ + iI (-8) = _; rw [iI_add]; congr 1) (by decide) rfl (fun ls hl => ?_)
          refine lv_goto (tgt := 3) hx hb dX10_putOnTape_46 (by decide) ?_
          refine lv_iload_n hx hb dX10_putOnTape_3 rfl (lv_at hl 0 rfl) ?_
          refine gi_zlt (tgt := 49) hx hb dX10_putOnTape_4 (by decide) (by decide) (fun c_10 => ?_) (fun c_10 => ?_)
          · exfalso; omega
          · refine lv_aload_n hx hb dX10_putOnTape_7 rfl (lv_at hl 1 rfl) ?_
            refine rwG_taped C hP mF_X10_81 dX10_putOnTape_8 ?_
            show W p l e (gRm 0 0) s m args below meth c _ _ 0 0 Q (F0 m 11 ls [.int (iI ((v 0) + 2))])
            refine lv_sipush (v := iI 700) hx hb dX10_putOnTape_11 (by decide) ?_
            refine gi_cge (tgt := 43) hx hb dX10_putOnTape_14 (by decide) (by omega) (by decide) (fun c_11 => ?_) (fun c_11 => ?_)
            · exfalso; omega
            · refine lv_aload_n hx hb dX10_putOnTape_17 rfl (lv_at hl 1 rfl) ?_
              refine rwG_tape C hP mF_X10_9 dX10_putOnTape_18 ?_
              refine lv_aload_n hx hb dX10_putOnTape_21 rfl (lv_at hl 1 rfl) ?_
              refine rwG_taped C hP mF_X10_81 dX10_putOnTape_22 ?_
              show W p l e (gRm 0 0) s m args below meth c _ _ 0 0 Q (F0 m 25 ls [.int (iI ((v 0) + 2)), .ref (ad 1)])
              refine lv_iload_n hx hb dX10_putOnTape_25 rfl (lv_at hl 2 rfl) ?_
              refine lv_iload_n hx hb dX10_putOnTape_26 rfl (lv_at hl 0 rfl) ?_
              obtain ⟨x_12, ex_12, hx_12⟩ : ∃ z : Int, ((iI a).toUInt32 >>> ((iI 8).toUInt32 &&& Int32.toUInt32 31)).toInt32 = iI z ∧ inR z := ⟨(((iI a).toUInt32 >>> ((iI 8).toUInt32 &&& Int32.toUInt32 31)).toInt32).toInt, (iI_of _).symm, iI_rng _⟩
              refine gi_ushr (z := x_12) hx hb dX10_putOnTape_27 ex_12 ?_
              refine lv_sipush (v := iI 255) hx hb dX10_putOnTape_28 (by decide) ?_
              obtain ⟨x_13, ex_13, hx_13⟩ : ∃ z : Int, iI x_12 &&& iI 255 = iI z ∧ inR z := ⟨(iI x_12 &&& iI 255).toInt, (iI_of _).symm, iI_rng _⟩
              refine gi_and (z := x_13) hx hb dX10_putOnTape_31 ex_13 ?_
              refine rwS_tape (f1 := (va_up f 0 (u1 (u1 (u1 (f 0) (v 0) x_5) ((v 0) + 1) x_9) ((v 0) + 2) x_13))) C hP hD hS (by omega) (by omega) (by omega) rfl (Or.inr (gF_up (gR_up ⟨hok.1, hok.2⟩ 0 (by omega)) 0 (u1_rng (u1_rng (u1_rng (hok.2 0) (by omega)) (by omega)) (by omega)))) dX10_putOnTape_32 (fun H locs hP hS => ?_)
              refine lv_aload_n hx hb dX10_putOnTape_33 rfl (lv_at hl 1 rfl) ?_
              refine lv_dup hx hb dX10_putOnTape_34 rfl ?_
              refine rwG_taped C hP mF_X10_81 dX10_putOnTape_35 ?_
              show W p l e (gRm 0 0) s m args below meth c _ _ 0 0 Q (F0 m 38 ls [.int (iI ((v 0) + 2)), .ref (ad 0)])
              refine lv_iconst (v := iI 1) hx hb dX10_putOnTape_38 rfl ?_
              refine gi_add (z := ((v 0) + 3)) hx hb dX10_putOnTape_39 (by omega) ?_
              refine rwP_taped (v1 := (va_up v 0 ((v 0) + 3))) C hP hD hS mF_X10_81 (by omega) rfl (Or.inr (gF_up (gR_up ⟨hok.1, hok.2⟩ 0 (by omega)) 0 (u1_rng (u1_rng (u1_rng (hok.2 0) (by omega)) (by omega)) (by omega)))) dX10_putOnTape_40 (fun H locs hP hS => ?_)
              refine lv_iinc (v := iI 0) (lv' := [(2, .int (iI 0)), (0, .ref (ad 0)), (1, .int (iI a))]) hx hb dX10_putOnTape_43 hl (k := 0) rfl (by show iI _ + iI (-8) = _; rw [iI_add]; congr 1) (by decide) rfl (fun ls hl => ?_)
              refine lv_goto (tgt := 3) hx hb dX10_putOnTape_46 (by decide) ?_
              refine lv_iload_n hx hb dX10_putOnTape_3 rfl (lv_at hl 0 rfl) ?_
              refine gi_zlt (tgt := 49) hx hb dX10_putOnTape_4 (by decide) (by decide) (fun c_14 => ?_) (fun c_14 => ?_)
              · exfalso; omega
              · refine lv_aload_n hx hb dX10_putOnTape_7 rfl (lv_at hl 1 rfl) ?_
                refine rwG_taped C hP mF_X10_81 dX10_putOnTape_8 ?_
                show W p l e (gRm 0 0) s m args below meth c _ _ 0 0 Q (F0 m 11 ls [.int (iI ((v 0) + 3))])
                refine lv_sipush (v := iI 700) hx hb dX10_putOnTape_11 (by decide) ?_
                refine gi_cge (tgt := 43) hx hb dX10_putOnTape_14 (by decide) (by omega) (by decide) (fun c_15 => ?_) (fun c_15 => ?_)
                · exfalso; omega
                · refine lv_aload_n hx hb dX10_putOnTape_17 rfl (lv_at hl 1 rfl) ?_
                  refine rwG_tape C hP mF_X10_9 dX10_putOnTape_18 ?_
                  refine lv_aload_n hx hb dX10_putOnTape_21 rfl (lv_at hl 1 rfl) ?_
                  refine rwG_taped C hP mF_X10_81 dX10_putOnTape_22 ?_
                  show W p l e (gRm 0 0) s m args below meth c _ _ 0 0 Q (F0 m 25 ls [.int (iI ((v 0) + 3)), .ref (ad 1)])
                  refine lv_iload_n hx hb dX10_putOnTape_25 rfl (lv_at hl 2 rfl) ?_
                  refine lv_iload_n hx hb dX10_putOnTape_26 rfl (lv_at hl 0 rfl) ?_
                  obtain ⟨x_16, ex_16, hx_16⟩ : ∃ z : Int, ((iI a).toUInt32 >>> ((iI 0).toUInt32 &&& Int32.toUInt32 31)).toInt32 = iI z ∧ inR z := ⟨(((iI a).toUInt32 >>> ((iI 0).toUInt32 &&& Int32.toUInt32 31)).toInt32).toInt, (iI_of _).symm, iI_rng _⟩
                  refine gi_ushr (z := x_16) hx hb dX10_putOnTape_27 ex_16 ?_
                  refine lv_sipush (v := iI 255) hx hb dX10_putOnTape_28 (by decide) ?_
                  obtain ⟨x_17, ex_17, hx_17⟩ : ∃ z : Int, iI x_16 &&& iI 255 = iI z ∧ inR z := ⟨(iI x_16 &&& iI 255).toInt, (iI_of _).symm, iI_rng _⟩
                  refine gi_and (z := x_17) hx hb dX10_putOnTape_31 ex_17 ?_
                  refine rwS_tape (f1 := (va_up f 0 (u1 (u1 (u1 (u1 (f 0) (v 0) x_5) ((v 0) + 1) x_9) ((v 0) + 2) x_13) ((v 0) + 3) x_17))) C hP hD hS (by omega) (by omega) (by omega) rfl (Or.inr (gF_up (gR_up ⟨hok.1, hok.2⟩ 0 (by omega)) 0 (u1_rng (u1_rng (u1_rng (u1_rng (hok.2 0) (by omega)) (by omega)) (by omega)) (by omega)))) dX10_putOnTape_32 (fun H locs hP hS => ?_)
                  refine lv_aload_n hx hb dX10_putOnTape_33 rfl (lv_at hl 1 rfl) ?_
                  refine lv_dup hx hb dX10_putOnTape_34 rfl ?_
                  refine rwG_taped C hP mF_X10_81 dX10_putOnTape_35 ?_
                  show W p l e (gRm 0 0) s m args below meth c _ _ 0 0 Q (F0 m 38 ls [.int (iI ((v 0) + 3)), .ref (ad 0)])
                  refine lv_iconst (v := iI 1) hx hb dX10_putOnTape_38 rfl ?_
                  refine gi_add (z := ((v 0) + 4)) hx hb dX10_putOnTape_39 (by omega) ?_
                  refine rwP_taped (v1 := (va_up v 0 ((v 0) + 4))) C hP hD hS mF_X10_81 (by omega) rfl (Or.inr (gF_up (gR_up ⟨hok.1, hok.2⟩ 0 (by omega)) 0 (u1_rng (u1_rng (u1_rng (u1_rng (hok.2 0) (by omega)) (by omega)) (by omega)) (by omega)))) dX10_putOnTape_40 (fun H locs hP hS => ?_)
                  refine lv_iinc (v := iI (-8)) (lv' := [(2, .int (iI (-8))), (0, .ref (ad 0)), (1, .int (iI a))]) hx hb dX10_putOnTape_43 hl (k := 0) rfl (by show iI _ + iI (-8) = _; rw [iI_add]; congr 1) (by decide) rfl (fun ls hl => ?_)
                  refine lv_goto (tgt := 3) hx hb dX10_putOnTape_46 (by decide) ?_
                  refine lv_iload_n hx hb dX10_putOnTape_3 rfl (lv_at hl 0 rfl) ?_
                  refine gi_zlt (tgt := 49) hx hb dX10_putOnTape_4 (by decide) (by decide) (fun c_18 => ?_) (fun c_18 => ?_)
                  · exact g_vret hQ C hr hlocks hP hS dX10_putOnTape_49 ⟨rfl, rfl, trivial, rfl⟩
                  · exfalso; omega

set_option maxHeartbeats 4000000 in
set_option maxRecDepth 100000 in
theorem c_X7_anyOpen (l : Launch) (D : va_G) (k : Nat → ClassId) (A : Nat → Prop) (ad : Nat → Nat) (hD : rwD A k ad) (v : gV) (f g : gF) (qf : ∀ k, f 27 k = 0) : GM l D k A (rwW k ad) yX7_anyOpen cX7_anyOpen 2 (some .boolean) 0 0 [.ref (ad 30)] v f g (fun r v1 f1 g1 => r = some (.int (iI 0)) ∧ v = v1 ∧ f = f1 ∧ g = g1) := by
  refine GM.of (by decide) (Nat.le_of_ble_eq_true rfl) ?_
  intro p e s m args below meth c Q ls hQ C hml hr hlocks hP hl
  have hx := C.1
  have hb := C.2.1
  have hok := hP.2
  have hS : va_S A s.heap s.heap [] := va_S.rf
  have hl : lv_has ls 2 [(0, .ref (ad 30))] := hl
  refine lv_iconst (v := iI 0) hx hb dX7_anyOpen_0 rfl ?_
  refine lv_istore_n (lv' := [(1, .int (iI 0)), (0, .ref (ad 30))]) hx hb dX7_anyOpen_1 rfl hl (by decide) rfl (fun ls hl => ?_)
  have L_1 : ∀ (n : Nat) (x1 : Int) (H : Heap) (locs : List Loc) (ls : Array Slot), 16 - x1 < (n : Int) → 0 ≤ x1 → x1 ≤ 16 → gWd D (rwW k ad) v f g H → va_S A s.heap H locs → lv_has ls 2 [(0, .ref (ad 30)), (1, .int (iI x1))] → W p l e (gRm 0 0) s m args below meth c H locs 0 0 Q (F0 m 2 ls []) := by
    intro n
    induction n with
    | zero =>
      intro x1 H locs ls hn_1 i_1_0 i_1_1 hP hS hl
      exfalso; omega
    | succ n ih_2 =>
      intro x1 H locs ls hn_1 i_1_0 i_1_1 hP hS hl
      refine lv_iload_n hx hb dX7_anyOpen_2 rfl (lv_at hl 1 rfl) ?_
      refine lv_bipush (v := iI 16) hx hb dX7_anyOpen_3 (by decide) ?_
      refine gi_cge (tgt := 25) hx hb dX7_anyOpen_5 (by decide) (by omega) (by decide) (fun c_2 => ?_) (fun c_2 => ?_)
      · refine lv_iconst (v := iI 0) hx hb dX7_anyOpen_25 rfl ?_
        exact g_zret hQ C hr hlocks (by decide) hP hS dX7_anyOpen_26 ⟨rfl, rfl, rfl, rfl⟩
      · refine lv_aload_n hx hb dX7_anyOpen_8 rfl (lv_at hl 0 rfl) ?_
        refine rwG_tries_openNext C hP mF_X7_33 dX7_anyOpen_9 ?_
        refine lv_iload_n hx hb dX7_anyOpen_12 rfl (lv_at hl 1 rfl) ?_
        refine rwL_tries_openNext C hP (by omega) (by omega) dX7_anyOpen_13 ?_
        have r_3 := hok.2 27 x1
        have r_4 := qf (x1)
        refine gi_zle (tgt := 19) hx hb dX7_anyOpen_14 (by decide) (by omega) (fun c_5 => ?_) (fun c_5 => ?_)
        · refine lv_iinc (v := iI (x1 + 1)) (lv' := [(1, .int (iI (x1 + 1))), (0, .ref (ad 30))]) hx hb dX7_anyOpen_19 hl (k := 1) rfl (by show iI _ + iI 1 = _; rw [iI_add]) (by decide) rfl (fun ls hl => ?_)
          refine lv_goto (tgt := 2) hx hb dX7_anyOpen_22 (by decide) ?_
          exact ih_2 (x1 + 1) _ _ _ (by omega) (by omega) (by omega) hP hS (lv_sub hl [1, 0] rfl)
        · exfalso; omega
  exact L_1 17 0 _ _ _ (by omega) (by omega) (by omega) hP hS (lv_sub hl [1, 0] rfl)

set_option maxHeartbeats 4000000 in
set_option maxRecDepth 100000 in
theorem c_X7_endOverdue (l : Launch) (D : va_G) (k : Nat → ClassId) (A : Nat → Prop) (ad : Nat → Nat) (hD : rwD A k ad) (v : gV) (f g : gF) (a : Int) (b : Int) (h_a : inR a) (h_b : inR b) (qf : ∀ k, f 27 k = 0) : GM l D k A (rwW k ad) yX7_endOverdue cX7_endOverdue 5 none 1 21 [.ref (ad 30), .int (iI a), .int (iI b)] v f g (fun r v1 f1 g1 => r = none ∧ v = v1 ∧ f = f1 ∧ g = g1) := by
  refine GM.of (by decide) (Nat.le_of_ble_eq_true rfl) ?_
  intro p e s m args below meth c Q ls hQ C hml hr hlocks hP hl
  have hx := C.1
  have hb := C.2.1
  have hok := hP.2
  have hS : va_S A s.heap s.heap [] := va_S.rf
  have hl : lv_has ls 5 [(0, .ref (ad 30)), (1, .int (iI a)), (2, .int (iI b))] := hl
  refine lv_iconst (v := iI 0) hx hb dX7_endOverdue_0 rfl ?_
  refine lv_istore_n (lv' := [(3, .int (iI 0)), (0, .ref (ad 30)), (1, .int (iI a)), (2, .int (iI b))]) hx hb dX7_endOverdue_1 rfl hl (by decide) rfl (fun ls hl => ?_)
  have L_1 : ∀ (n : Nat) (x3 : Int) (H : Heap) (locs : List Loc) (ls : Array Slot), 16 - x3 < (n : Int) → 0 ≤ x3 → x3 ≤ 16 → gWd D (rwW k ad) v f g H → va_S A s.heap H locs → lv_has ls 5 [(0, .ref (ad 30)), (1, .int (iI a)), (2, .int (iI b)), (3, .int (iI x3))] → W p l e (gRm 1 21) s m args below meth c H locs 0 0 Q (F0 m 2 ls []) := by
    intro n
    induction n with
    | zero =>
      intro x3 H locs ls hn_1 i_1_0 i_1_1 hP hS hl
      exfalso; omega
    | succ n ih_2 =>
      intro x3 H locs ls hn_1 i_1_0 i_1_1 hP hS hl
      refine lv_iload_n hx hb dX7_endOverdue_2 rfl (lv_at hl 3 rfl) ?_
      refine lv_bipush (v := iI 16) hx hb dX7_endOverdue_3 (by decide) ?_
      refine gi_cge (tgt := 56) hx hb dX7_endOverdue_5 (by decide) (by omega) (by decide) (fun c_2 => ?_) (fun c_2 => ?_)
      · exact g_vret hQ C hr hlocks hP hS dX7_endOverdue_56 ⟨rfl, rfl, rfl, rfl⟩
      · refine lv_aload_n hx hb dX7_endOverdue_8 rfl (lv_at hl 0 rfl) ?_
        refine lv_iload_n hx hb dX7_endOverdue_9 rfl (lv_at hl 3 rfl) ?_
        refine g_cv (As := [.int (iI x3)]) (rest := []) (n := 1) C hml (c_X7_openOf l D k A ad hD v f g x3 (by omega) (show 0 ≤ x3 ∧ x3 < 16 from by omega) (by rw [qf]; decide)) mM_X7_46 mI_X7_openOf mE_X7_openOf mN_X7 mC_X7_openOf (by decide +kernel) 30 (ci := 7) rfl rfl hP hS (fun _ h => h) ⟨Nat.le_of_ble_eq_true rfl, Nat.le_of_ble_eq_true rfl⟩ ⟨Nat.zero_le _, Nat.zero_le _⟩ hl.1 rfl rfl (Nat.le_of_ble_eq_true rfl) dX7_endOverdue_10 (fun r_3 v_3 f_3 g_3 H locs hq_3 hP _ hS => ?_)
        obtain ⟨⟨z_3, rfl, ez0_3⟩, rfl, rfl, rfl⟩ := hq_3
        have ez_3 : z_3 = (f 27 x3 - 1) := ez0_3
        have hz_3 : inR z_3 := (by rw [ez_3, qf]; decide)
        show W p l e (gRm 1 21) s m args below meth c _ _ 0 0 Q (F0 m 13 ls [.int (iI z_3)])
        have k_3 : z_3 = (-1) := by rw [ez_3]; rw [qf]; decide
        refine lv_istore (lv' := [(4, .int (iI z_3)), (0, .ref (ad 30)), (1, .int (iI a)), (2, .int (iI b)), (3, .int (iI x3))]) hx hb dX7_endOverdue_13 hl (by decide) rfl (fun ls hl => ?_)
        refine lv_iload hx hb dX7_endOverdue_15 (lv_at hl 0 rfl) ?_
        refine lv_iconst (v := iI (-1)) hx hb dX7_endOverdue_17 rfl ?_
        refine gi_ceq (tgt := 50) hx hb dX7_endOverdue_18 (by decide) (by omega) (by decide) (fun c_4 => ?_) (fun c_4 => ?_)
        · refine lv_iinc (v := iI (x3 + 1)) (lv' := [(3, .int (iI (x3 + 1))), (4, .int (iI z_3)), (0, .ref (ad 30)), (1, .int (iI a)), (2, .int (iI b))]) hx hb dX7_endOverdue_50 hl (k := 4) rfl (by show iI _ + iI 1 = _; rw [iI_add]) (by decide) rfl (fun ls hl => ?_)
          refine lv_goto (tgt := 2) hx hb dX7_endOverdue_53 (by decide) ?_
          exact ih_2 (x3 + 1) _ _ _ (by omega) (by omega) (by omega) hP hS (lv_sub hl [2, 3, 4, 0] rfl)
        · exfalso; omega
  exact L_1 17 0 _ _ _ (by omega) (by omega) (by omega) hP hS (lv_sub hl [1, 2, 3, 0] rfl)

set_option maxHeartbeats 4000000 in
set_option maxRecDepth 100000 in
theorem c_X10_status (l : Launch) (D : va_G) (k : Nat → ClassId) (A : Nat → Prop) (ad : Nat → Nat) (hD : rwD A k ad) (v : gV) (f g : gF) (q0 : v 0 = 0) (q1 : v 1 = 0) (q21 : v 21 = 0) (q22 : v 22 = 0) (q23 : v 23 = 0) (q25 : v 25 = 0) (q26 : v 26 = 0) (q27 : v 27 = (-1)) (q28 : v 28 = (-1)) (qf : ∀ k, f 27 k = 0) : GM l D k A (rwW k ad) yX10_status cX10_status 1 (some .int) 0 0 [.ref (ad 0)] v f g (fun r v1 f1 g1 => r = some (.int (iI 0)) ∧ True ∧ True ∧ True) := by
  refine GM.of (by decide) (Nat.le_of_ble_eq_true rfl) ?_
  intro p e s m args below meth c Q ls hQ C hml hr hlocks hP hl
  have hx := C.1
  have hb := C.2.1
  have hok := hP.2
  have hS : va_S A s.heap s.heap [] := va_S.rf
  have hl : lv_has ls 1 [(0, .ref (ad 0))] := hl
  refine lv_aload_n hx hb dX10_status_0 rfl (lv_at hl 0 rfl) ?_
  refine rwG_state C hP mF_X10_71 dX10_status_1 ?_
  have r_1 := hok.1 25
  exact g_iret hQ C hr hlocks hP hS dX10_status_4 ⟨(congrArg (fun z => some (Value.int (iI z))) (by first | omega | (split <;> omega))), trivial, trivial, trivial⟩

set_option maxHeartbeats 4000000 in
set_option maxRecDepth 100000 in
theorem c_X10_feed (l : Launch) (D : va_G) (k : Nat → ClassId) (A : Nat → Prop) (ad : Nat → Nat) (hD : rwD A k ad) (v : gV) (f g : gF) (a1 : Int) (a2 : Int) (a3 : Int) (a4 : Int) (a5 : Int) (h_a1 : inR a1) (h_a2 : inR a2) (h_a3 : inR a3) (h_a4 : inR a4) (h_a5 : inR a5) (q0 : v 0 = 0) (q1 : v 1 = 0) (q21 : v 21 = 0) (q22 : v 22 = 0) (q23 : v 23 = 0) (q25 : v 25 = 0) (q26 : v 26 = 0) (q27 : v 27 = (-1)) (q28 : v 28 = (-1)) (qf : ∀ k, f 27 k = 0) : GM l D k A (rwW k ad) yX10_feed cX10_feed 6 (some .int) 1 22 [.ref (ad 0), .int (iI a1), .int (iI a2), .int (iI a3), .int (iI a4), .int (iI a5)] v f g (fun r v1 f1 g1 => r = some (.int (iI 20)) ∧ True ∧ True ∧ True) := by
  refine GM.of (by decide) (Nat.le_of_ble_eq_true rfl) ?_
  intro p e s m args below meth c Q ls hQ C hml hr hlocks hP hl
  have hx := C.1
  have hb := C.2.1
  have hok := hP.2
  have hS : va_S A s.heap s.heap [] := va_S.rf
  have hl : lv_has ls 6 [(0, .ref (ad 0)), (1, .int (iI a1)), (2, .int (iI a2)), (3, .int (iI a3)), (4, .int (iI a4)), (5, .int (iI a5))] := hl
  refine lv_aload_n hx hb dX10_feed_0 rfl (lv_at hl 0 rfl) ?_
  refine rwG_taped C hP mF_X10_81 dX10_feed_1 ?_
  have r_1 := hok.1 0
  refine lv_bipush (v := iI 20) hx hb dX10_feed_4 (by decide) ?_
  refine gi_add (z := ((v 0) + 20)) hx hb dX10_feed_6 rfl ?_
  refine lv_sipush (v := iI 700) hx hb dX10_feed_7 (by decide) ?_
  refine gi_cle (tgt := 15) hx hb dX10_feed_10 (by decide) (by omega) (by decide) (fun c_2 => ?_) (fun c_2 => ?_)
  · refine lv_aload_n hx hb dX10_feed_15 rfl (lv_at hl 0 rfl) ?_
    refine lv_iload_n hx hb dX10_feed_16 rfl (lv_at hl 1 rfl) ?_
    refine g_cv (As := [.int (iI a1)]) (rest := []) (n := 1) C hml (c_X10_putOnTape l D k A ad hD v f g a1 (by omega) (show 0 ≤ v 0 ∧ v 0 ≤ 696 from by omega)) mM_X10_84 mI_X10_putOnTape mE_X10_putOnTape mN_X10 mC_X10_putOnTape (by decide +kernel) 0 (ci := 10) rfl rfl hP hS (fun _ h => h) ⟨Nat.le_of_ble_eq_true rfl, Nat.le_of_ble_eq_true rfl⟩ ⟨Nat.zero_le _, Nat.zero_le _⟩ hl.1 rfl rfl (Nat.le_of_ble_eq_true rfl) dX10_feed_17 (fun r_3 v_3 f_3 g_3 H locs hq_3 hP _ hS => ?_)
    obtain ⟨rfl, rfl, -, rfl⟩ := hq_3
    show W p l e (gRm 1 22) s m args below meth c _ _ 0 0 Q (F0 m 20 ls [])
    have hf_3 := hP.2.2
    refine lv_aload_n hx hb dX10_feed_20 rfl (lv_at hl 0 rfl) ?_
    refine lv_iload_n hx hb dX10_feed_21 rfl (lv_at hl 2 rfl) ?_
    refine g_cv (As := [.int (iI a2)]) (rest := []) (n := 1) C hml (c_X10_putOnTape l D k A ad hD (va_up v 0 ((v 0) + 4)) f_3 g a2 (by omega) (show 0 ≤ ((v 0) + 4) ∧ ((v 0) + 4) ≤ 696 from by omega)) mM_X10_84 mI_X10_putOnTape mE_X10_putOnTape mN_X10 mC_X10_putOnTape (by decide +kernel) 0 (ci := 10) rfl rfl hP hS (fun _ h => h) ⟨Nat.le_of_ble_eq_true rfl, Nat.le_of_ble_eq_true rfl⟩ ⟨Nat.zero_le _, Nat.zero_le _⟩ hl.1 rfl rfl (Nat.le_of_ble_eq_true rfl) dX10_feed_22 (fun r_4 v_4 f_4 g_4 H locs hq_4 hP _ hS => ?_)
    obtain ⟨rfl, rfl, -, rfl⟩ := hq_4
    show W p l e (gRm 1 22) s m args below meth c _ _ 0 0 Q (F0 m 25 ls [])
    have hf_4 := hP.2.2
    have hP : gWd D (rwW k ad) (va_up v 0 ((((v 0) + 4)) + 4)) f_4 g H := ⟨hP.1, (gR_up ⟨hok.1, hf_4⟩ 0 (by omega))⟩
    refine lv_aload_n hx hb dX10_feed_25 rfl (lv_at hl 0 rfl) ?_
    refine lv_iload_n hx hb dX10_feed_26 rfl (lv_at hl 3 rfl) ?_
    refine g_cv (As := [.int (iI a3)]) (rest := []) (n := 1) C hml (c_X10_putOnTape l D k A ad hD (va_up v 0 ((((v 0) + 4)) + 4)) f_4 g a3 (by omega) (show 0 ≤ ((((v 0) + 4)) + 4) ∧ ((((v 0) + 4)) + 4) ≤ 696 from by omega)) mM_X10_84 mI_X10_putOnTape mE_X10_putOnTape mN_X10 mC_X10_putOnTape (by decide +kernel) 0 (ci := 10) rfl rfl hP hS (fun _ h => h) ⟨Nat.le_of_ble_eq_true rfl, Nat.le_of_ble_eq_true rfl⟩ ⟨Nat.zero_le _, Nat.zero_le _⟩ hl.1 rfl rfl (Nat.le_of_ble_eq_true rfl) dX10_feed_27 (fun r_5 v_5 f_5 g_5 H locs hq_5 hP _ hS => ?_)
    obtain ⟨rfl, rfl, -, rfl⟩ := hq_5
    show W p l e (gRm 1 22) s m args below meth c _ _ 0 0 Q (F0 m 30 ls [])
    have hf_5 := hP.2.2
    have hP : gWd D (rwW k ad) (va_up v 0 ((((((v 0) + 4)) + 4)) + 4)) f_5 g H := ⟨hP.1, (gR_up ⟨hok.1, hf_5⟩ 0 (by omega))⟩
    refine lv_aload_n hx hb dX10_feed_30 rfl (lv_at hl 0 rfl) ?_
    refine lv_iload hx hb dX10_feed_31 (lv_at hl 4 rfl) ?_
    refine g_cv (As := [.int (iI a4)]) (rest := []) (n := 1) C hml (c_X10_putOnTape l D k A ad hD (va_up v 0 ((((((v 0) + 4)) + 4)) + 4)) f_5 g a4 (by omega) (show 0 ≤ ((((((v 0) + 4)) + 4)) + 4) ∧ ((((((v 0) + 4)) + 4)) + 4) ≤ 696 from by omega)) mM_X10_84 mI_X10_putOnTape mE_X10_putOnTape mN_X10 mC_X10_putOnTape (by decide +kernel) 0 (ci := 10) rfl rfl hP hS (fun _ h => h) ⟨Nat.le_of_ble_eq_true rfl, Nat.le_of_ble_eq_true rfl⟩ ⟨Nat.zero_le _, Nat.zero_le _⟩ hl.1 rfl rfl (Nat.le_of_ble_eq_true rfl) dX10_feed_33 (fun r_6 v_6 f_6 g_6 H locs hq_6 hP _ hS => ?_)
    obtain ⟨rfl, rfl, -, rfl⟩ := hq_6
    show W p l e (gRm 1 22) s m args below meth c _ _ 0 0 Q (F0 m 36 ls [])
    have hf_6 := hP.2.2
    have hP : gWd D (rwW k ad) (va_up v 0 ((((((((v 0) + 4)) + 4)) + 4)) + 4)) f_6 g H := ⟨hP.1, (gR_up ⟨hok.1, hf_6⟩ 0 (by omega))⟩
    refine lv_aload_n hx hb dX10_feed_36 rfl (lv_at hl 0 rfl) ?_
    refine lv_iload hx hb dX10_feed_37 (lv_at hl 5 rfl) ?_
    refine g_cv (As := [.int (iI a5)]) (rest := []) (n := 1) C hml (c_X10_putOnTape l D k A ad hD (va_up v 0 ((((((((v 0) + 4)) + 4)) + 4)) + 4)) f_6 g a5 (by omega) (show 0 ≤ ((((((((v 0) + 4)) + 4)) + 4)) + 4) ∧ ((((((((v 0) + 4)) + 4)) + 4)) + 4) ≤ 696 from by omega)) mM_X10_84 mI_X10_putOnTape mE_X10_putOnTape mN_X10 mC_X10_putOnTape (by decide +kernel) 0 (ci := 10) rfl rfl hP hS (fun _ h => h) ⟨Nat.le_of_ble_eq_true rfl, Nat.le_of_ble_eq_true rfl⟩ ⟨Nat.zero_le _, Nat.zero_le _⟩ hl.1 rfl rfl (Nat.le_of_ble_eq_true rfl) dX10_feed_39 (fun r_7 v_7 f_7 g_7 H locs hq_7 hP _ hS => ?_)
    obtain ⟨rfl, rfl, -, rfl⟩ := hq_7
    show W p l e (gRm 1 22) s m args below meth c _ _ 0 0 Q (F0 m 42 ls [])
    have hf_7 := hP.2.2
    have hP : gWd D (rwW k ad) (va_up v 0 ((((((((((v 0) + 4)) + 4)) + 4)) + 4)) + 4)) f_7 g H := ⟨hP.1, (gR_up ⟨hok.1, hf_7⟩ 0 (by omega))⟩
    refine lv_aload_n hx hb dX10_feed_42 rfl (lv_at hl 0 rfl) ?_
    refine rwG_taped C hP mF_X10_81 dX10_feed_43 ?_
    show W p l e (gRm 1 22) s m args below meth c _ _ 0 0 Q (F0 m 46 ls [.int (iI ((((((((((v 0) + 4)) + 4)) + 4)) + 4)) + 4))])
    exact g_iret hQ C hr hlocks hP hS dX10_feed_46 ⟨(congrArg (fun z => some (Value.int (iI z))) (by first | omega | (split <;> omega))), trivial, trivial, trivial⟩
  · exfalso; omega

set_option maxHeartbeats 4000000 in
set_option maxRecDepth 100000 in
theorem c_X10_fault (l : Launch) (D : va_G) (k : Nat → ClassId) (A : Nat → Prop) (ad : Nat → Nat) (hD : rwD A k ad) (v : gV) (f g : gF) (a1 : Int) (h_a1 : inR a1) (q0 : v 0 = 0) (q1 : v 1 = 0) (q21 : v 21 = 0) (q22 : v 22 = 0) (q23 : v 23 = 0) (q25 : v 25 = 0) (q26 : v 26 = 0) (q27 : v 27 = (-1)) (q28 : v 28 = (-1)) (qf : ∀ k, f 27 k = 0) : GM l D k A (rwW k ad) yX10_fault cX10_fault 2 (some .int) 0 0 [.ref (ad 0), .int (iI a1)] v f g (fun r v1 f1 g1 => r = some (.int (iI (-1))) ∧ True ∧ True ∧ True) := by
  refine GM.of (by decide) (Nat.le_of_ble_eq_true rfl) ?_
  intro p e s m args below meth c Q ls hQ C hml hr hlocks hP hl
  have hx := C.1
  have hb := C.2.1
  have hok := hP.2
  have hS : va_S A s.heap s.heap [] := va_S.rf
  have hl : lv_has ls 2 [(0, .ref (ad 0)), (1, .int (iI a1))] := hl
  refine lv_iload_n hx hb dX10_fault_0 rfl (lv_at hl 1 rfl) ?_
  refine gi_zne (tgt := 9) hx hb dX10_fault_1 (by decide) (by omega) (fun c_1 => ?_) (fun c_1 => ?_)
  · refine lv_iload_n hx hb dX10_fault_9 rfl (lv_at hl 1 rfl) ?_
    refine lv_iconst (v := iI 1) hx hb dX10_fault_10 rfl ?_
    refine gi_cne (tgt := 21) hx hb dX10_fault_11 (by decide) (by omega) (by decide) (fun c_2 => ?_) (fun c_2 => ?_)
    · refine lv_iconst (v := iI (-1)) hx hb dX10_fault_21 rfl ?_
      exact g_iret hQ C hr hlocks hP hS dX10_fault_22 ⟨rfl, trivial, trivial, trivial⟩
    · refine lv_aload_n hx hb dX10_fault_14 rfl (lv_at hl 0 rfl) ?_
      refine rwG_faultPlace C hP mF_X10_78 dX10_fault_15 ?_
      have r_3 := hok.1 28
      refine lv_goto (tgt := 22) hx hb dX10_fault_18 (by decide) ?_
      exact g_iret hQ C hr hlocks hP hS dX10_fault_22 ⟨(congrArg (fun z => some (Value.int (iI z))) (by first | omega | (split <;> omega))), trivial, trivial, trivial⟩
  · refine lv_aload_n hx hb dX10_fault_4 rfl (lv_at hl 0 rfl) ?_
    refine rwG_faultKind C hP mF_X10_75 dX10_fault_5 ?_
    have r_4 := hok.1 27
    exact g_iret hQ C hr hlocks hP hS dX10_fault_8 ⟨(congrArg (fun z => some (Value.int (iI z))) (by first | omega | (split <;> omega))), trivial, trivial, trivial⟩

set_option maxHeartbeats 4000000 in
set_option maxRecDepth 100000 in
theorem c_X10_climber (l : Launch) (D : va_G) (k : Nat → ClassId) (A : Nat → Prop) (ad : Nat → Nat) (hD : rwD A k ad) (v : gV) (f g : gF) (q0 : v 0 = 0) (q1 : v 1 = 0) (q21 : v 21 = 0) (q22 : v 22 = 0) (q23 : v 23 = 0) (q25 : v 25 = 0) (q26 : v 26 = 0) (q27 : v 27 = (-1)) (q28 : v 28 = (-1)) (qf : ∀ k, f 27 k = 0) : GM l D k A (rwW k ad) yX10_climber cX10_climber 1 (some .int) 1 21 [.ref (ad 0)] v f g (fun r v1 f1 g1 => r = some (.int (iI (-1))) ∧ True ∧ True ∧ True) := by
  refine GM.of (by decide) (Nat.le_of_ble_eq_true rfl) ?_
  intro p e s m args below meth c Q ls hQ C hml hr hlocks hP hl
  have hx := C.1
  have hb := C.2.1
  have hok := hP.2
  have hS : va_S A s.heap s.heap [] := va_S.rf
  have hl : lv_has ls 1 [(0, .ref (ad 0))] := hl
  refine lv_aload_n hx hb dX10_climber_0 rfl (lv_at hl 0 rfl) ?_
  refine rwG_laws C hP mF_X10_16 dX10_climber_1 ?_
  refine rwG_laws_rounds C hP mF_X10_117 dX10_climber_4 ?_
  have r_1 := hok.1 1
  refine gi_zne (tgt := 16) hx hb dX10_climber_7 (by decide) (by omega) (fun c_2 => ?_) (fun c_2 => ?_)
  · exfalso; omega
  · refine lv_aload_n hx hb dX10_climber_10 rfl (lv_at hl 0 rfl) ?_
    refine lv_iconst (v := iI 1) hx hb dX10_climber_11 rfl ?_
    refine g_cv (As := [.int (iI 1)]) (rest := []) (n := 1) C hml (c_X10_refuse l D k A ad hD v f g 1 (by decide)) mM_X10_88 mI_X10_refuse mE_X10_refuse mN_X10 mC_X10_refuse (by decide +kernel) 0 (ci := 10) rfl rfl hP hS (fun _ h => h) ⟨Nat.le_of_ble_eq_true rfl, Nat.le_of_ble_eq_true rfl⟩ ⟨Nat.zero_le _, Nat.zero_le _⟩ hl.1 rfl rfl (Nat.le_of_ble_eq_true rfl) dX10_climber_12 (fun r_3 v_3 f_3 g_3 H locs hq_3 hP _ hS => ?_)
    obtain ⟨rfl, rfl, rfl, rfl⟩ := hq_3
    show W p l e (gRm 1 21) s m args below meth c _ _ 0 0 Q (F0 m 15 ls [.int (iI (-1))])
    exact g_iret hQ C hr hlocks hP hS dX10_climber_15 ⟨rfl, trivial, trivial, trivial⟩

set_option maxHeartbeats 4000000 in
set_option maxRecDepth 100000 in
theorem c_X10_route (l : Launch) (D : va_G) (k : Nat → ClassId) (A : Nat → Prop) (ad : Nat → Nat) (hD : rwD A k ad) (v : gV) (f g : gF) (a1 : Int) (a2 : Int) (a3 : Int) (a4 : Int) (a5 : Int) (a6 : Int) (h_a1 : inR a1) (h_a2 : inR a2) (h_a3 : inR a3) (h_a4 : inR a4) (h_a5 : inR a5) (h_a6 : inR a6) (q0 : v 0 = 0) (q1 : v 1 = 0) (q21 : v 21 = 0) (q22 : v 22 = 0) (q23 : v 23 = 0) (q25 : v 25 = 0) (q26 : v 26 = 0) (q27 : v 27 = (-1)) (q28 : v 28 = (-1)) (qf : ∀ k, f 27 k = 0) : GM l D k A (rwW k ad) yX10_route cX10_route 7 (some .boolean) 2 43 [.ref (ad 0), .int (iI a1), .int (iI a2), .int (iI a3), .int (iI a4), .int (iI a5), .int (iI a6)] v f g (fun r v1 f1 g1 => r = some (.int (iI 0)) ∧ True ∧ True ∧ True) := by
  refine GM.of (by decide) (Nat.le_of_ble_eq_true rfl) ?_
  intro p e s m args below meth c Q ls hQ C hml hr hlocks hP hl
  have hx := C.1
  have hb := C.2.1
  have hok := hP.2
  have hS : va_S A s.heap s.heap [] := va_S.rf
  have hl : lv_has ls 7 [(0, .ref (ad 0)), (1, .int (iI a1)), (2, .int (iI a2)), (3, .int (iI a3)), (4, .int (iI a4)), (5, .int (iI a5)), (6, .int (iI a6))] := hl
  refine lv_aload_n hx hb dX10_route_0 rfl (lv_at hl 0 rfl) ?_
  refine rwG_laws C hP mF_X10_16 dX10_route_1 ?_
  refine lv_iload_n hx hb dX10_route_4 rfl (lv_at hl 1 rfl) ?_
  refine lv_iload_n hx hb dX10_route_5 rfl (lv_at hl 2 rfl) ?_
  refine g_cv (As := [.int (iI a1), .int (iI a2)]) (rest := []) (n := 2) C hml (c_X4_hasRoute l D k A ad hD v f g a1 a2 (by omega) (by omega) (show v 1 ≤ 4 from by omega)) mM_X10_136 mI_X4_hasRoute mE_X4_hasRoute mN_X4 mC_X4_hasRoute (by decide +kernel) 2 (ci := 4) rfl rfl hP hS (fun _ h => h) ⟨Nat.le_of_ble_eq_true rfl, Nat.le_of_ble_eq_true rfl⟩ ⟨Nat.zero_le _, Nat.zero_le _⟩ hl.1 rfl rfl (Nat.le_of_ble_eq_true rfl) dX10_route_6 (fun r_1 v_1 f_1 g_1 H locs hq_1 hP _ hS => ?_)
  obtain ⟨⟨z_1, rfl, ez0_1⟩, rfl, rfl, rfl⟩ := hq_1
  have ez_1 : z_1 = (if (0 ≤ a1 ∧ a1 < v 1) ∧ 0 ≤ a2 ∧ a2 < f 1 (a1 * 4) then 1 else 0) := ez0_1
  have w_1 := gif (P := (0 ≤ a1 ∧ a1 < v 1) ∧ 0 ≤ a2 ∧ a2 < f 1 (a1 * 4)) ez_1
  have hz_1 : inR z_1 := (by omega)
  show W p l e (gRm 2 43) s m args below meth c _ _ 0 0 Q (F0 m 9 ls [.int (iI z_1)])
  have k_1 : z_1 = 0 := by omega
  refine gi_zne (tgt := 18) hx hb dX10_route_9 (by decide) (by omega) (fun c_2 => ?_) (fun c_2 => ?_)
  · exfalso; omega
  · refine lv_aload_n hx hb dX10_route_12 rfl (lv_at hl 0 rfl) ?_
    refine lv_iconst (v := iI 1) hx hb dX10_route_13 rfl ?_
    refine g_cv (As := [.int (iI 1)]) (rest := []) (n := 1) C hml (c_X10_deny l D k A ad hD v f g 1 (by decide)) mM_X10_140 mI_X10_deny mE_X10_deny mN_X10 mC_X10_deny (by decide +kernel) 0 (ci := 10) rfl rfl hP hS (fun _ h => h) ⟨Nat.le_of_ble_eq_true rfl, Nat.le_of_ble_eq_true rfl⟩ ⟨Nat.zero_le _, Nat.zero_le _⟩ hl.1 rfl rfl (Nat.le_of_ble_eq_true rfl) dX10_route_14 (fun r_3 v_3 f_3 g_3 H locs hq_3 hP _ hS => ?_)
    obtain ⟨rfl, rfl, rfl, rfl⟩ := hq_3
    show W p l e (gRm 2 43) s m args below meth c _ _ 0 0 Q (F0 m 17 ls [.int (iI 0)])
    exact g_zret hQ C hr hlocks (by decide) hP hS dX10_route_17 ⟨rfl, trivial, trivial, trivial⟩

set_option maxHeartbeats 4000000 in
set_option maxRecDepth 100000 in
theorem c_X10_told (l : Launch) (D : va_G) (k : Nat → ClassId) (A : Nat → Prop) (ad : Nat → Nat) (hD : rwD A k ad) (v : gV) (f g : gF) (a1 : Int) (a2 : Int) (a3 : Int) (h_a1 : inR a1) (h_a2 : inR a2) (h_a3 : inR a3) (q0 : v 0 = 0) (q1 : v 1 = 0) (q21 : v 21 = 0) (q22 : v 22 = 0) (q23 : v 23 = 0) (q25 : v 25 = 0) (q26 : v 26 = 0) (q27 : v 27 = (-1)) (q28 : v 28 = (-1)) (qf : ∀ k, f 27 k = 0) : GM l D k A (rwW k ad) yX10_told cX10_told 5 (some .int) 2 43 [.ref (ad 0), .int (iI a1), .int (iI a2), .int (iI a3)] v f g (fun r v1 f1 g1 => r = some (.int (iI (-1))) ∧ True ∧ True ∧ True) := by
  refine GM.of (by decide) (Nat.le_of_ble_eq_true rfl) ?_
  intro p e s m args below meth c Q ls hQ C hml hr hlocks hP hl
  have hx := C.1
  have hb := C.2.1
  have hok := hP.2
  have hS : va_S A s.heap s.heap [] := va_S.rf
  have hl : lv_has ls 5 [(0, .ref (ad 0)), (1, .int (iI a1)), (2, .int (iI a2)), (3, .int (iI a3))] := hl
  refine lv_iload_n hx hb dX10_told_0 rfl (lv_at hl 2 rfl) ?_
  refine lv_iconst (v := iI (-1)) hx hb dX10_told_1 rfl ?_
  refine gi_cne (tgt := 9) hx hb dX10_told_2 (by decide) (by omega) (by decide) (fun c_1 => ?_) (fun c_1 => ?_)
  · refine lv_iconst (v := iI 0) hx hb dX10_told_9 rfl ?_
    refine lv_istore (lv' := [(4, .int (iI 0)), (0, .ref (ad 0)), (1, .int (iI a1)), (2, .int (iI a2)), (3, .int (iI a3))]) hx hb dX10_told_10 hl (by decide) rfl (fun ls hl => ?_)
    refine lv_iload hx hb dX10_told_12 (lv_at hl 0 rfl) ?_
    refine gi_zeq (tgt := 31) hx hb dX10_told_14 (by decide) (by decide) (fun c_2 => ?_) (fun c_2 => ?_)
    · refine lv_aload_n hx hb dX10_told_31 rfl (lv_at hl 1 rfl) ?_
      refine rwG_laws C hP mF_X10_16 dX10_told_32 ?_
      refine lv_iload_n hx hb dX10_told_35 rfl (lv_at hl 2 rfl) ?_
      refine lv_iload_n hx hb dX10_told_36 rfl (lv_at hl 3 rfl) ?_
      refine g_cv (As := [.int (iI a1), .int (iI a2)]) (rest := []) (n := 2) C hml (c_X4_hasRoute l D k A ad hD v f g a1 a2 (by omega) (by omega) (show v 1 ≤ 4 from by omega)) mM_X10_136 mI_X4_hasRoute mE_X4_hasRoute mN_X4 mC_X4_hasRoute (by decide +kernel) 2 (ci := 4) rfl rfl hP hS (fun _ h => h) ⟨Nat.le_of_ble_eq_true rfl, Nat.le_of_ble_eq_true rfl⟩ ⟨Nat.zero_le _, Nat.zero_le _⟩ hl.1 rfl rfl (Nat.le_of_ble_eq_true rfl) dX10_told_37 (fun r_3 v_3 f_3 g_3 H locs hq_3 hP _ hS => ?_)
      obtain ⟨⟨z_3, rfl, ez0_3⟩, rfl, rfl, rfl⟩ := hq_3
      have ez_3 : z_3 = (if (0 ≤ a1 ∧ a1 < v 1) ∧ 0 ≤ a2 ∧ a2 < f 1 (a1 * 4) then 1 else 0) := ez0_3
      have w_3 := gif (P := (0 ≤ a1 ∧ a1 < v 1) ∧ 0 ≤ a2 ∧ a2 < f 1 (a1 * 4)) ez_3
      have hz_3 : inR z_3 := (by omega)
      show W p l e (gRm 2 43) s m args below meth c _ _ 0 0 Q (F0 m 40 ls [.int (iI z_3)])
      have k_3 : z_3 = 0 := by omega
      refine gi_zne (tgt := 49) hx hb dX10_told_40 (by decide) (by omega) (fun c_4 => ?_) (fun c_4 => ?_)
      · exfalso; omega
      · refine lv_aload_n hx hb dX10_told_43 rfl (lv_at hl 1 rfl) ?_
        refine lv_iconst (v := iI 1) hx hb dX10_told_44 rfl ?_
        refine g_cv (As := [.int (iI 1)]) (rest := []) (n := 1) C hml (c_X10_refuse l D k A ad hD v f g 1 (by decide)) mM_X10_88 mI_X10_refuse mE_X10_refuse mN_X10 mC_X10_refuse (by decide +kernel) 0 (ci := 10) rfl rfl hP hS (fun _ h => h) ⟨Nat.le_of_ble_eq_true rfl, Nat.le_of_ble_eq_true rfl⟩ ⟨Nat.zero_le _, Nat.zero_le _⟩ hl.1 rfl rfl (Nat.le_of_ble_eq_true rfl) dX10_told_45 (fun r_5 v_5 f_5 g_5 H locs hq_5 hP _ hS => ?_)
        obtain ⟨rfl, rfl, rfl, rfl⟩ := hq_5
        show W p l e (gRm 2 43) s m args below meth c _ _ 0 0 Q (F0 m 48 ls [.int (iI (-1))])
        exact g_iret hQ C hr hlocks hP hS dX10_told_48 ⟨rfl, trivial, trivial, trivial⟩
    · exfalso; omega
  · refine lv_iconst (v := iI 1) hx hb dX10_told_5 rfl ?_
    refine lv_goto (tgt := 10) hx hb dX10_told_6 (by decide) ?_
    refine lv_istore (lv' := [(4, .int (iI 1)), (0, .ref (ad 0)), (1, .int (iI a1)), (2, .int (iI a2)), (3, .int (iI a3))]) hx hb dX10_told_10 hl (by decide) rfl (fun ls hl => ?_)
    refine lv_iload hx hb dX10_told_12 (lv_at hl 0 rfl) ?_
    refine gi_zeq (tgt := 31) hx hb dX10_told_14 (by decide) (by decide) (fun c_6 => ?_) (fun c_6 => ?_)
    · exfalso; omega
    · refine lv_aload_n hx hb dX10_told_17 rfl (lv_at hl 1 rfl) ?_
      refine rwG_laws C hP mF_X10_16 dX10_told_18 ?_
      refine lv_iload_n hx hb dX10_told_21 rfl (lv_at hl 2 rfl) ?_
      refine g_cv (As := [.int (iI a1)]) (rest := []) (n := 1) C hml (c_X4_hasRound l D k A ad hD v f g a1 (by omega)) mM_X10_164 mI_X4_hasRound mE_X4_hasRound mN_X4 mC_X4_hasRound (by decide +kernel) 2 (ci := 4) rfl rfl hP hS (fun _ h => h) ⟨Nat.le_of_ble_eq_true rfl, Nat.le_of_ble_eq_true rfl⟩ ⟨Nat.zero_le _, Nat.zero_le _⟩ hl.1 rfl rfl (Nat.le_of_ble_eq_true rfl) dX10_told_22 (fun r_7 v_7 f_7 g_7 H locs hq_7 hP _ hS => ?_)
      obtain ⟨⟨z_7, rfl, ez0_7⟩, rfl, rfl, rfl⟩ := hq_7
      have ez_7 : z_7 = (if 0 ≤ a1 ∧ a1 < v 1 then 1 else 0) := ez0_7
      have w_7 := gif (P := 0 ≤ a1 ∧ a1 < v 1) ez_7
      have hz_7 : inR z_7 := (by omega)
      show W p l e (gRm 2 43) s m args below meth c _ _ 0 0 Q (F0 m 25 ls [.int (iI z_7)])
      have k_7 : z_7 = 0 := by omega
      refine gi_zne (tgt := 49) hx hb dX10_told_25 (by decide) (by omega) (fun c_8 => ?_) (fun c_8 => ?_)
      · exfalso; omega
      · refine lv_goto (tgt := 43) hx hb dX10_told_28 (by decide) ?_
        refine lv_aload_n hx hb dX10_told_43 rfl (lv_at hl 1 rfl) ?_
        refine lv_iconst (v := iI 1) hx hb dX10_told_44 rfl ?_
        refine g_cv (As := [.int (iI 1)]) (rest := []) (n := 1) C hml (c_X10_refuse l D k A ad hD v f g 1 (by decide)) mM_X10_88 mI_X10_refuse mE_X10_refuse mN_X10 mC_X10_refuse (by decide +kernel) 0 (ci := 10) rfl rfl hP hS (fun _ h => h) ⟨Nat.le_of_ble_eq_true rfl, Nat.le_of_ble_eq_true rfl⟩ ⟨Nat.zero_le _, Nat.zero_le _⟩ hl.1 rfl rfl (Nat.le_of_ble_eq_true rfl) dX10_told_45 (fun r_9 v_9 f_9 g_9 H locs hq_9 hP _ hS => ?_)
        obtain ⟨rfl, rfl, rfl, rfl⟩ := hq_9
        show W p l e (gRm 2 43) s m args below meth c _ _ 0 0 Q (F0 m 48 ls [.int (iI (-1))])
        exact g_iret hQ C hr hlocks hP hS dX10_told_48 ⟨rfl, trivial, trivial, trivial⟩

set_option maxHeartbeats 4000000 in
set_option maxRecDepth 100000 in
theorem c_X10_begin (l : Launch) (D : va_G) (k : Nat → ClassId) (A : Nat → Prop) (ad : Nat → Nat) (hD : rwD A k ad) (v : gV) (f g : gF) (a1 : Int) (a2 : Int) (a3 : Int) (h_a1 : inR a1) (h_a2 : inR a2) (h_a3 : inR a3) (q0 : v 0 = 0) (q1 : v 1 = 0) (q21 : v 21 = 0) (q22 : v 22 = 0) (q23 : v 23 = 0) (q25 : v 25 = 0) (q26 : v 26 = 0) (q27 : v 27 = (-1)) (q28 : v 28 = (-1)) (qf : ∀ k, f 27 k = 0) : GM l D k A (rwW k ad) yX10_begin cX10_begin 5 (some .int) 1 21 [.ref (ad 0), .int (iI a1), .int (iI a2), .int (iI a3)] v f g (fun r v1 f1 g1 => r = some (.int (iI (-1))) ∧ True ∧ True ∧ True) := by
  refine GM.of (by decide) (Nat.le_of_ble_eq_true rfl) ?_
  intro p e s m args below meth c Q ls hQ C hml hr hlocks hP hl
  have hx := C.1
  have hb := C.2.1
  have hok := hP.2
  have hS : va_S A s.heap s.heap [] := va_S.rf
  have hl : lv_has ls 5 [(0, .ref (ad 0)), (1, .int (iI a1)), (2, .int (iI a2)), (3, .int (iI a3))] := hl
  refine lv_iconst (v := iI 1) hx hb dX10_begin_0 rfl ?_
  refine lv_istore (lv' := [(4, .int (iI 1)), (0, .ref (ad 0)), (1, .int (iI a1)), (2, .int (iI a2)), (3, .int (iI a3))]) hx hb dX10_begin_1 hl (by decide) rfl (fun ls hl => ?_)
  refine lv_aload_n hx hb dX10_begin_3 rfl (lv_at hl 1 rfl) ?_
  refine rwG_field C hP mF_X10_37 dX10_begin_4 ?_
  refine lv_iload_n hx hb dX10_begin_7 rfl (lv_at hl 2 rfl) ?_
  refine g_cv (As := [.int (iI a1)]) (rest := []) (n := 1) C hml (c_X2_knows l D k A ad hD v f g a1 (by omega)) mM_X10_180 mI_X2_knows mE_X2_knows mN_X2 mC_X2_knows (by decide +kernel) 27 (ci := 2) rfl rfl hP hS (fun _ h => h) ⟨Nat.le_of_ble_eq_true rfl, Nat.le_of_ble_eq_true rfl⟩ ⟨Nat.zero_le _, Nat.zero_le _⟩ hl.1 rfl rfl (Nat.le_of_ble_eq_true rfl) dX10_begin_8 (fun r_1 v_1 f_1 g_1 H locs hq_1 hP _ hS => ?_)
  obtain ⟨⟨z_1, rfl, ez0_1⟩, rfl, rfl, rfl⟩ := hq_1
  have ez_1 : z_1 = (if 0 ≤ a1 ∧ a1 < v 21 then 1 else 0) := ez0_1
  have w_1 := gif (P := 0 ≤ a1 ∧ a1 < v 21) ez_1
  have hz_1 : inR z_1 := (by omega)
  show W p l e (gRm 1 21) s m args below meth c _ _ 0 0 Q (F0 m 11 ls [.int (iI z_1)])
  have k_1 : z_1 = 0 := by omega
  refine gi_zeq (tgt := 39) hx hb dX10_begin_11 (by decide) (by omega) (fun c_2 => ?_) (fun c_2 => ?_)
  · refine lv_iload hx hb dX10_begin_39 (lv_at hl 0 rfl) ?_
    refine gi_zne (tgt := 52) hx hb dX10_begin_41 (by decide) (by decide) (fun c_3 => ?_) (fun c_3 => ?_)
    · refine lv_iload hx hb dX10_begin_52 (lv_at hl 0 rfl) ?_
      refine gi_zeq (tgt := 64) hx hb dX10_begin_54 (by decide) (by decide) (fun c_4 => ?_) (fun c_4 => ?_)
      · exfalso; omega
      · refine lv_aload_n hx hb dX10_begin_57 rfl (lv_at hl 1 rfl) ?_
        refine lv_iload hx hb dX10_begin_58 (lv_at hl 0 rfl) ?_
        refine g_cv (As := [.int (iI 1)]) (rest := []) (n := 1) C hml (c_X10_refuse l D k A ad hD v f g 1 (by decide)) mM_X10_88 mI_X10_refuse mE_X10_refuse mN_X10 mC_X10_refuse (by decide +kernel) 0 (ci := 10) rfl rfl hP hS (fun _ h => h) ⟨Nat.le_of_ble_eq_true rfl, Nat.le_of_ble_eq_true rfl⟩ ⟨Nat.zero_le _, Nat.zero_le _⟩ hl.1 rfl rfl (Nat.le_of_ble_eq_true rfl) dX10_begin_60 (fun r_5 v_5 f_5 g_5 H locs hq_5 hP _ hS => ?_)
        obtain ⟨rfl, rfl, rfl, rfl⟩ := hq_5
        show W p l e (gRm 1 21) s m args below meth c _ _ 0 0 Q (F0 m 63 ls [.int (iI (-1))])
        exact g_iret hQ C hr hlocks hP hS dX10_begin_63 ⟨rfl, trivial, trivial, trivial⟩
    · exfalso; omega
  · exfalso; omega

set_option maxHeartbeats 4000000 in
set_option maxRecDepth 100000 in
theorem c_X10_reach (l : Launch) (D : va_G) (k : Nat → ClassId) (A : Nat → Prop) (ad : Nat → Nat) (hD : rwD A k ad) (v : gV) (f g : gF) (a1 : Int) (a2 : Int) (a3 : Int) (h_a1 : inR a1) (h_a2 : inR a2) (h_a3 : inR a3) (q0 : v 0 = 0) (q1 : v 1 = 0) (q21 : v 21 = 0) (q22 : v 22 = 0) (q23 : v 23 = 0) (q25 : v 25 = 0) (q26 : v 26 = 0) (q27 : v 27 = (-1)) (q28 : v 28 = (-1)) (qf : ∀ k, f 27 k = 0) : GM l D k A (rwW k ad) yX10_reach cX10_reach 7 (some .int) 1 21 [.ref (ad 0), .int (iI a1), .int (iI a2), .int (iI a3)] v f g (fun r v1 f1 g1 => r = some (.int (iI (-1))) ∧ True ∧ True ∧ True) := by
  refine GM.of (by decide) (Nat.le_of_ble_eq_true rfl) ?_
  intro p e s m args below meth c Q ls hQ C hml hr hlocks hP hl
  have hx := C.1
  have hb := C.2.1
  have hok := hP.2
  have hS : va_S A s.heap s.heap [] := va_S.rf
  have hl : lv_has ls 7 [(0, .ref (ad 0)), (1, .int (iI a1)), (2, .int (iI a2)), (3, .int (iI a3))] := hl
  refine lv_iconst (v := iI 1) hx hb dX10_reach_0 rfl ?_
  refine lv_istore (lv' := [(4, .int (iI 1)), (0, .ref (ad 0)), (1, .int (iI a1)), (2, .int (iI a2)), (3, .int (iI a3))]) hx hb dX10_reach_1 hl (by decide) rfl (fun ls hl => ?_)
  refine lv_aload_n hx hb dX10_reach_3 rfl (lv_at hl 1 rfl) ?_
  refine rwG_field C hP mF_X10_37 dX10_reach_4 ?_
  refine lv_iload_n hx hb dX10_reach_7 rfl (lv_at hl 2 rfl) ?_
  refine g_cv (As := [.int (iI a1)]) (rest := []) (n := 1) C hml (c_X2_knows l D k A ad hD v f g a1 (by omega)) mM_X10_180 mI_X2_knows mE_X2_knows mN_X2 mC_X2_knows (by decide +kernel) 27 (ci := 2) rfl rfl hP hS (fun _ h => h) ⟨Nat.le_of_ble_eq_true rfl, Nat.le_of_ble_eq_true rfl⟩ ⟨Nat.zero_le _, Nat.zero_le _⟩ hl.1 rfl rfl (Nat.le_of_ble_eq_true rfl) dX10_reach_8 (fun r_1 v_1 f_1 g_1 H locs hq_1 hP _ hS => ?_)
  obtain ⟨⟨z_1, rfl, ez0_1⟩, rfl, rfl, rfl⟩ := hq_1
  have ez_1 : z_1 = (if 0 ≤ a1 ∧ a1 < v 21 then 1 else 0) := ez0_1
  have w_1 := gif (P := 0 ≤ a1 ∧ a1 < v 21) ez_1
  have hz_1 : inR z_1 := (by omega)
  show W p l e (gRm 1 21) s m args below meth c _ _ 0 0 Q (F0 m 11 ls [.int (iI z_1)])
  have k_1 : z_1 = 0 := by omega
  refine gi_zeq (tgt := 36) hx hb dX10_reach_11 (by decide) (by omega) (fun c_2 => ?_) (fun c_2 => ?_)
  · refine lv_iload hx hb dX10_reach_36 (lv_at hl 0 rfl) ?_
    refine gi_zeq (tgt := 48) hx hb dX10_reach_38 (by decide) (by decide) (fun c_3 => ?_) (fun c_3 => ?_)
    · exfalso; omega
    · refine lv_aload_n hx hb dX10_reach_41 rfl (lv_at hl 1 rfl) ?_
      refine lv_iload hx hb dX10_reach_42 (lv_at hl 0 rfl) ?_
      refine g_cv (As := [.int (iI 1)]) (rest := []) (n := 1) C hml (c_X10_refuse l D k A ad hD v f g 1 (by decide)) mM_X10_88 mI_X10_refuse mE_X10_refuse mN_X10 mC_X10_refuse (by decide +kernel) 0 (ci := 10) rfl rfl hP hS (fun _ h => h) ⟨Nat.le_of_ble_eq_true rfl, Nat.le_of_ble_eq_true rfl⟩ ⟨Nat.zero_le _, Nat.zero_le _⟩ hl.1 rfl rfl (Nat.le_of_ble_eq_true rfl) dX10_reach_44 (fun r_4 v_4 f_4 g_4 H locs hq_4 hP _ hS => ?_)
      obtain ⟨rfl, rfl, rfl, rfl⟩ := hq_4
      show W p l e (gRm 1 21) s m args below meth c _ _ 0 0 Q (F0 m 47 ls [.int (iI (-1))])
      exact g_iret hQ C hr hlocks hP hS dX10_reach_47 ⟨rfl, trivial, trivial, trivial⟩
  · exfalso; omega

set_option maxHeartbeats 4000000 in
set_option maxRecDepth 100000 in
theorem c_X10_fall (l : Launch) (D : va_G) (k : Nat → ClassId) (A : Nat → Prop) (ad : Nat → Nat) (hD : rwD A k ad) (v : gV) (f g : gF) (a1 : Int) (a2 : Int) (a3 : Int) (h_a1 : inR a1) (h_a2 : inR a2) (h_a3 : inR a3) (q0 : v 0 = 0) (q1 : v 1 = 0) (q21 : v 21 = 0) (q22 : v 22 = 0) (q23 : v 23 = 0) (q25 : v 25 = 0) (q26 : v 26 = 0) (q27 : v 27 = (-1)) (q28 : v 28 = (-1)) (qf : ∀ k, f 27 k = 0) : GM l D k A (rwW k ad) yX10_fall cX10_fall 6 (some .boolean) 1 21 [.ref (ad 0), .int (iI a1), .int (iI a2), .int (iI a3)] v f g (fun r v1 f1 g1 => r = some (.int (iI 0)) ∧ True ∧ True ∧ True) := by
  refine GM.of (by decide) (Nat.le_of_ble_eq_true rfl) ?_
  intro p e s m args below meth c Q ls hQ C hml hr hlocks hP hl
  have hx := C.1
  have hb := C.2.1
  have hok := hP.2
  have hS : va_S A s.heap s.heap [] := va_S.rf
  have hl : lv_has ls 6 [(0, .ref (ad 0)), (1, .int (iI a1)), (2, .int (iI a2)), (3, .int (iI a3))] := hl
  refine lv_aload_n hx hb dX10_fall_0 rfl (lv_at hl 0 rfl) ?_
  refine rwG_field C hP mF_X10_37 dX10_fall_1 ?_
  refine lv_iload_n hx hb dX10_fall_4 rfl (lv_at hl 1 rfl) ?_
  refine g_cv (As := [.int (iI a1)]) (rest := []) (n := 1) C hml (c_X2_knows l D k A ad hD v f g a1 (by omega)) mM_X10_180 mI_X2_knows mE_X2_knows mN_X2 mC_X2_knows (by decide +kernel) 27 (ci := 2) rfl rfl hP hS (fun _ h => h) ⟨Nat.le_of_ble_eq_true rfl, Nat.le_of_ble_eq_true rfl⟩ ⟨Nat.zero_le _, Nat.zero_le _⟩ hl.1 rfl rfl (Nat.le_of_ble_eq_true rfl) dX10_fall_5 (fun r_1 v_1 f_1 g_1 H locs hq_1 hP _ hS => ?_)
  obtain ⟨⟨z_1, rfl, ez0_1⟩, rfl, rfl, rfl⟩ := hq_1
  have ez_1 : z_1 = (if 0 ≤ a1 ∧ a1 < v 21 then 1 else 0) := ez0_1
  have w_1 := gif (P := 0 ≤ a1 ∧ a1 < v 21) ez_1
  have hz_1 : inR z_1 := (by omega)
  show W p l e (gRm 1 21) s m args below meth c _ _ 0 0 Q (F0 m 8 ls [.int (iI z_1)])
  have k_1 : z_1 = 0 := by omega
  refine gi_zeq (tgt := 19) hx hb dX10_fall_8 (by decide) (by omega) (fun c_2 => ?_) (fun c_2 => ?_)
  · refine lv_iconst (v := iI 1) hx hb dX10_fall_19 rfl ?_
    refine lv_istore (lv' := [(4, .int (iI 1)), (0, .ref (ad 0)), (1, .int (iI a1)), (2, .int (iI a2)), (3, .int (iI a3))]) hx hb dX10_fall_20 hl (by decide) rfl (fun ls hl => ?_)
    refine lv_iload hx hb dX10_fall_22 (lv_at hl 0 rfl) ?_
    refine gi_zeq (tgt := 34) hx hb dX10_fall_24 (by decide) (by decide) (fun c_3 => ?_) (fun c_3 => ?_)
    · exfalso; omega
    · refine lv_aload_n hx hb dX10_fall_27 rfl (lv_at hl 1 rfl) ?_
      refine lv_iload hx hb dX10_fall_28 (lv_at hl 0 rfl) ?_
      refine g_cv (As := [.int (iI 1)]) (rest := []) (n := 1) C hml (c_X10_deny l D k A ad hD v f g 1 (by decide)) mM_X10_140 mI_X10_deny mE_X10_deny mN_X10 mC_X10_deny (by decide +kernel) 0 (ci := 10) rfl rfl hP hS (fun _ h => h) ⟨Nat.le_of_ble_eq_true rfl, Nat.le_of_ble_eq_true rfl⟩ ⟨Nat.zero_le _, Nat.zero_le _⟩ hl.1 rfl rfl (Nat.le_of_ble_eq_true rfl) dX10_fall_30 (fun r_4 v_4 f_4 g_4 H locs hq_4 hP _ hS => ?_)
      obtain ⟨rfl, rfl, rfl, rfl⟩ := hq_4
      show W p l e (gRm 1 21) s m args below meth c _ _ 0 0 Q (F0 m 33 ls [.int (iI 0)])
      exact g_zret hQ C hr hlocks (by decide) hP hS dX10_fall_33 ⟨rfl, trivial, trivial, trivial⟩
  · exfalso; omega

set_option maxHeartbeats 4000000 in
set_option maxRecDepth 100000 in
theorem c_X10_out (l : Launch) (D : va_G) (k : Nat → ClassId) (A : Nat → Prop) (ad : Nat → Nat) (hD : rwD A k ad) (v : gV) (f g : gF) (a1 : Int) (a2 : Int) (a3 : Int) (h_a1 : inR a1) (h_a2 : inR a2) (h_a3 : inR a3) (q0 : v 0 = 0) (q1 : v 1 = 0) (q21 : v 21 = 0) (q22 : v 22 = 0) (q23 : v 23 = 0) (q25 : v 25 = 0) (q26 : v 26 = 0) (q27 : v 27 = (-1)) (q28 : v 28 = (-1)) (qf : ∀ k, f 27 k = 0) : GM l D k A (rwW k ad) yX10_out cX10_out 5 (some .boolean) 1 21 [.ref (ad 0), .int (iI a1), .int (iI a2), .int (iI a3)] v f g (fun r v1 f1 g1 => r = some (.int (iI 0)) ∧ True ∧ True ∧ True) := by
  refine GM.of (by decide) (Nat.le_of_ble_eq_true rfl) ?_
  intro p e s m args below meth c Q ls hQ C hml hr hlocks hP hl
  have hx := C.1
  have hb := C.2.1
  have hok := hP.2
  have hS : va_S A s.heap s.heap [] := va_S.rf
  have hl : lv_has ls 5 [(0, .ref (ad 0)), (1, .int (iI a1)), (2, .int (iI a2)), (3, .int (iI a3))] := hl
  refine lv_aload_n hx hb dX10_out_0 rfl (lv_at hl 0 rfl) ?_
  refine rwG_field C hP mF_X10_37 dX10_out_1 ?_
  refine lv_iload_n hx hb dX10_out_4 rfl (lv_at hl 1 rfl) ?_
  refine g_cv (As := [.int (iI a1)]) (rest := []) (n := 1) C hml (c_X2_knows l D k A ad hD v f g a1 (by omega)) mM_X10_180 mI_X2_knows mE_X2_knows mN_X2 mC_X2_knows (by decide +kernel) 27 (ci := 2) rfl rfl hP hS (fun _ h => h) ⟨Nat.le_of_ble_eq_true rfl, Nat.le_of_ble_eq_true rfl⟩ ⟨Nat.zero_le _, Nat.zero_le _⟩ hl.1 rfl rfl (Nat.le_of_ble_eq_true rfl) dX10_out_5 (fun r_1 v_1 f_1 g_1 H locs hq_1 hP _ hS => ?_)
  obtain ⟨⟨z_1, rfl, ez0_1⟩, rfl, rfl, rfl⟩ := hq_1
  have ez_1 : z_1 = (if 0 ≤ a1 ∧ a1 < v 21 then 1 else 0) := ez0_1
  have w_1 := gif (P := 0 ≤ a1 ∧ a1 < v 21) ez_1
  have hz_1 : inR z_1 := (by omega)
  show W p l e (gRm 1 21) s m args below meth c _ _ 0 0 Q (F0 m 8 ls [.int (iI z_1)])
  have k_1 : z_1 = 0 := by omega
  refine gi_zeq (tgt := 19) hx hb dX10_out_8 (by decide) (by omega) (fun c_2 => ?_) (fun c_2 => ?_)
  · refine lv_iconst (v := iI 1) hx hb dX10_out_19 rfl ?_
    refine lv_istore (lv' := [(4, .int (iI 1)), (0, .ref (ad 0)), (1, .int (iI a1)), (2, .int (iI a2)), (3, .int (iI a3))]) hx hb dX10_out_20 hl (by decide) rfl (fun ls hl => ?_)
    refine lv_iload hx hb dX10_out_22 (lv_at hl 0 rfl) ?_
    refine gi_zeq (tgt := 34) hx hb dX10_out_24 (by decide) (by decide) (fun c_3 => ?_) (fun c_3 => ?_)
    · exfalso; omega
    · refine lv_aload_n hx hb dX10_out_27 rfl (lv_at hl 1 rfl) ?_
      refine lv_iload hx hb dX10_out_28 (lv_at hl 0 rfl) ?_
      refine g_cv (As := [.int (iI 1)]) (rest := []) (n := 1) C hml (c_X10_deny l D k A ad hD v f g 1 (by decide)) mM_X10_140 mI_X10_deny mE_X10_deny mN_X10 mC_X10_deny (by decide +kernel) 0 (ci := 10) rfl rfl hP hS (fun _ h => h) ⟨Nat.le_of_ble_eq_true rfl, Nat.le_of_ble_eq_true rfl⟩ ⟨Nat.zero_le _, Nat.zero_le _⟩ hl.1 rfl rfl (Nat.le_of_ble_eq_true rfl) dX10_out_30 (fun r_4 v_4 f_4 g_4 H locs hq_4 hP _ hS => ?_)
      obtain ⟨rfl, rfl, rfl, rfl⟩ := hq_4
      show W p l e (gRm 1 21) s m args below meth c _ _ 0 0 Q (F0 m 33 ls [.int (iI 0)])
      exact g_zret hQ C hr hlocks (by decide) hP hS dX10_out_33 ⟨rfl, trivial, trivial, trivial⟩
  · exfalso; omega

set_option maxHeartbeats 4000000 in
set_option maxRecDepth 100000 in
theorem c_X10_passTo (l : Launch) (D : va_G) (k : Nat → ClassId) (A : Nat → Prop) (ad : Nat → Nat) (hD : rwD A k ad) (v : gV) (f g : gF) (a1 : Int) (h_a1 : inR a1) (q0 : v 0 = 0) (q1 : v 1 = 0) (q21 : v 21 = 0) (q22 : v 22 = 0) (q23 : v 23 = 0) (q25 : v 25 = 0) (q26 : v 26 = 0) (q27 : v 27 = (-1)) (q28 : v 28 = (-1)) (qf : ∀ k, f 27 k = 0) : GM l D k A (rwW k ad) yX10_passTo cX10_passTo 2 (some .int) 2 45 [.ref (ad 0), .int (iI a1)] v f g (fun r v1 f1 g1 => (∃ z : Int, r = some (.int (iI z)) ∧ z = (if 0 ≤ a1 ∧ a1 ≤ 1000000 then 0 else 2)) ∧ True ∧ True ∧ True) := by
  refine GM.of (by decide) (Nat.le_of_ble_eq_true rfl) ?_
  intro p e s m args below meth c Q ls hQ C hml hr hlocks hP hl
  have hx := C.1
  have hb := C.2.1
  have hok := hP.2
  have hS : va_S A s.heap s.heap [] := va_S.rf
  have hl : lv_has ls 2 [(0, .ref (ad 0)), (1, .int (iI a1))] := hl
  refine lv_iload_n hx hb dX10_passTo_0 rfl (lv_at hl 1 rfl) ?_
  refine gi_zlt (tgt := 11) hx hb dX10_passTo_1 (by decide) (by omega) (fun c_1 => ?_) (fun c_1 => ?_)
  · refine lv_iconst (v := iI 2) hx hb dX10_passTo_11 rfl ?_
    exact g_iret hQ C hr hlocks hP hS dX10_passTo_12 ⟨⟨_, rfl, (by first | omega | (split <;> omega))⟩, trivial, trivial, trivial⟩
  · refine lv_iload_n hx hb dX10_passTo_4 rfl (lv_at hl 1 rfl) ?_
    refine lv_ldcw (v := iI 1000000) hx hb C.2.2.2.1 (C.2.2.1 _ (show Cond.constant RX10 313 (iI 1000000) ∈ gWs from mD_X10_313)) dX10_passTo_5 ?_
    refine gi_cle (tgt := 13) hx hb dX10_passTo_8 (by decide) (by omega) (by decide) (fun c_2 => ?_) (fun c_2 => ?_)
    · refine lv_iload_n hx hb dX10_passTo_13 rfl (lv_at hl 1 rfl) ?_
      refine lv_aload_n hx hb dX10_passTo_14 rfl (lv_at hl 0 rfl) ?_
      refine rwG_time C hP mF_X10_114 dX10_passTo_15 ?_
      have r_3 := hok.1 26
      refine gi_cge (tgt := 24) hx hb dX10_passTo_18 (by decide) (by omega) (by omega) (fun c_4 => ?_) (fun c_4 => ?_)
      · refine lv_aload_n hx hb dX10_passTo_24 rfl (lv_at hl 0 rfl) ?_
        refine lv_iload_n hx hb dX10_passTo_25 rfl (lv_at hl 1 rfl) ?_
        refine rwP_time (v1 := (va_up v 26 a1)) C hP hD hS mF_X10_114 (by omega) rfl (Or.inl rfl) dX10_passTo_26 (fun H locs hP hS => ?_)
        refine lv_aload_n hx hb dX10_passTo_29 rfl (lv_at hl 0 rfl) ?_
        refine rwG_tries C hP mF_X10_44 dX10_passTo_30 ?_
        refine lv_iload_n hx hb dX10_passTo_33 rfl (lv_at hl 1 rfl) ?_
        refine lv_aload_n hx hb dX10_passTo_34 rfl (lv_at hl 0 rfl) ?_
        refine rwG_laws C hP mF_X10_16 dX10_passTo_35 ?_
        refine lv_aload_n hx hb dX10_passTo_38 rfl (lv_at hl 0 rfl) ?_
        refine rwG_field C hP mF_X10_37 dX10_passTo_39 ?_
        refine rwG_field_open C hP mF_X10_129 dX10_passTo_42 ?_
        show W p l e (gRm 2 45) s m args below meth c _ _ 0 0 Q (F0 m 45 ls [.int (iI (v 22)), .ref (ad 2), .int (iI a1), .ref (ad 30)])
        have r_5 := hok.1 22
        refine lv_iconst (v := iI 2) hx hb dX10_passTo_45 rfl ?_
        refine g_cv (As := [.int (iI (v 22)), .int (iI 2)]) (rest := [.int (iI a1), .ref (ad 30)]) (n := 2) C hml (c_X4_shapeOf l D k A ad hD (va_up v 26 a1) f g (v 22) 2 (by omega) (by decide) (show v 1 ≤ 4 from by omega)) mM_X10_170 mI_X4_shapeOf mE_X4_shapeOf mN_X4 mC_X4_shapeOf (by decide +kernel) 2 (ci := 4) rfl rfl hP hS (fun _ h => h) ⟨Nat.le_of_ble_eq_true rfl, Nat.le_of_ble_eq_true rfl⟩ ⟨Nat.zero_le _, Nat.zero_le _⟩ hl.1 rfl rfl (Nat.le_of_ble_eq_true rfl) dX10_passTo_46 (fun r_6 v_6 f_6 g_6 H locs hq_6 hP _ hS => ?_)
        obtain ⟨⟨z_6, rfl, ez0_6⟩, rfl, rfl, rfl⟩ := hq_6
        have ez_6 : z_6 = (if (0 ≤ (v 22) ∧ (v 22) < v 1) ∧ 0 ≤ (2 : Int) ∧ (2 : Int) < 4 then f 1 ((v 22) * 4 + (2 : Int)) else 0) := ez0_6
        have hz_6 : inR z_6 := (by rw [ez_6, if_neg (by omega)]; decide)
        show W p l e (gRm 2 45) s m args below meth c _ _ 0 0 Q (F0 m 49 ls [.int (iI z_6), .int (iI a1), .ref (ad 30)])
        have k_6 : z_6 = 0 := by rw [ez_6]; exact if_neg (by omega)
        refine g_cv (As := [.int (iI a1), .int (iI z_6)]) (rest := []) (n := 2) C hml (c_X7_endOverdue l D k A ad hD (va_up v 26 a1) f g a1 z_6 (by omega) (by omega) qf) mM_X10_314 mI_X7_endOverdue mE_X7_endOverdue mN_X7 mC_X7_endOverdue (by decide +kernel) 30 (ci := 7) rfl rfl hP hS (fun _ h => h) ⟨Nat.le_of_ble_eq_true rfl, Nat.le_of_ble_eq_true rfl⟩ ⟨Nat.zero_le _, Nat.zero_le _⟩ hl.1 rfl rfl (Nat.le_of_ble_eq_true rfl) dX10_passTo_49 (fun r_7 v_7 f_7 g_7 H locs hq_7 hP _ hS => ?_)
        obtain ⟨rfl, rfl, rfl, rfl⟩ := hq_7
        show W p l e (gRm 2 45) s m args below meth c _ _ 0 0 Q (F0 m 52 ls [])
        refine lv_iconst (v := iI 0) hx hb dX10_passTo_52 rfl ?_
        exact g_iret hQ C hr hlocks hP hS dX10_passTo_53 ⟨⟨_, rfl, (by first | omega | (split <;> omega))⟩, trivial, trivial, trivial⟩
      · refine lv_bipush (v := iI 9) hx hb dX10_passTo_21 (by decide) ?_
        exact g_iret hQ C hr hlocks hP hS dX10_passTo_23 ⟨⟨_, rfl, (by first | omega | (split <;> omega))⟩, trivial, trivial, trivial⟩
    · refine lv_iconst (v := iI 2) hx hb dX10_passTo_11 rfl ?_
      exact g_iret hQ C hr hlocks hP hS dX10_passTo_12 ⟨⟨_, rfl, (by first | omega | (split <;> omega))⟩, trivial, trivial, trivial⟩

set_option maxHeartbeats 4000000 in
set_option maxRecDepth 100000 in
theorem c_X10_clock (l : Launch) (D : va_G) (k : Nat → ClassId) (A : Nat → Prop) (ad : Nat → Nat) (hD : rwD A k ad) (v : gV) (f g : gF) (a1 : Int) (h_a1 : inR a1) (q0 : v 0 = 0) (q1 : v 1 = 0) (q21 : v 21 = 0) (q22 : v 22 = 0) (q23 : v 23 = 0) (q25 : v 25 = 0) (q26 : v 26 = 0) (q27 : v 27 = (-1)) (q28 : v 28 = (-1)) (qf : ∀ k, f 27 k = 0) : GM l D k A (rwW k ad) yX10_clock cX10_clock 3 (some .boolean) 3 66 [.ref (ad 0), .int (iI a1)] v f g (fun r v1 f1 g1 => (∃ z : Int, r = some (.int (iI z)) ∧ z = (if 0 ≤ a1 ∧ a1 ≤ 1000000 then 1 else 0)) ∧ True ∧ True ∧ True) := by
  refine GM.of (by decide) (Nat.le_of_ble_eq_true rfl) ?_
  intro p e s m args below meth c Q ls hQ C hml hr hlocks hP hl
  have hx := C.1
  have hb := C.2.1
  have hok := hP.2
  have hS : va_S A s.heap s.heap [] := va_S.rf
  have hl : lv_has ls 3 [(0, .ref (ad 0)), (1, .int (iI a1))] := hl
  refine lv_aload_n hx hb dX10_clock_0 rfl (lv_at hl 0 rfl) ?_
  refine lv_iload_n hx hb dX10_clock_1 rfl (lv_at hl 1 rfl) ?_
  refine g_cv (As := [.int (iI a1)]) (rest := []) (n := 1) C hml (c_X10_passTo l D k A ad hD v f g a1 (by omega) q0 q1 q21 q22 q23 q25 q26 q27 q28 qf) mM_X10_183 mI_X10_passTo mE_X10_passTo mN_X10 mC_X10_passTo (by decide +kernel) 0 (ci := 10) rfl rfl hP hS (fun _ h => h) ⟨Nat.le_of_ble_eq_true rfl, Nat.le_of_ble_eq_true rfl⟩ ⟨Nat.zero_le _, Nat.zero_le _⟩ hl.1 rfl rfl (Nat.le_of_ble_eq_true rfl) dX10_clock_2 (fun r_1 v_1 f_1 g_1 H locs hq_1 hP _ hS => ?_)
  obtain ⟨⟨z_1, rfl, ez0_1⟩, -, -, -⟩ := hq_1
  have ez_1 : z_1 = (if 0 ≤ a1 ∧ a1 ≤ 1000000 then 0 else 2) := ez0_1
  have hz_1 : inR z_1 := (by rw [ez_1]; first | omega | (split <;> omega))
  show W p l e (gRm 3 66) s m args below meth c _ _ 0 0 Q (F0 m 5 ls [.int (iI z_1)])
  have hv_1 := hP.2.1
  have hf_1 := hP.2.2
  refine lv_istore_n (lv' := [(2, .int (iI z_1)), (0, .ref (ad 0)), (1, .int (iI a1))]) hx hb dX10_clock_5 rfl hl (by decide) rfl (fun ls hl => ?_)
  refine lv_iload_n hx hb dX10_clock_6 rfl (lv_at hl 0 rfl) ?_
  refine gi_zne (tgt := 17) hx hb dX10_clock_7 (by decide) (by omega) (fun c_2 => ?_) (fun c_2 => ?_)
  · refine lv_aload_n hx hb dX10_clock_17 rfl (lv_at hl 1 rfl) ?_
    refine lv_iload_n hx hb dX10_clock_18 rfl (lv_at hl 0 rfl) ?_
    refine g_cv (As := [.int (iI z_1)]) (rest := []) (n := 1) C hml (c_X10_deny l D k A ad hD v_1 f_1 g_1 z_1 (by omega)) mM_X10_140 mI_X10_deny mE_X10_deny mN_X10 mC_X10_deny (by decide +kernel) 0 (ci := 10) rfl rfl hP hS (fun _ h => h) ⟨Nat.le_of_ble_eq_true rfl, Nat.le_of_ble_eq_true rfl⟩ ⟨Nat.zero_le _, Nat.zero_le _⟩ hl.1 rfl rfl (Nat.le_of_ble_eq_true rfl) dX10_clock_19 (fun r_3 v_3 f_3 g_3 H locs hq_3 hP _ hS => ?_)
    obtain ⟨rfl, rfl, rfl, rfl⟩ := hq_3
    show W p l e (gRm 3 66) s m args below meth c _ _ 0 0 Q (F0 m 22 ls [.int (iI 0)])
    exact g_zret hQ C hr hlocks (by decide) hP hS dX10_clock_22 ⟨⟨_, rfl, (by first | omega | (split <;> omega))⟩, trivial, trivial, trivial⟩
  · refine lv_aload_n hx hb dX10_clock_10 rfl (lv_at hl 1 rfl) ?_
    refine g_cv (As := []) (rest := []) (n := 0) C hml (c_X10_grant l D k A ad hD v_1 f_1 g_1) mM_X10_160 mI_X10_grant mE_X10_grant mN_X10 mC_X10_grant (by decide +kernel) 0 (ci := 10) rfl rfl hP hS (fun _ h => h) ⟨Nat.le_of_ble_eq_true rfl, Nat.le_of_ble_eq_true rfl⟩ ⟨Nat.zero_le _, Nat.zero_le _⟩ hl.1 rfl rfl (Nat.le_of_ble_eq_true rfl) dX10_clock_11 (fun r_4 v_4 f_4 g_4 H locs hq_4 hP _ hS => ?_)
    obtain ⟨rfl, rfl, rfl, rfl⟩ := hq_4
    show W p l e (gRm 3 66) s m args below meth c _ _ 0 0 Q (F0 m 14 ls [.int (iI 1)])
    refine lv_goto (tgt := 22) hx hb dX10_clock_14 (by decide) ?_
    exact g_zret hQ C hr hlocks (by decide) hP hS dX10_clock_22 ⟨⟨_, rfl, (by first | omega | (split <;> omega))⟩, trivial, trivial, trivial⟩

set_option maxHeartbeats 4000000 in
set_option maxRecDepth 100000 in
theorem c_X10_now (l : Launch) (D : va_G) (k : Nat → ClassId) (A : Nat → Prop) (ad : Nat → Nat) (hD : rwD A k ad) (v : gV) (f g : gF) (q0 : v 0 = 0) (q1 : v 1 = 0) (q21 : v 21 = 0) (q22 : v 22 = 0) (q23 : v 23 = 0) (q25 : v 25 = 0) (q26 : v 26 = 0) (q27 : v 27 = (-1)) (q28 : v 28 = (-1)) (qf : ∀ k, f 27 k = 0) : GM l D k A (rwW k ad) yX10_now cX10_now 1 (some .int) 1 21 [.ref (ad 0)] v f g (fun r v1 f1 g1 => r = some (.int (iI 0)) ∧ True ∧ True ∧ True) := by
  refine GM.of (by decide) (Nat.le_of_ble_eq_true rfl) ?_
  intro p e s m args below meth c Q ls hQ C hml hr hlocks hP hl
  have hx := C.1
  have hb := C.2.1
  have hok := hP.2
  have hS : va_S A s.heap s.heap [] := va_S.rf
  have hl : lv_has ls 1 [(0, .ref (ad 0))] := hl
  refine lv_aload_n hx hb dX10_now_0 rfl (lv_at hl 0 rfl) ?_
  refine lv_aload_n hx hb dX10_now_1 rfl (lv_at hl 0 rfl) ?_
  refine rwG_time C hP mF_X10_114 dX10_now_2 ?_
  have r_1 := hok.1 26
  refine g_cv (As := [.int (iI (v 26))]) (rest := []) (n := 1) C hml (c_X10_answer l D k A ad hD v f g (v 26) (by omega)) mM_X10_120 mI_X10_answer mE_X10_answer mN_X10 mC_X10_answer (by decide +kernel) 0 (ci := 10) rfl rfl hP hS (fun _ h => h) ⟨Nat.le_of_ble_eq_true rfl, Nat.le_of_ble_eq_true rfl⟩ ⟨Nat.zero_le _, Nat.zero_le _⟩ hl.1 rfl rfl (Nat.le_of_ble_eq_true rfl) dX10_now_5 (fun r_2 v_2 f_2 g_2 H locs hq_2 hP _ hS => ?_)
  obtain ⟨rfl, rfl, rfl, rfl⟩ := hq_2
  show W p l e (gRm 1 21) s m args below meth c _ _ 0 0 Q (F0 m 8 ls [.int (iI (v 26))])
  exact g_iret hQ C hr hlocks hP hS dX10_now_8 ⟨(congrArg (fun z => some (Value.int (iI z))) (by first | omega | (split <;> omega))), trivial, trivial, trivial⟩

set_option maxHeartbeats 4000000 in
set_option maxRecDepth 100000 in
theorem c_X10_tried (l : Launch) (D : va_G) (k : Nat → ClassId) (A : Nat → Prop) (ad : Nat → Nat) (hD : rwD A k ad) (v : gV) (f g : gF) (a1 : Int) (a2 : Int) (h_a1 : inR a1) (h_a2 : inR a2) (q0 : v 0 = 0) (q1 : v 1 = 0) (q21 : v 21 = 0) (q22 : v 22 = 0) (q23 : v 23 = 0) (q25 : v 25 = 0) (q26 : v 26 = 0) (q27 : v 27 = (-1)) (q28 : v 28 = (-1)) (qf : ∀ k, f 27 k = 0) : GM l D k A (rwW k ad) yX10_tried cX10_tried 3 (some .int) 1 21 [.ref (ad 0), .int (iI a1), .int (iI a2)] v f g (fun r v1 f1 g1 => r = some (.int (iI (-1))) ∧ True ∧ True ∧ True) := by
  refine GM.of (by decide) (Nat.le_of_ble_eq_true rfl) ?_
  intro p e s m args below meth c Q ls hQ C hml hr hlocks hP hl
  have hx := C.1
  have hb := C.2.1
  have hok := hP.2
  have hS : va_S A s.heap s.heap [] := va_S.rf
  have hl : lv_has ls 3 [(0, .ref (ad 0)), (1, .int (iI a1)), (2, .int (iI a2))] := hl
  refine lv_aload_n hx hb dX10_tried_0 rfl (lv_at hl 0 rfl) ?_
  refine rwG_tries C hP mF_X10_44 dX10_tried_1 ?_
  refine lv_iload_n hx hb dX10_tried_4 rfl (lv_at hl 1 rfl) ?_
  refine g_cv (As := [.int (iI a1)]) (rest := []) (n := 1) C hml (c_X7_knows l D k A ad hD v f g a1 (by omega)) mM_X10_224 mI_X7_knows mE_X7_knows mN_X7 mC_X7_knows (by decide +kernel) 30 (ci := 7) rfl rfl hP hS (fun _ h => h) ⟨Nat.le_of_ble_eq_true rfl, Nat.le_of_ble_eq_true rfl⟩ ⟨Nat.zero_le _, Nat.zero_le _⟩ hl.1 rfl rfl (Nat.le_of_ble_eq_true rfl) dX10_tried_5 (fun r_1 v_1 f_1 g_1 H locs hq_1 hP _ hS => ?_)
  obtain ⟨⟨z_1, rfl, ez0_1⟩, rfl, rfl, rfl⟩ := hq_1
  have ez_1 : z_1 = (if 0 ≤ a1 ∧ a1 < v 23 then 1 else 0) := ez0_1
  have w_1 := gif (P := 0 ≤ a1 ∧ a1 < v 23) ez_1
  have hz_1 : inR z_1 := (by omega)
  show W p l e (gRm 1 21) s m args below meth c _ _ 0 0 Q (F0 m 8 ls [.int (iI z_1)])
  have k_1 : z_1 = 0 := by omega
  refine gi_zne (tgt := 17) hx hb dX10_tried_8 (by decide) (by omega) (fun c_2 => ?_) (fun c_2 => ?_)
  · exfalso; omega
  · refine lv_aload_n hx hb dX10_tried_11 rfl (lv_at hl 0 rfl) ?_
    refine lv_iconst (v := iI 1) hx hb dX10_tried_12 rfl ?_
    refine g_cv (As := [.int (iI 1)]) (rest := []) (n := 1) C hml (c_X10_refuse l D k A ad hD v f g 1 (by decide)) mM_X10_88 mI_X10_refuse mE_X10_refuse mN_X10 mC_X10_refuse (by decide +kernel) 0 (ci := 10) rfl rfl hP hS (fun _ h => h) ⟨Nat.le_of_ble_eq_true rfl, Nat.le_of_ble_eq_true rfl⟩ ⟨Nat.zero_le _, Nat.zero_le _⟩ hl.1 rfl rfl (Nat.le_of_ble_eq_true rfl) dX10_tried_13 (fun r_3 v_3 f_3 g_3 H locs hq_3 hP _ hS => ?_)
    obtain ⟨rfl, rfl, rfl, rfl⟩ := hq_3
    show W p l e (gRm 1 21) s m args below meth c _ _ 0 0 Q (F0 m 16 ls [.int (iI (-1))])
    exact g_iret hQ C hr hlocks hP hS dX10_tried_16 ⟨rfl, trivial, trivial, trivial⟩

set_option maxHeartbeats 4000000 in
set_option maxRecDepth 100000 in
theorem c_X10_seen (l : Launch) (D : va_G) (k : Nat → ClassId) (A : Nat → Prop) (ad : Nat → Nat) (hD : rwD A k ad) (v : gV) (f g : gF) (a1 : Int) (a2 : Int) (h_a1 : inR a1) (h_a2 : inR a2) (q0 : v 0 = 0) (q1 : v 1 = 0) (q21 : v 21 = 0) (q22 : v 22 = 0) (q23 : v 23 = 0) (q25 : v 25 = 0) (q26 : v 26 = 0) (q27 : v 27 = (-1)) (q28 : v 28 = (-1)) (qf : ∀ k, f 27 k = 0) : GM l D k A (rwW k ad) yX10_seen cX10_seen 3 (some .int) 1 21 [.ref (ad 0), .int (iI a1), .int (iI a2)] v f g (fun r v1 f1 g1 => r = some (.int (iI (-1))) ∧ True ∧ True ∧ True) := by
  refine GM.of (by decide) (Nat.le_of_ble_eq_true rfl) ?_
  intro p e s m args below meth c Q ls hQ C hml hr hlocks hP hl
  have hx := C.1
  have hb := C.2.1
  have hok := hP.2
  have hS : va_S A s.heap s.heap [] := va_S.rf
  have hl : lv_has ls 3 [(0, .ref (ad 0)), (1, .int (iI a1)), (2, .int (iI a2))] := hl
  refine lv_aload_n hx hb dX10_seen_0 rfl (lv_at hl 0 rfl) ?_
  refine rwG_field C hP mF_X10_37 dX10_seen_1 ?_
  refine lv_iload_n hx hb dX10_seen_4 rfl (lv_at hl 1 rfl) ?_
  refine g_cv (As := [.int (iI a1)]) (rest := []) (n := 1) C hml (c_X2_knows l D k A ad hD v f g a1 (by omega)) mM_X10_180 mI_X2_knows mE_X2_knows mN_X2 mC_X2_knows (by decide +kernel) 27 (ci := 2) rfl rfl hP hS (fun _ h => h) ⟨Nat.le_of_ble_eq_true rfl, Nat.le_of_ble_eq_true rfl⟩ ⟨Nat.zero_le _, Nat.zero_le _⟩ hl.1 rfl rfl (Nat.le_of_ble_eq_true rfl) dX10_seen_5 (fun r_1 v_1 f_1 g_1 H locs hq_1 hP _ hS => ?_)
  obtain ⟨⟨z_1, rfl, ez0_1⟩, rfl, rfl, rfl⟩ := hq_1
  have ez_1 : z_1 = (if 0 ≤ a1 ∧ a1 < v 21 then 1 else 0) := ez0_1
  have w_1 := gif (P := 0 ≤ a1 ∧ a1 < v 21) ez_1
  have hz_1 : inR z_1 := (by omega)
  show W p l e (gRm 1 21) s m args below meth c _ _ 0 0 Q (F0 m 8 ls [.int (iI z_1)])
  have k_1 : z_1 = 0 := by omega
  refine gi_zeq (tgt := 29) hx hb dX10_seen_8 (by decide) (by omega) (fun c_2 => ?_) (fun c_2 => ?_)
  · refine lv_aload_n hx hb dX10_seen_29 rfl (lv_at hl 0 rfl) ?_
    refine lv_iconst (v := iI 1) hx hb dX10_seen_30 rfl ?_
    refine g_cv (As := [.int (iI 1)]) (rest := []) (n := 1) C hml (c_X10_refuse l D k A ad hD v f g 1 (by decide)) mM_X10_88 mI_X10_refuse mE_X10_refuse mN_X10 mC_X10_refuse (by decide +kernel) 0 (ci := 10) rfl rfl hP hS (fun _ h => h) ⟨Nat.le_of_ble_eq_true rfl, Nat.le_of_ble_eq_true rfl⟩ ⟨Nat.zero_le _, Nat.zero_le _⟩ hl.1 rfl rfl (Nat.le_of_ble_eq_true rfl) dX10_seen_31 (fun r_3 v_3 f_3 g_3 H locs hq_3 hP _ hS => ?_)
    obtain ⟨rfl, rfl, rfl, rfl⟩ := hq_3
    show W p l e (gRm 1 21) s m args below meth c _ _ 0 0 Q (F0 m 34 ls [.int (iI (-1))])
    exact g_iret hQ C hr hlocks hP hS dX10_seen_34 ⟨rfl, trivial, trivial, trivial⟩
  · exfalso; omega

set_option maxHeartbeats 4000000 in
set_option maxRecDepth 100000 in
theorem c_X10_ready (l : Launch) (D : va_G) (k : Nat → ClassId) (A : Nat → Prop) (ad : Nat → Nat) (hD : rwD A k ad) (v : gV) (f g : gF) (a1 : Int) (h_a1 : inR a1) (q0 : v 0 = 0) (q1 : v 1 = 0) (q21 : v 21 = 0) (q22 : v 22 = 0) (q23 : v 23 = 0) (q25 : v 25 = 0) (q26 : v 26 = 0) (q27 : v 27 = (-1)) (q28 : v 28 = (-1)) (qf : ∀ k, f 27 k = 0) : GM l D k A (rwW k ad) yX10_ready cX10_ready 2 (some .int) 1 21 [.ref (ad 0), .int (iI a1)] v f g (fun r v1 f1 g1 => r = some (.int (iI (-1))) ∧ True ∧ True ∧ True) := by
  refine GM.of (by decide) (Nat.le_of_ble_eq_true rfl) ?_
  intro p e s m args below meth c Q ls hQ C hml hr hlocks hP hl
  have hx := C.1
  have hb := C.2.1
  have hok := hP.2
  have hS : va_S A s.heap s.heap [] := va_S.rf
  have hl : lv_has ls 2 [(0, .ref (ad 0)), (1, .int (iI a1))] := hl
  refine lv_aload_n hx hb dX10_ready_0 rfl (lv_at hl 0 rfl) ?_
  refine rwG_field C hP mF_X10_37 dX10_ready_1 ?_
  refine lv_iload_n hx hb dX10_ready_4 rfl (lv_at hl 1 rfl) ?_
  refine g_cv (As := [.int (iI a1)]) (rest := []) (n := 1) C hml (c_X2_knows l D k A ad hD v f g a1 (by omega)) mM_X10_180 mI_X2_knows mE_X2_knows mN_X2 mC_X2_knows (by decide +kernel) 27 (ci := 2) rfl rfl hP hS (fun _ h => h) ⟨Nat.le_of_ble_eq_true rfl, Nat.le_of_ble_eq_true rfl⟩ ⟨Nat.zero_le _, Nat.zero_le _⟩ hl.1 rfl rfl (Nat.le_of_ble_eq_true rfl) dX10_ready_5 (fun r_1 v_1 f_1 g_1 H locs hq_1 hP _ hS => ?_)
  obtain ⟨⟨z_1, rfl, ez0_1⟩, rfl, rfl, rfl⟩ := hq_1
  have ez_1 : z_1 = (if 0 ≤ a1 ∧ a1 < v 21 then 1 else 0) := ez0_1
  have w_1 := gif (P := 0 ≤ a1 ∧ a1 < v 21) ez_1
  have hz_1 : inR z_1 := (by omega)
  show W p l e (gRm 1 21) s m args below meth c _ _ 0 0 Q (F0 m 8 ls [.int (iI z_1)])
  have k_1 : z_1 = 0 := by omega
  refine gi_zne (tgt := 17) hx hb dX10_ready_8 (by decide) (by omega) (fun c_2 => ?_) (fun c_2 => ?_)
  · exfalso; omega
  · refine lv_aload_n hx hb dX10_ready_11 rfl (lv_at hl 0 rfl) ?_
    refine lv_iconst (v := iI 1) hx hb dX10_ready_12 rfl ?_
    refine g_cv (As := [.int (iI 1)]) (rest := []) (n := 1) C hml (c_X10_refuse l D k A ad hD v f g 1 (by decide)) mM_X10_88 mI_X10_refuse mE_X10_refuse mN_X10 mC_X10_refuse (by decide +kernel) 0 (ci := 10) rfl rfl hP hS (fun _ h => h) ⟨Nat.le_of_ble_eq_true rfl, Nat.le_of_ble_eq_true rfl⟩ ⟨Nat.zero_le _, Nat.zero_le _⟩ hl.1 rfl rfl (Nat.le_of_ble_eq_true rfl) dX10_ready_13 (fun r_3 v_3 f_3 g_3 H locs hq_3 hP _ hS => ?_)
    obtain ⟨rfl, rfl, rfl, rfl⟩ := hq_3
    show W p l e (gRm 1 21) s m args below meth c _ _ 0 0 Q (F0 m 16 ls [.int (iI (-1))])
    exact g_iret hQ C hr hlocks hP hS dX10_ready_16 ⟨rfl, trivial, trivial, trivial⟩

set_option maxHeartbeats 4000000 in
set_option maxRecDepth 100000 in
theorem c_X10_appeal (l : Launch) (D : va_G) (k : Nat → ClassId) (A : Nat → Prop) (ad : Nat → Nat) (hD : rwD A k ad) (v : gV) (f g : gF) (a1 : Int) (a2 : Int) (a3 : Int) (h_a1 : inR a1) (h_a2 : inR a2) (h_a3 : inR a3) (q0 : v 0 = 0) (q1 : v 1 = 0) (q21 : v 21 = 0) (q22 : v 22 = 0) (q23 : v 23 = 0) (q25 : v 25 = 0) (q26 : v 26 = 0) (q27 : v 27 = (-1)) (q28 : v 28 = (-1)) (qf : ∀ k, f 27 k = 0) : GM l D k A (rwW k ad) yX10_appeal cX10_appeal 5 (some .boolean) 1 21 [.ref (ad 0), .int (iI a1), .int (iI a2), .int (iI a3)] v f g (fun r v1 f1 g1 => r = some (.int (iI 0)) ∧ True ∧ True ∧ True) := by
  refine GM.of (by decide) (Nat.le_of_ble_eq_true rfl) ?_
  intro p e s m args below meth c Q ls hQ C hml hr hlocks hP hl
  have hx := C.1
  have hb := C.2.1
  have hok := hP.2
  have hS : va_S A s.heap s.heap [] := va_S.rf
  have hl : lv_has ls 5 [(0, .ref (ad 0)), (1, .int (iI a1)), (2, .int (iI a2)), (3, .int (iI a3))] := hl
  refine lv_aload_n hx hb dX10_appeal_0 rfl (lv_at hl 0 rfl) ?_
  refine rwG_tries C hP mF_X10_44 dX10_appeal_1 ?_
  refine lv_iload_n hx hb dX10_appeal_4 rfl (lv_at hl 1 rfl) ?_
  refine g_cv (As := [.int (iI a1)]) (rest := []) (n := 1) C hml (c_X7_knows l D k A ad hD v f g a1 (by omega)) mM_X10_224 mI_X7_knows mE_X7_knows mN_X7 mC_X7_knows (by decide +kernel) 30 (ci := 7) rfl rfl hP hS (fun _ h => h) ⟨Nat.le_of_ble_eq_true rfl, Nat.le_of_ble_eq_true rfl⟩ ⟨Nat.zero_le _, Nat.zero_le _⟩ hl.1 rfl rfl (Nat.le_of_ble_eq_true rfl) dX10_appeal_5 (fun r_1 v_1 f_1 g_1 H locs hq_1 hP _ hS => ?_)
  obtain ⟨⟨z_1, rfl, ez0_1⟩, rfl, rfl, rfl⟩ := hq_1
  have ez_1 : z_1 = (if 0 ≤ a1 ∧ a1 < v 23 then 1 else 0) := ez0_1
  have w_1 := gif (P := 0 ≤ a1 ∧ a1 < v 23) ez_1
  have hz_1 : inR z_1 := (by omega)
  show W p l e (gRm 1 21) s m args below meth c _ _ 0 0 Q (F0 m 8 ls [.int (iI z_1)])
  have k_1 : z_1 = 0 := by omega
  refine gi_zne (tgt := 17) hx hb dX10_appeal_8 (by decide) (by omega) (fun c_2 => ?_) (fun c_2 => ?_)
  · exfalso; omega
  · refine lv_aload_n hx hb dX10_appeal_11 rfl (lv_at hl 0 rfl) ?_
    refine lv_iconst (v := iI 1) hx hb dX10_appeal_12 rfl ?_
    refine g_cv (As := [.int (iI 1)]) (rest := []) (n := 1) C hml (c_X10_deny l D k A ad hD v f g 1 (by decide)) mM_X10_140 mI_X10_deny mE_X10_deny mN_X10 mC_X10_deny (by decide +kernel) 0 (ci := 10) rfl rfl hP hS (fun _ h => h) ⟨Nat.le_of_ble_eq_true rfl, Nat.le_of_ble_eq_true rfl⟩ ⟨Nat.zero_le _, Nat.zero_le _⟩ hl.1 rfl rfl (Nat.le_of_ble_eq_true rfl) dX10_appeal_13 (fun r_3 v_3 f_3 g_3 H locs hq_3 hP _ hS => ?_)
    obtain ⟨rfl, rfl, rfl, rfl⟩ := hq_3
    show W p l e (gRm 1 21) s m args below meth c _ _ 0 0 Q (F0 m 16 ls [.int (iI 0)])
    exact g_zret hQ C hr hlocks (by decide) hP hS dX10_appeal_16 ⟨rfl, trivial, trivial, trivial⟩

set_option maxHeartbeats 4000000 in
set_option maxRecDepth 100000 in
theorem c_X10_of (l : Launch) (D : va_G) (k : Nat → ClassId) (A : Nat → Prop) (ad : Nat → Nat) (hD : rwD A k ad) (v : gV) (f g : gF) (a1 : Int) (a2 : Int) (a3 : Int) (a4 : Int) (a5 : Int) (h_a1 : inR a1) (h_a2 : inR a2) (h_a3 : inR a3) (h_a4 : inR a4) (h_a5 : inR a5) (q0 : v 0 = 0) (q1 : v 1 = 0) (q21 : v 21 = 0) (q22 : v 22 = 0) (q23 : v 23 = 0) (q25 : v 25 = 0) (q26 : v 26 = 0) (q27 : v 27 = (-1)) (q28 : v 28 = (-1)) (qf : ∀ k, f 27 k = 0) : GM l D k A (rwW k ad) yX10_of cX10_of 6 (some .int) 2 43 [.ref (ad 0), .int (iI a1), .int (iI a2), .int (iI a3), .int (iI a4), .int (iI a5)] v f g (fun r v1 f1 g1 => r = some (.int (iI (-1))) ∧ True ∧ True ∧ True) := by
  refine GM.of (by decide) (Nat.le_of_ble_eq_true rfl) ?_
  intro p e s m args below meth c Q ls hQ C hml hr hlocks hP hl
  have hx := C.1
  have hb := C.2.1
  have hok := hP.2
  have hS : va_S A s.heap s.heap [] := va_S.rf
  have hl : lv_has ls 6 [(0, .ref (ad 0)), (1, .int (iI a1)), (2, .int (iI a2)), (3, .int (iI a3)), (4, .int (iI a4)), (5, .int (iI a5))] := hl
  refine lv_aload_n hx hb dX10_of_0 rfl (lv_at hl 0 rfl) ?_
  refine rwG_laws C hP mF_X10_16 dX10_of_1 ?_
  refine lv_iload_n hx hb dX10_of_4 rfl (lv_at hl 1 rfl) ?_
  refine lv_iload_n hx hb dX10_of_5 rfl (lv_at hl 2 rfl) ?_
  refine g_cv (As := [.int (iI a1), .int (iI a2)]) (rest := []) (n := 2) C hml (c_X4_hasRoute l D k A ad hD v f g a1 a2 (by omega) (by omega) (show v 1 ≤ 4 from by omega)) mM_X10_136 mI_X4_hasRoute mE_X4_hasRoute mN_X4 mC_X4_hasRoute (by decide +kernel) 2 (ci := 4) rfl rfl hP hS (fun _ h => h) ⟨Nat.le_of_ble_eq_true rfl, Nat.le_of_ble_eq_true rfl⟩ ⟨Nat.zero_le _, Nat.zero_le _⟩ hl.1 rfl rfl (Nat.le_of_ble_eq_true rfl) dX10_of_6 (fun r_1 v_1 f_1 g_1 H locs hq_1 hP _ hS => ?_)
  obtain ⟨⟨z_1, rfl, ez0_1⟩, rfl, rfl, rfl⟩ := hq_1
  have ez_1 : z_1 = (if (0 ≤ a1 ∧ a1 < v 1) ∧ 0 ≤ a2 ∧ a2 < f 1 (a1 * 4) then 1 else 0) := ez0_1
  have w_1 := gif (P := (0 ≤ a1 ∧ a1 < v 1) ∧ 0 ≤ a2 ∧ a2 < f 1 (a1 * 4)) ez_1
  have hz_1 : inR z_1 := (by omega)
  show W p l e (gRm 2 43) s m args below meth c _ _ 0 0 Q (F0 m 9 ls [.int (iI z_1)])
  have k_1 : z_1 = 0 := by omega
  refine gi_zeq (tgt := 23) hx hb dX10_of_9 (by decide) (by omega) (fun c_2 => ?_) (fun c_2 => ?_)
  · refine lv_aload_n hx hb dX10_of_23 rfl (lv_at hl 0 rfl) ?_
    refine lv_iconst (v := iI 1) hx hb dX10_of_24 rfl ?_
    refine g_cv (As := [.int (iI 1)]) (rest := []) (n := 1) C hml (c_X10_refuse l D k A ad hD v f g 1 (by decide)) mM_X10_88 mI_X10_refuse mE_X10_refuse mN_X10 mC_X10_refuse (by decide +kernel) 0 (ci := 10) rfl rfl hP hS (fun _ h => h) ⟨Nat.le_of_ble_eq_true rfl, Nat.le_of_ble_eq_true rfl⟩ ⟨Nat.zero_le _, Nat.zero_le _⟩ hl.1 rfl rfl (Nat.le_of_ble_eq_true rfl) dX10_of_25 (fun r_3 v_3 f_3 g_3 H locs hq_3 hP _ hS => ?_)
    obtain ⟨rfl, rfl, rfl, rfl⟩ := hq_3
    show W p l e (gRm 2 43) s m args below meth c _ _ 0 0 Q (F0 m 28 ls [.int (iI (-1))])
    exact g_iret hQ C hr hlocks hP hS dX10_of_28 ⟨rfl, trivial, trivial, trivial⟩
  · exfalso; omega

set_option maxHeartbeats 4000000 in
set_option maxRecDepth 100000 in
theorem c_X10_key (l : Launch) (D : va_G) (k : Nat → ClassId) (A : Nat → Prop) (ad : Nat → Nat) (hD : rwD A k ad) (v : gV) (f g : gF) (a1 : Int) (a2 : Int) (a3 : Int) (a4 : Int) (h_a1 : inR a1) (h_a2 : inR a2) (h_a3 : inR a3) (h_a4 : inR a4) (q0 : v 0 = 0) (q1 : v 1 = 0) (q21 : v 21 = 0) (q22 : v 22 = 0) (q23 : v 23 = 0) (q25 : v 25 = 0) (q26 : v 26 = 0) (q27 : v 27 = (-1)) (q28 : v 28 = (-1)) (qf : ∀ k, f 27 k = 0) : GM l D k A (rwW k ad) yX10_key cX10_key 5 (some .long) 1 21 [.ref (ad 0), .int (iI a1), .int (iI a2), .int (iI a3), .int (iI a4)] v f g (fun r v1 f1 g1 => r = some (.long (iL (-1))) ∧ True ∧ True ∧ True) := by
  refine GM.of (by decide) (Nat.le_of_ble_eq_true rfl) ?_
  intro p e s m args below meth c Q ls hQ C hml hr hlocks hP hl
  have hx := C.1
  have hb := C.2.1
  have hok := hP.2
  have hS : va_S A s.heap s.heap [] := va_S.rf
  have hl : lv_has ls 5 [(0, .ref (ad 0)), (1, .int (iI a1)), (2, .int (iI a2)), (3, .int (iI a3)), (4, .int (iI a4))] := hl
  refine lv_aload_n hx hb dX10_key_0 rfl (lv_at hl 0 rfl) ?_
  refine rwG_laws C hP mF_X10_16 dX10_key_1 ?_
  refine lv_iload_n hx hb dX10_key_4 rfl (lv_at hl 1 rfl) ?_
  refine g_cv (As := [.int (iI a1)]) (rest := []) (n := 1) C hml (c_X4_hasRound l D k A ad hD v f g a1 (by omega)) mM_X10_164 mI_X4_hasRound mE_X4_hasRound mN_X4 mC_X4_hasRound (by decide +kernel) 2 (ci := 4) rfl rfl hP hS (fun _ h => h) ⟨Nat.le_of_ble_eq_true rfl, Nat.le_of_ble_eq_true rfl⟩ ⟨Nat.zero_le _, Nat.zero_le _⟩ hl.1 rfl rfl (Nat.le_of_ble_eq_true rfl) dX10_key_5 (fun r_1 v_1 f_1 g_1 H locs hq_1 hP _ hS => ?_)
  obtain ⟨⟨z_1, rfl, ez0_1⟩, rfl, rfl, rfl⟩ := hq_1
  have ez_1 : z_1 = (if 0 ≤ a1 ∧ a1 < v 1 then 1 else 0) := ez0_1
  have w_1 := gif (P := 0 ≤ a1 ∧ a1 < v 1) ez_1
  have hz_1 : inR z_1 := (by omega)
  show W p l e (gRm 1 21) s m args below meth c _ _ 0 0 Q (F0 m 8 ls [.int (iI z_1)])
  have k_1 : z_1 = 0 := by omega
  refine gi_zeq (tgt := 40) hx hb dX10_key_8 (by decide) (by omega) (fun c_2 => ?_) (fun c_2 => ?_)
  · refine lv_aload_n hx hb dX10_key_40 rfl (lv_at hl 0 rfl) ?_
    refine lv_iconst (v := iI 1) hx hb dX10_key_41 rfl ?_
    refine g_cv (As := [.int (iI 1)]) (rest := []) (n := 1) C hml (c_X10_refuse l D k A ad hD v f g 1 (by decide)) mM_X10_88 mI_X10_refuse mE_X10_refuse mN_X10 mC_X10_refuse (by decide +kernel) 0 (ci := 10) rfl rfl hP hS (fun _ h => h) ⟨Nat.le_of_ble_eq_true rfl, Nat.le_of_ble_eq_true rfl⟩ ⟨Nat.zero_le _, Nat.zero_le _⟩ hl.1 rfl rfl (Nat.le_of_ble_eq_true rfl) dX10_key_42 (fun r_3 v_3 f_3 g_3 H locs hq_3 hP _ hS => ?_)
    obtain ⟨rfl, rfl, rfl, rfl⟩ := hq_3
    show W p l e (gRm 1 21) s m args below meth c _ _ 0 0 Q (F0 m 45 ls [.int (iI (-1))])
    refine gi_i2l hx hb (by decide) dX10_key_45 ?_
    exact g_lret hQ C hr hlocks hP hS dX10_key_46 ⟨rfl, trivial, trivial, trivial⟩
  · exfalso; omega

set_option maxHeartbeats 4000000 in
set_option maxRecDepth 100000 in
theorem c_X10_rank (l : Launch) (D : va_G) (k : Nat → ClassId) (A : Nat → Prop) (ad : Nat → Nat) (hD : rwD A k ad) (v : gV) (f g : gF) (a1 : Int) (a2 : Int) (a3 : Int) (h_a1 : inR a1) (h_a2 : inR a2) (h_a3 : inR a3) (q0 : v 0 = 0) (q1 : v 1 = 0) (q21 : v 21 = 0) (q22 : v 22 = 0) (q23 : v 23 = 0) (q25 : v 25 = 0) (q26 : v 26 = 0) (q27 : v 27 = (-1)) (q28 : v 28 = (-1)) (qf : ∀ k, f 27 k = 0) : GM l D k A (rwW k ad) yX10_rank cX10_rank 4 (some .int) 1 21 [.ref (ad 0), .int (iI a1), .int (iI a2), .int (iI a3)] v f g (fun r v1 f1 g1 => r = some (.int (iI (-1))) ∧ True ∧ True ∧ True) := by
  refine GM.of (by decide) (Nat.le_of_ble_eq_true rfl) ?_
  intro p e s m args below meth c Q ls hQ C hml hr hlocks hP hl
  have hx := C.1
  have hb := C.2.1
  have hok := hP.2
  have hS : va_S A s.heap s.heap [] := va_S.rf
  have hl : lv_has ls 4 [(0, .ref (ad 0)), (1, .int (iI a1)), (2, .int (iI a2)), (3, .int (iI a3))] := hl
  refine lv_aload_n hx hb dX10_rank_0 rfl (lv_at hl 0 rfl) ?_
  refine rwG_laws C hP mF_X10_16 dX10_rank_1 ?_
  refine lv_iload_n hx hb dX10_rank_4 rfl (lv_at hl 1 rfl) ?_
  refine g_cv (As := [.int (iI a1)]) (rest := []) (n := 1) C hml (c_X4_hasRound l D k A ad hD v f g a1 (by omega)) mM_X10_164 mI_X4_hasRound mE_X4_hasRound mN_X4 mC_X4_hasRound (by decide +kernel) 2 (ci := 4) rfl rfl hP hS (fun _ h => h) ⟨Nat.le_of_ble_eq_true rfl, Nat.le_of_ble_eq_true rfl⟩ ⟨Nat.zero_le _, Nat.zero_le _⟩ hl.1 rfl rfl (Nat.le_of_ble_eq_true rfl) dX10_rank_5 (fun r_1 v_1 f_1 g_1 H locs hq_1 hP _ hS => ?_)
  obtain ⟨⟨z_1, rfl, ez0_1⟩, rfl, rfl, rfl⟩ := hq_1
  have ez_1 : z_1 = (if 0 ≤ a1 ∧ a1 < v 1 then 1 else 0) := ez0_1
  have w_1 := gif (P := 0 ≤ a1 ∧ a1 < v 1) ez_1
  have hz_1 : inR z_1 := (by omega)
  show W p l e (gRm 1 21) s m args below meth c _ _ 0 0 Q (F0 m 8 ls [.int (iI z_1)])
  have k_1 : z_1 = 0 := by omega
  refine gi_zeq (tgt := 23) hx hb dX10_rank_8 (by decide) (by omega) (fun c_2 => ?_) (fun c_2 => ?_)
  · refine lv_aload_n hx hb dX10_rank_23 rfl (lv_at hl 0 rfl) ?_
    refine lv_iconst (v := iI 1) hx hb dX10_rank_24 rfl ?_
    refine g_cv (As := [.int (iI 1)]) (rest := []) (n := 1) C hml (c_X10_refuse l D k A ad hD v f g 1 (by decide)) mM_X10_88 mI_X10_refuse mE_X10_refuse mN_X10 mC_X10_refuse (by decide +kernel) 0 (ci := 10) rfl rfl hP hS (fun _ h => h) ⟨Nat.le_of_ble_eq_true rfl, Nat.le_of_ble_eq_true rfl⟩ ⟨Nat.zero_le _, Nat.zero_le _⟩ hl.1 rfl rfl (Nat.le_of_ble_eq_true rfl) dX10_rank_25 (fun r_3 v_3 f_3 g_3 H locs hq_3 hP _ hS => ?_)
    obtain ⟨rfl, rfl, rfl, rfl⟩ := hq_3
    show W p l e (gRm 1 21) s m args below meth c _ _ 0 0 Q (F0 m 28 ls [.int (iI (-1))])
    exact g_iret hQ C hr hlocks hP hS dX10_rank_28 ⟨rfl, trivial, trivial, trivial⟩
  · exfalso; omega

set_option maxHeartbeats 4000000 in
set_option maxRecDepth 100000 in
theorem c_X10_advance (l : Launch) (D : va_G) (k : Nat → ClassId) (A : Nat → Prop) (ad : Nat → Nat) (hD : rwD A k ad) (v : gV) (f g : gF) (a1 : Int) (a2 : Int) (h_a1 : inR a1) (h_a2 : inR a2) (q0 : v 0 = 0) (q1 : v 1 = 0) (q21 : v 21 = 0) (q22 : v 22 = 0) (q23 : v 23 = 0) (q25 : v 25 = 0) (q26 : v 26 = 0) (q27 : v 27 = (-1)) (q28 : v 28 = (-1)) (qf : ∀ k, f 27 k = 0) : GM l D k A (rwW k ad) yX10_advance cX10_advance 4 (some .int) 1 21 [.ref (ad 0), .int (iI a1), .int (iI a2)] v f g (fun r v1 f1 g1 => r = some (.int (iI (-1))) ∧ True ∧ True ∧ True) := by
  refine GM.of (by decide) (Nat.le_of_ble_eq_true rfl) ?_
  intro p e s m args below meth c Q ls hQ C hml hr hlocks hP hl
  have hx := C.1
  have hb := C.2.1
  have hok := hP.2
  have hS : va_S A s.heap s.heap [] := va_S.rf
  have hl : lv_has ls 4 [(0, .ref (ad 0)), (1, .int (iI a1)), (2, .int (iI a2))] := hl
  refine lv_iload_n hx hb dX10_advance_0 rfl (lv_at hl 1 rfl) ?_
  refine lv_iconst (v := iI 1) hx hb dX10_advance_1 rfl ?_
  refine gi_clt (tgt := 18) hx hb dX10_advance_2 (by decide) (by omega) (by decide) (fun c_1 => ?_) (fun c_1 => ?_)
  · refine lv_aload_n hx hb dX10_advance_18 rfl (lv_at hl 0 rfl) ?_
    refine lv_iconst (v := iI 2) hx hb dX10_advance_19 rfl ?_
    refine g_cv (As := [.int (iI 2)]) (rest := []) (n := 1) C hml (c_X10_refuse l D k A ad hD v f g 2 (by decide)) mM_X10_88 mI_X10_refuse mE_X10_refuse mN_X10 mC_X10_refuse (by decide +kernel) 0 (ci := 10) rfl rfl hP hS (fun _ h => h) ⟨Nat.le_of_ble_eq_true rfl, Nat.le_of_ble_eq_true rfl⟩ ⟨Nat.zero_le _, Nat.zero_le _⟩ hl.1 rfl rfl (Nat.le_of_ble_eq_true rfl) dX10_advance_20 (fun r_2 v_2 f_2 g_2 H locs hq_2 hP _ hS => ?_)
    obtain ⟨rfl, rfl, rfl, rfl⟩ := hq_2
    show W p l e (gRm 1 21) s m args below meth c _ _ 0 0 Q (F0 m 23 ls [.int (iI (-1))])
    exact g_iret hQ C hr hlocks hP hS dX10_advance_23 ⟨rfl, trivial, trivial, trivial⟩
  · refine lv_iload_n hx hb dX10_advance_5 rfl (lv_at hl 1 rfl) ?_
    refine lv_bipush (v := iI 16) hx hb dX10_advance_6 (by decide) ?_
    refine gi_cgt (tgt := 18) hx hb dX10_advance_8 (by decide) (by omega) (by decide) (fun c_3 => ?_) (fun c_3 => ?_)
    · refine lv_aload_n hx hb dX10_advance_18 rfl (lv_at hl 0 rfl) ?_
      refine lv_iconst (v := iI 2) hx hb dX10_advance_19 rfl ?_
      refine g_cv (As := [.int (iI 2)]) (rest := []) (n := 1) C hml (c_X10_refuse l D k A ad hD v f g 2 (by decide)) mM_X10_88 mI_X10_refuse mE_X10_refuse mN_X10 mC_X10_refuse (by decide +kernel) 0 (ci := 10) rfl rfl hP hS (fun _ h => h) ⟨Nat.le_of_ble_eq_true rfl, Nat.le_of_ble_eq_true rfl⟩ ⟨Nat.zero_le _, Nat.zero_le _⟩ hl.1 rfl rfl (Nat.le_of_ble_eq_true rfl) dX10_advance_20 (fun r_4 v_4 f_4 g_4 H locs hq_4 hP _ hS => ?_)
      obtain ⟨rfl, rfl, rfl, rfl⟩ := hq_4
      show W p l e (gRm 1 21) s m args below meth c _ _ 0 0 Q (F0 m 23 ls [.int (iI (-1))])
      exact g_iret hQ C hr hlocks hP hS dX10_advance_23 ⟨rfl, trivial, trivial, trivial⟩
    · refine lv_iload_n hx hb dX10_advance_11 rfl (lv_at hl 2 rfl) ?_
      refine g_cs (As := [.int (iI a2)]) (rest := []) (n := 1) C hml (c_X10_isDay l D k A ad hD v f g a2 (by omega)) mM_X10_248 mS_X10_isDay mN_X10 mC_X10_isDay (by decide +kernel) hP hS (fun _ h => h) ⟨Nat.le_of_ble_eq_true rfl, Nat.le_of_ble_eq_true rfl⟩ ⟨Nat.zero_le _, Nat.zero_le _⟩ hl.1 rfl rfl (Nat.le_of_ble_eq_true rfl) dX10_advance_12 (fun r_5 v_5 f_5 g_5 H locs hq_5 hP _ hS => ?_)
      obtain ⟨⟨z_5, rfl, ez0_5⟩, rfl, rfl, rfl⟩ := hq_5
      have ez_5 : z_5 = (if 0 ≤ a2 ∧ a2 ≤ 999 then 1 else 0) := ez0_5
      have w_5 := gif (P := 0 ≤ a2 ∧ a2 ≤ 999) ez_5
      have hz_5 : inR z_5 := (by omega)
      show W p l e (gRm 1 21) s m args below meth c _ _ 0 0 Q (F0 m 15 ls [.int (iI z_5)])
      refine gi_zne (tgt := 24) hx hb dX10_advance_15 (by decide) (by omega) (fun c_6 => ?_) (fun c_6 => ?_)
      · refine lv_aload_n hx hb dX10_advance_24 rfl (lv_at hl 0 rfl) ?_
        refine rwG_tries C hP mF_X10_44 dX10_advance_25 ?_
        refine g_cv (As := []) (rest := []) (n := 0) C hml (c_X7_anyOpen l D k A ad hD v f g qf) mM_X10_287 mI_X7_anyOpen mE_X7_anyOpen mN_X7 mC_X7_anyOpen (by decide +kernel) 30 (ci := 7) rfl rfl hP hS (fun _ h => h) ⟨Nat.le_of_ble_eq_true rfl, Nat.le_of_ble_eq_true rfl⟩ ⟨Nat.zero_le _, Nat.zero_le _⟩ hl.1 rfl rfl (Nat.le_of_ble_eq_true rfl) dX10_advance_28 (fun r_7 v_7 f_7 g_7 H locs hq_7 hP _ hS => ?_)
        obtain ⟨rfl, rfl, rfl, rfl⟩ := hq_7
        show W p l e (gRm 1 21) s m args below meth c _ _ 0 0 Q (F0 m 31 ls [.int (iI 0)])
        refine gi_zeq (tgt := 40) hx hb dX10_advance_31 (by decide) (by decide) (fun c_8 => ?_) (fun c_8 => ?_)
        · refine lv_aload_n hx hb dX10_advance_40 rfl (lv_at hl 0 rfl) ?_
          refine rwG_field C hP mF_X10_37 dX10_advance_41 ?_
          refine rwG_field_climbers C hP mF_X10_123 dX10_advance_44 ?_
          have r_9 := hok.1 21
          refine gi_zeq (tgt := 69) hx hb dX10_advance_47 (by decide) (by omega) (fun c_10 => ?_) (fun c_10 => ?_)
          · refine lv_aload_n hx hb dX10_advance_69 rfl (lv_at hl 0 rfl) ?_
            refine lv_bipush (v := iI 10) hx hb dX10_advance_70 (by decide) ?_
            refine g_cv (As := [.int (iI 10)]) (rest := []) (n := 1) C hml (c_X10_refuse l D k A ad hD v f g 10 (by decide)) mM_X10_88 mI_X10_refuse mE_X10_refuse mN_X10 mC_X10_refuse (by decide +kernel) 0 (ci := 10) rfl rfl hP hS (fun _ h => h) ⟨Nat.le_of_ble_eq_true rfl, Nat.le_of_ble_eq_true rfl⟩ ⟨Nat.zero_le _, Nat.zero_le _⟩ hl.1 rfl rfl (Nat.le_of_ble_eq_true rfl) dX10_advance_72 (fun r_11 v_11 f_11 g_11 H locs hq_11 hP _ hS => ?_)
            obtain ⟨rfl, rfl, rfl, rfl⟩ := hq_11
            show W p l e (gRm 1 21) s m args below meth c _ _ 0 0 Q (F0 m 75 ls [.int (iI (-1))])
            exact g_iret hQ C hr hlocks hP hS dX10_advance_75 ⟨rfl, trivial, trivial, trivial⟩
          · exfalso; omega
        · exfalso; omega
      · refine lv_aload_n hx hb dX10_advance_18 rfl (lv_at hl 0 rfl) ?_
        refine lv_iconst (v := iI 2) hx hb dX10_advance_19 rfl ?_
        refine g_cv (As := [.int (iI 2)]) (rest := []) (n := 1) C hml (c_X10_refuse l D k A ad hD v f g 2 (by decide)) mM_X10_88 mI_X10_refuse mE_X10_refuse mN_X10 mC_X10_refuse (by decide +kernel) 0 (ci := 10) rfl rfl hP hS (fun _ h => h) ⟨Nat.le_of_ble_eq_true rfl, Nat.le_of_ble_eq_true rfl⟩ ⟨Nat.zero_le _, Nat.zero_le _⟩ hl.1 rfl rfl (Nat.le_of_ble_eq_true rfl) dX10_advance_20 (fun r_12 v_12 f_12 g_12 H locs hq_12 hP _ hS => ?_)
        obtain ⟨rfl, rfl, rfl, rfl⟩ := hq_12
        show W p l e (gRm 1 21) s m args below meth c _ _ 0 0 Q (F0 m 23 ls [.int (iI (-1))])
        exact g_iret hQ C hr hlocks hP hS dX10_advance_23 ⟨rfl, trivial, trivial, trivial⟩

set_option maxHeartbeats 4000000 in
set_option maxRecDepth 100000 in
theorem c_X10_order (l : Launch) (D : va_G) (k : Nat → ClassId) (A : Nat → Prop) (ad : Nat → Nat) (hD : rwD A k ad) (v : gV) (f g : gF) (a1 : Int) (a2 : Int) (h_a1 : inR a1) (h_a2 : inR a2) (q0 : v 0 = 0) (q1 : v 1 = 0) (q21 : v 21 = 0) (q22 : v 22 = 0) (q23 : v 23 = 0) (q25 : v 25 = 0) (q26 : v 26 = 0) (q27 : v 27 = (-1)) (q28 : v 28 = (-1)) (qf : ∀ k, f 27 k = 0) : GM l D k A (rwW k ad) yX10_order cX10_order 3 (some .int) 1 21 [.ref (ad 0), .int (iI a1), .int (iI a2)] v f g (fun r v1 f1 g1 => r = some (.int (iI (-1))) ∧ True ∧ True ∧ True) := by
  refine GM.of (by decide) (Nat.le_of_ble_eq_true rfl) ?_
  intro p e s m args below meth c Q ls hQ C hml hr hlocks hP hl
  have hx := C.1
  have hb := C.2.1
  have hok := hP.2
  have hS : va_S A s.heap s.heap [] := va_S.rf
  have hl : lv_has ls 3 [(0, .ref (ad 0)), (1, .int (iI a1)), (2, .int (iI a2))] := hl
  refine lv_aload_n hx hb dX10_order_0 rfl (lv_at hl 0 rfl) ?_
  refine rwG_laws C hP mF_X10_16 dX10_order_1 ?_
  refine lv_iload_n hx hb dX10_order_4 rfl (lv_at hl 1 rfl) ?_
  refine g_cv (As := [.int (iI a1)]) (rest := []) (n := 1) C hml (c_X4_hasRound l D k A ad hD v f g a1 (by omega)) mM_X10_164 mI_X4_hasRound mE_X4_hasRound mN_X4 mC_X4_hasRound (by decide +kernel) 2 (ci := 4) rfl rfl hP hS (fun _ h => h) ⟨Nat.le_of_ble_eq_true rfl, Nat.le_of_ble_eq_true rfl⟩ ⟨Nat.zero_le _, Nat.zero_le _⟩ hl.1 rfl rfl (Nat.le_of_ble_eq_true rfl) dX10_order_5 (fun r_1 v_1 f_1 g_1 H locs hq_1 hP _ hS => ?_)
  obtain ⟨⟨z_1, rfl, ez0_1⟩, rfl, rfl, rfl⟩ := hq_1
  have ez_1 : z_1 = (if 0 ≤ a1 ∧ a1 < v 1 then 1 else 0) := ez0_1
  have w_1 := gif (P := 0 ≤ a1 ∧ a1 < v 1) ez_1
  have hz_1 : inR z_1 := (by omega)
  show W p l e (gRm 1 21) s m args below meth c _ _ 0 0 Q (F0 m 8 ls [.int (iI z_1)])
  have k_1 : z_1 = 0 := by omega
  refine gi_zeq (tgt := 27) hx hb dX10_order_8 (by decide) (by omega) (fun c_2 => ?_) (fun c_2 => ?_)
  · refine lv_aload_n hx hb dX10_order_27 rfl (lv_at hl 0 rfl) ?_
    refine lv_iconst (v := iI 1) hx hb dX10_order_28 rfl ?_
    refine g_cv (As := [.int (iI 1)]) (rest := []) (n := 1) C hml (c_X10_refuse l D k A ad hD v f g 1 (by decide)) mM_X10_88 mI_X10_refuse mE_X10_refuse mN_X10 mC_X10_refuse (by decide +kernel) 0 (ci := 10) rfl rfl hP hS (fun _ h => h) ⟨Nat.le_of_ble_eq_true rfl, Nat.le_of_ble_eq_true rfl⟩ ⟨Nat.zero_le _, Nat.zero_le _⟩ hl.1 rfl rfl (Nat.le_of_ble_eq_true rfl) dX10_order_29 (fun r_3 v_3 f_3 g_3 H locs hq_3 hP _ hS => ?_)
    obtain ⟨rfl, rfl, rfl, rfl⟩ := hq_3
    show W p l e (gRm 1 21) s m args below meth c _ _ 0 0 Q (F0 m 32 ls [.int (iI (-1))])
    exact g_iret hQ C hr hlocks hP hS dX10_order_32 ⟨rfl, trivial, trivial, trivial⟩
  · exfalso; omega

set_option maxHeartbeats 4000000 in
set_option maxRecDepth 100000 in
theorem c_X10_parts (l : Launch) (D : va_G) (k : Nat → ClassId) (A : Nat → Prop) (ad : Nat → Nat) (hD : rwD A k ad) (v : gV) (f g : gF) (a1 : Int) (a2 : Int) (a3 : Int) (h_a1 : inR a1) (h_a2 : inR a2) (h_a3 : inR a3) (q0 : v 0 = 0) (q1 : v 1 = 0) (q21 : v 21 = 0) (q22 : v 22 = 0) (q23 : v 23 = 0) (q25 : v 25 = 0) (q26 : v 26 = 0) (q27 : v 27 = (-1)) (q28 : v 28 = (-1)) (qf : ∀ k, f 27 k = 0) : GM l D k A (rwW k ad) yX10_parts cX10_parts 4 (some .int) 1 21 [.ref (ad 0), .int (iI a1), .int (iI a2), .int (iI a3)] v f g (fun r v1 f1 g1 => r = some (.int (iI (-1))) ∧ True ∧ True ∧ True) := by
  refine GM.of (by decide) (Nat.le_of_ble_eq_true rfl) ?_
  intro p e s m args below meth c Q ls hQ C hml hr hlocks hP hl
  have hx := C.1
  have hb := C.2.1
  have hok := hP.2
  have hS : va_S A s.heap s.heap [] := va_S.rf
  have hl : lv_has ls 4 [(0, .ref (ad 0)), (1, .int (iI a1)), (2, .int (iI a2)), (3, .int (iI a3))] := hl
  refine lv_aload_n hx hb dX10_parts_0 rfl (lv_at hl 0 rfl) ?_
  refine rwG_laws C hP mF_X10_16 dX10_parts_1 ?_
  refine lv_iload_n hx hb dX10_parts_4 rfl (lv_at hl 1 rfl) ?_
  refine g_cv (As := [.int (iI a1)]) (rest := []) (n := 1) C hml (c_X4_hasRound l D k A ad hD v f g a1 (by omega)) mM_X10_164 mI_X4_hasRound mE_X4_hasRound mN_X4 mC_X4_hasRound (by decide +kernel) 2 (ci := 4) rfl rfl hP hS (fun _ h => h) ⟨Nat.le_of_ble_eq_true rfl, Nat.le_of_ble_eq_true rfl⟩ ⟨Nat.zero_le _, Nat.zero_le _⟩ hl.1 rfl rfl (Nat.le_of_ble_eq_true rfl) dX10_parts_5 (fun r_1 v_1 f_1 g_1 H locs hq_1 hP _ hS => ?_)
  obtain ⟨⟨z_1, rfl, ez0_1⟩, rfl, rfl, rfl⟩ := hq_1
  have ez_1 : z_1 = (if 0 ≤ a1 ∧ a1 < v 1 then 1 else 0) := ez0_1
  have w_1 := gif (P := 0 ≤ a1 ∧ a1 < v 1) ez_1
  have hz_1 : inR z_1 := (by omega)
  show W p l e (gRm 1 21) s m args below meth c _ _ 0 0 Q (F0 m 8 ls [.int (iI z_1)])
  have k_1 : z_1 = 0 := by omega
  refine gi_zne (tgt := 17) hx hb dX10_parts_8 (by decide) (by omega) (fun c_2 => ?_) (fun c_2 => ?_)
  · exfalso; omega
  · refine lv_aload_n hx hb dX10_parts_11 rfl (lv_at hl 0 rfl) ?_
    refine lv_iconst (v := iI 1) hx hb dX10_parts_12 rfl ?_
    refine g_cv (As := [.int (iI 1)]) (rest := []) (n := 1) C hml (c_X10_refuse l D k A ad hD v f g 1 (by decide)) mM_X10_88 mI_X10_refuse mE_X10_refuse mN_X10 mC_X10_refuse (by decide +kernel) 0 (ci := 10) rfl rfl hP hS (fun _ h => h) ⟨Nat.le_of_ble_eq_true rfl, Nat.le_of_ble_eq_true rfl⟩ ⟨Nat.zero_le _, Nat.zero_le _⟩ hl.1 rfl rfl (Nat.le_of_ble_eq_true rfl) dX10_parts_13 (fun r_3 v_3 f_3 g_3 H locs hq_3 hP _ hS => ?_)
    obtain ⟨rfl, rfl, rfl, rfl⟩ := hq_3
    show W p l e (gRm 1 21) s m args below meth c _ _ 0 0 Q (F0 m 16 ls [.int (iI (-1))])
    exact g_iret hQ C hr hlocks hP hS dX10_parts_16 ⟨rfl, trivial, trivial, trivial⟩

set_option maxHeartbeats 4000000 in
set_option maxRecDepth 100000 in
theorem c_X10_choose (l : Launch) (D : va_G) (k : Nat → ClassId) (A : Nat → Prop) (ad : Nat → Nat) (hD : rwD A k ad) (v : gV) (f g : gF) (a1 : Int) (a2 : Int) (a3 : Int) (h_a1 : inR a1) (h_a2 : inR a2) (h_a3 : inR a3) (q0 : v 0 = 0) (q1 : v 1 = 0) (q21 : v 21 = 0) (q22 : v 22 = 0) (q23 : v 23 = 0) (q25 : v 25 = 0) (q26 : v 26 = 0) (q27 : v 27 = (-1)) (q28 : v 28 = (-1)) (qf : ∀ k, f 27 k = 0) : GM l D k A (rwW k ad) yX10_choose cX10_choose 5 (some .int) 1 21 [.ref (ad 0), .int (iI a1), .int (iI a2), .int (iI a3)] v f g (fun r v1 f1 g1 => r = some (.int (iI (-1))) ∧ True ∧ True ∧ True) := by
  refine GM.of (by decide) (Nat.le_of_ble_eq_true rfl) ?_
  intro p e s m args below meth c Q ls hQ C hml hr hlocks hP hl
  have hx := C.1
  have hb := C.2.1
  have hok := hP.2
  have hS : va_S A s.heap s.heap [] := va_S.rf
  have hl : lv_has ls 5 [(0, .ref (ad 0)), (1, .int (iI a1)), (2, .int (iI a2)), (3, .int (iI a3))] := hl
  refine lv_aload_n hx hb dX10_choose_0 rfl (lv_at hl 0 rfl) ?_
  refine rwG_laws C hP mF_X10_16 dX10_choose_1 ?_
  refine lv_iload_n hx hb dX10_choose_4 rfl (lv_at hl 1 rfl) ?_
  refine g_cv (As := [.int (iI a1)]) (rest := []) (n := 1) C hml (c_X4_hasRound l D k A ad hD v f g a1 (by omega)) mM_X10_164 mI_X4_hasRound mE_X4_hasRound mN_X4 mC_X4_hasRound (by decide +kernel) 2 (ci := 4) rfl rfl hP hS (fun _ h => h) ⟨Nat.le_of_ble_eq_true rfl, Nat.le_of_ble_eq_true rfl⟩ ⟨Nat.zero_le _, Nat.zero_le _⟩ hl.1 rfl rfl (Nat.le_of_ble_eq_true rfl) dX10_choose_5 (fun r_1 v_1 f_1 g_1 H locs hq_1 hP _ hS => ?_)
  obtain ⟨⟨z_1, rfl, ez0_1⟩, rfl, rfl, rfl⟩ := hq_1
  have ez_1 : z_1 = (if 0 ≤ a1 ∧ a1 < v 1 then 1 else 0) := ez0_1
  have w_1 := gif (P := 0 ≤ a1 ∧ a1 < v 1) ez_1
  have hz_1 : inR z_1 := (by omega)
  show W p l e (gRm 1 21) s m args below meth c _ _ 0 0 Q (F0 m 8 ls [.int (iI z_1)])
  have k_1 : z_1 = 0 := by omega
  refine gi_zne (tgt := 17) hx hb dX10_choose_8 (by decide) (by omega) (fun c_2 => ?_) (fun c_2 => ?_)
  · exfalso; omega
  · refine lv_aload_n hx hb dX10_choose_11 rfl (lv_at hl 0 rfl) ?_
    refine lv_iconst (v := iI 1) hx hb dX10_choose_12 rfl ?_
    refine g_cv (As := [.int (iI 1)]) (rest := []) (n := 1) C hml (c_X10_refuse l D k A ad hD v f g 1 (by decide)) mM_X10_88 mI_X10_refuse mE_X10_refuse mN_X10 mC_X10_refuse (by decide +kernel) 0 (ci := 10) rfl rfl hP hS (fun _ h => h) ⟨Nat.le_of_ble_eq_true rfl, Nat.le_of_ble_eq_true rfl⟩ ⟨Nat.zero_le _, Nat.zero_le _⟩ hl.1 rfl rfl (Nat.le_of_ble_eq_true rfl) dX10_choose_13 (fun r_3 v_3 f_3 g_3 H locs hq_3 hP _ hS => ?_)
    obtain ⟨rfl, rfl, rfl, rfl⟩ := hq_3
    show W p l e (gRm 1 21) s m args below meth c _ _ 0 0 Q (F0 m 16 ls [.int (iI (-1))])
    exact g_iret hQ C hr hlocks hP hS dX10_choose_16 ⟨rfl, trivial, trivial, trivial⟩
end
