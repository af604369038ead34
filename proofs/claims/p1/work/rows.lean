section
-- ===== PART A: goes FIRST, ahead of the names: the tables' words, and 'selects' of the private methods out of them =====
/-- a private method of a class that the tables say can be made, by its rows of tables_1 -/
def lw_okq (q : MethodName × Nat) : Prop := (q.1.cls ≠ "java/lang/invoke/MethodHandle" ∧ q.1.cls ≠ "java/lang/invoke/VarHandle") ∧ Cond.instantiable q.1.cls q.2 ∈ tables_1 ∧ Cond.privateMethod q.1 ∈ tables_1 ∧ Cond.instanceMethod q.1 ∈ tables_1
theorem lw_p0 : lw_okq (⟨"RouteWall", "putOnTape", "(I)V"⟩, 14) := ⟨⟨by decide +kernel, by decide +kernel⟩, List.mem_of_getElem? (i := 22) (by decide +kernel), List.mem_of_getElem? (i := 403) (by decide +kernel), List.mem_of_getElem? (i := 404) (by decide +kernel)⟩
theorem lw_p1 : lw_okq (⟨"RouteWall", "refuse", "(I)I"⟩, 14) := ⟨⟨by decide +kernel, by decide +kernel⟩, List.mem_of_getElem? (i := 22) (by decide +kernel), List.mem_of_getElem? (i := 411) (by decide +kernel), List.mem_of_getElem? (i := 412) (by decide +kernel)⟩
theorem lw_p2 : lw_okq (⟨"RouteWall$Tokens", "putWord", "([III)I"⟩, 5) := ⟨⟨by decide +kernel, by decide +kernel⟩, List.mem_of_getElem? (i := 86) (by decide +kernel), List.mem_of_getElem? (i := 438) (by decide +kernel), List.mem_of_getElem? (i := 439) (by decide +kernel)⟩
theorem lw_p3 : lw_okq (⟨"RouteWall$Tokens", "put", "(III)V"⟩, 5) := ⟨⟨by decide +kernel, by decide +kernel⟩, List.mem_of_getElem? (i := 86) (by decide +kernel), List.mem_of_getElem? (i := 494) (by decide +kernel), List.mem_of_getElem? (i := 495) (by decide +kernel)⟩
theorem lw_p4 : lw_okq (⟨"RouteWall$Tokens", "putNumber", "([III)I"⟩, 5) := ⟨⟨by decide +kernel, by decide +kernel⟩, List.mem_of_getElem? (i := 86) (by decide +kernel), List.mem_of_getElem? (i := 501) (by decide +kernel), List.mem_of_getElem? (i := 502) (by decide +kernel)⟩
theorem lw_p5 : lw_okq (⟨"RouteWall$LawReader", "readLaw", "()V"⟩, 8) := ⟨⟨by decide +kernel, by decide +kernel⟩, List.mem_of_getElem? (i := 80) (by decide +kernel), List.mem_of_getElem? (i := 512) (by decide +kernel), List.mem_of_getElem? (i := 513) (by decide +kernel)⟩
theorem lw_p6 : lw_okq (⟨"RouteWall$LawReader", "readRound", "()V"⟩, 8) := ⟨⟨by decide +kernel, by decide +kernel⟩, List.mem_of_getElem? (i := 80) (by decide +kernel), List.mem_of_getElem? (i := 516) (by decide +kernel), List.mem_of_getElem? (i := 517) (by decide +kernel)⟩
theorem lw_p7 : lw_okq (⟨"RouteWall$LawReader", "refuseIf", "(ZI)V"⟩, 8) := ⟨⟨by decide +kernel, by decide +kernel⟩, List.mem_of_getElem? (i := 80) (by decide +kernel), List.mem_of_getElem? (i := 520) (by decide +kernel), List.mem_of_getElem? (i := 521) (by decide +kernel)⟩
theorem lw_p8 : lw_okq (⟨"RouteWall$LawReader", "note", "(I)V"⟩, 8) := ⟨⟨by decide +kernel, by decide +kernel⟩, List.mem_of_getElem? (i := 80) (by decide +kernel), List.mem_of_getElem? (i := 524) (by decide +kernel), List.mem_of_getElem? (i := 525) (by decide +kernel)⟩
theorem lw_p9 : lw_okq (⟨"RouteWall$LawReader", "goOn", "()Z"⟩, 8) := ⟨⟨by decide +kernel, by decide +kernel⟩, List.mem_of_getElem? (i := 80) (by decide +kernel), List.mem_of_getElem? (i := 532) (by decide +kernel), List.mem_of_getElem? (i := 533) (by decide +kernel)⟩
theorem lw_p10 : lw_okq (⟨"RouteWall$LawReader", "pass", "(I)V"⟩, 8) := ⟨⟨by decide +kernel, by decide +kernel⟩, List.mem_of_getElem? (i := 80) (by decide +kernel), List.mem_of_getElem? (i := 548) (by decide +kernel), List.mem_of_getElem? (i := 549) (by decide +kernel)⟩
theorem lw_p11 : lw_okq (⟨"RouteWall$LawReader", "refuseToken", "()V"⟩, 8) := ⟨⟨by decide +kernel, by decide +kernel⟩, List.mem_of_getElem? (i := 80) (by decide +kernel), List.mem_of_getElem? (i := 552) (by decide +kernel), List.mem_of_getElem? (i := 553) (by decide +kernel)⟩
theorem lw_p12 : lw_okq (⟨"RouteWall$Expression", "release", "(ILRouteWall$Laws;)V"⟩, 6) := ⟨⟨by decide +kernel, by decide +kernel⟩, List.mem_of_getElem? (i := 110) (by decide +kernel), List.mem_of_getElem? (i := 561) (by decide +kernel), List.mem_of_getElem? (i := 562) (by decide +kernel)⟩
theorem lw_p13 : lw_okq (⟨"RouteWall$Expression", "readBehindFactor", "(ILRouteWall$Laws;)Z"⟩, 6) := ⟨⟨by decide +kernel, by decide +kernel⟩, List.mem_of_getElem? (i := 110) (by decide +kernel), List.mem_of_getElem? (i := 566) (by decide +kernel), List.mem_of_getElem? (i := 567) (by decide +kernel)⟩
theorem lw_p14 : lw_okq (⟨"RouteWall$Expression", "putSign", "(ILRouteWall$Laws;)V"⟩, 6) := ⟨⟨by decide +kernel, by decide +kernel⟩, List.mem_of_getElem? (i := 110) (by decide +kernel), List.mem_of_getElem? (i := 570) (by decide +kernel), List.mem_of_getElem? (i := 571) (by decide +kernel)⟩
theorem lw_p15 : lw_okq (⟨"RouteWall$Expression", "countItem", "()V"⟩, 6) := ⟨⟨by decide +kernel, by decide +kernel⟩, List.mem_of_getElem? (i := 110) (by decide +kernel), List.mem_of_getElem? (i := 574) (by decide +kernel), List.mem_of_getElem? (i := 575) (by decide +kernel)⟩
def lw_privs_1 : List (MethodName × Nat) := [(⟨"RouteWall", "putOnTape", "(I)V"⟩, 14), (⟨"RouteWall", "refuse", "(I)I"⟩, 14), (⟨"RouteWall$Tokens", "putWord", "([III)I"⟩, 5), (⟨"RouteWall$Tokens", "put", "(III)V"⟩, 5), (⟨"RouteWall$Tokens", "putNumber", "([III)I"⟩, 5), (⟨"RouteWall$LawReader", "readLaw", "()V"⟩, 8), (⟨"RouteWall$LawReader", "readRound", "()V"⟩, 8), (⟨"RouteWall$LawReader", "refuseIf", "(ZI)V"⟩, 8), (⟨"RouteWall$LawReader", "note", "(I)V"⟩, 8), (⟨"RouteWall$LawReader", "goOn", "()Z"⟩, 8), (⟨"RouteWall$LawReader", "pass", "(I)V"⟩, 8), (⟨"RouteWall$LawReader", "refuseToken", "()V"⟩, 8), (⟨"RouteWall$Expression", "release", "(ILRouteWall$Laws;)V"⟩, 6), (⟨"RouteWall$Expression", "readBehindFactor", "(ILRouteWall$Laws;)Z"⟩, 6), (⟨"RouteWall$Expression", "putSign", "(ILRouteWall$Laws;)V"⟩, 6), (⟨"RouteWall$Expression", "countItem", "()V"⟩, 6)]
theorem lw_r1 : ∀ q ∈ lw_privs_1, lw_okq q := List.forall_mem_cons.mpr ⟨lw_p0, List.forall_mem_cons.mpr ⟨lw_p1, List.forall_mem_cons.mpr ⟨lw_p2, List.forall_mem_cons.mpr ⟨lw_p3, List.forall_mem_cons.mpr ⟨lw_p4, List.forall_mem_cons.mpr ⟨lw_p5, List.forall_mem_cons.mpr ⟨lw_p6, List.forall_mem_cons.mpr ⟨lw_p7, List.forall_mem_cons.mpr ⟨lw_p8, List.forall_mem_cons.mpr ⟨lw_p9, List.forall_mem_cons.mpr ⟨lw_p10, List.forall_mem_cons.mpr ⟨lw_p11, List.forall_mem_cons.mpr ⟨lw_p12, List.forall_mem_cons.mpr ⟨lw_p13, List.forall_mem_cons.mpr ⟨lw_p14, List.forall_mem_cons.mpr ⟨lw_p15, fun _ h => absurd h List.not_mem_nil⟩⟩⟩⟩⟩⟩⟩⟩⟩⟩⟩⟩⟩⟩⟩⟩
theorem lw_p16 : lw_okq (⟨"RouteWall$Expression", "await", "(I)V"⟩, 6) := ⟨⟨by decide +kernel, by decide +kernel⟩, List.mem_of_getElem? (i := 110) (by decide +kernel), List.mem_of_getElem? (i := 578) (by decide +kernel), List.mem_of_getElem? (i := 579) (by decide +kernel)⟩
theorem lw_p17 : lw_okq (⟨"RouteWall$Expression", "closeParen", "(LRouteWall$Laws;)V"⟩, 6) := ⟨⟨by decide +kernel, by decide +kernel⟩, List.mem_of_getElem? (i := 110) (by decide +kernel), List.mem_of_getElem? (i := 582) (by decide +kernel), List.mem_of_getElem? (i := 583) (by decide +kernel)⟩
theorem lw_p18 : lw_okq (⟨"RouteWall$Expression", "refuseToken", "(I)V"⟩, 6) := ⟨⟨by decide +kernel, by decide +kernel⟩, List.mem_of_getElem? (i := 110) (by decide +kernel), List.mem_of_getElem? (i := 586) (by decide +kernel), List.mem_of_getElem? (i := 587) (by decide +kernel)⟩
theorem lw_p19 : lw_okq (⟨"RouteWall$Expression", "releaseNegations", "(LRouteWall$Laws;)V"⟩, 6) := ⟨⟨by decide +kernel, by decide +kernel⟩, List.mem_of_getElem? (i := 110) (by decide +kernel), List.mem_of_getElem? (i := 593) (by decide +kernel), List.mem_of_getElem? (i := 594) (by decide +kernel)⟩
theorem lw_p20 : lw_okq (⟨"RouteWall$Expression", "readFactor", "(LRouteWall$Tokens;LRouteWall$Laws;)Z"⟩, 6) := ⟨⟨by decide +kernel, by decide +kernel⟩, List.mem_of_getElem? (i := 110) (by decide +kernel), List.mem_of_getElem? (i := 597) (by decide +kernel), List.mem_of_getElem? (i := 598) (by decide +kernel)⟩
theorem lw_p21 : lw_okq (⟨"RouteWall$Expression", "nest", "(I)V"⟩, 6) := ⟨⟨by decide +kernel, by decide +kernel⟩, List.mem_of_getElem? (i := 110) (by decide +kernel), List.mem_of_getElem? (i := 602) (by decide +kernel), List.mem_of_getElem? (i := 603) (by decide +kernel)⟩
theorem lw_p22 : lw_okq (⟨"RouteWall$LawReader", "readKeys", "()V"⟩, 8) := ⟨⟨by decide +kernel, by decide +kernel⟩, List.mem_of_getElem? (i := 80) (by decide +kernel), List.mem_of_getElem? (i := 607) (by decide +kernel), List.mem_of_getElem? (i := 608) (by decide +kernel)⟩
theorem lw_p23 : lw_okq (⟨"RouteWall$LawReader", "readKey", "()V"⟩, 8) := ⟨⟨by decide +kernel, by decide +kernel⟩, List.mem_of_getElem? (i := 80) (by decide +kernel), List.mem_of_getElem? (i := 611) (by decide +kernel), List.mem_of_getElem? (i := 612) (by decide +kernel)⟩
theorem lw_p24 : lw_okq (⟨"RouteWall$LawReader", "readTies", "()V"⟩, 8) := ⟨⟨by decide +kernel, by decide +kernel⟩, List.mem_of_getElem? (i := 80) (by decide +kernel), List.mem_of_getElem? (i := 616) (by decide +kernel), List.mem_of_getElem? (i := 617) (by decide +kernel)⟩
theorem lw_p25 : lw_okq (⟨"RouteWall", "answer", "(I)I"⟩, 14) := ⟨⟨by decide +kernel, by decide +kernel⟩, List.mem_of_getElem? (i := 22) (by decide +kernel), List.mem_of_getElem? (i := 652) (by decide +kernel), List.mem_of_getElem? (i := 653) (by decide +kernel)⟩
theorem lw_p26 : lw_okq (⟨"RouteWall", "deny", "(I)Z"⟩, 14) := ⟨⟨by decide +kernel, by decide +kernel⟩, List.mem_of_getElem? (i := 22) (by decide +kernel), List.mem_of_getElem? (i := 681) (by decide +kernel), List.mem_of_getElem? (i := 682) (by decide +kernel)⟩
theorem lw_p27 : lw_okq (⟨"RouteWall", "grant", "()Z"⟩, 14) := ⟨⟨by decide +kernel, by decide +kernel⟩, List.mem_of_getElem? (i := 22) (by decide +kernel), List.mem_of_getElem? (i := 703) (by decide +kernel), List.mem_of_getElem? (i := 704) (by decide +kernel)⟩
theorem lw_p28 : lw_okq (⟨"RouteWall", "passTo", "(I)I"⟩, 14) := ⟨⟨by decide +kernel, by decide +kernel⟩, List.mem_of_getElem? (i := 22) (by decide +kernel), List.mem_of_getElem? (i := 736) (by decide +kernel), List.mem_of_getElem? (i := 737) (by decide +kernel)⟩
theorem lw_p29 : lw_okq (⟨"RouteWall", "whyNotBegin", "(II)I"⟩, 14) := ⟨⟨by decide +kernel, by decide +kernel⟩, List.mem_of_getElem? (i := 22) (by decide +kernel), List.mem_of_getElem? (i := 753) (by decide +kernel), List.mem_of_getElem? (i := 754) (by decide +kernel)⟩
theorem lw_p30 : lw_okq (⟨"RouteWall", "hasSeen", "(II)Z"⟩, 14) := ⟨⟨by decide +kernel, by decide +kernel⟩, List.mem_of_getElem? (i := 22) (by decide +kernel), List.mem_of_getElem? (i := 771) (by decide +kernel), List.mem_of_getElem? (i := 772) (by decide +kernel)⟩
theorem lw_p31 : lw_okq (⟨"RouteWall$Watch", "wasOut", "(IIII)Z"⟩, 3) := ⟨⟨by decide +kernel, by decide +kernel⟩, List.mem_of_getElem? (i := 281) (by decide +kernel), List.mem_of_getElem? (i := 779) (by decide +kernel), List.mem_of_getElem? (i := 780) (by decide +kernel)⟩
def lw_privs_2 : List (MethodName × Nat) := [(⟨"RouteWall$Expression", "await", "(I)V"⟩, 6), (⟨"RouteWall$Expression", "closeParen", "(LRouteWall$Laws;)V"⟩, 6), (⟨"RouteWall$Expression", "refuseToken", "(I)V"⟩, 6), (⟨"RouteWall$Expression", "releaseNegations", "(LRouteWall$Laws;)V"⟩, 6), (⟨"RouteWall$Expression", "readFactor", "(LRouteWall$Tokens;LRouteWall$Laws;)Z"⟩, 6), (⟨"RouteWall$Expression", "nest", "(I)V"⟩, 6), (⟨"RouteWall$LawReader", "readKeys", "()V"⟩, 8), (⟨"RouteWall$LawReader", "readKey", "()V"⟩, 8), (⟨"RouteWall$LawReader", "readTies", "()V"⟩, 8), (⟨"RouteWall", "answer", "(I)I"⟩, 14), (⟨"RouteWall", "deny", "(I)Z"⟩, 14), (⟨"RouteWall", "grant", "()Z"⟩, 14), (⟨"RouteWall", "passTo", "(I)I"⟩, 14), (⟨"RouteWall", "whyNotBegin", "(II)I"⟩, 14), (⟨"RouteWall", "hasSeen", "(II)Z"⟩, 14), (⟨"RouteWall$Watch", "wasOut", "(IIII)Z"⟩, 3)]
theorem lw_r2 : ∀ q ∈ lw_privs_2, lw_okq q := List.forall_mem_cons.mpr ⟨lw_p16, List.forall_mem_cons.mpr ⟨lw_p17, List.forall_mem_cons.mpr ⟨lw_p18, List.forall_mem_cons.mpr ⟨lw_p19, List.forall_mem_cons.mpr ⟨lw_p20, List.forall_mem_cons.mpr ⟨lw_p21, List.forall_mem_cons.mpr ⟨lw_p22, List.forall_mem_cons.mpr ⟨lw_p23, List.forall_mem_cons.mpr ⟨lw_p24, List.forall_mem_cons.mpr ⟨lw_p25, List.forall_mem_cons.mpr ⟨lw_p26, List.forall_mem_cons.mpr ⟨lw_p27, List.forall_mem_cons.mpr ⟨lw_p28, List.forall_mem_cons.mpr ⟨lw_p29, List.forall_mem_cons.mpr ⟨lw_p30, List.forall_mem_cons.mpr ⟨lw_p31, fun _ h => absurd h List.not_mem_nil⟩⟩⟩⟩⟩⟩⟩⟩⟩⟩⟩⟩⟩⟩⟩⟩
theorem lw_p32 : lw_okq (⟨"RouteWall$Watch", "latest", "(I)I"⟩, 3) := ⟨⟨by decide +kernel, by decide +kernel⟩, List.mem_of_getElem? (i := 281) (by decide +kernel), List.mem_of_getElem? (i := 783) (by decide +kernel), List.mem_of_getElem? (i := 784) (by decide +kernel)⟩
theorem lw_p33 : lw_okq (⟨"RouteWall", "restOver", "(I)I"⟩, 14) := ⟨⟨by decide +kernel, by decide +kernel⟩, List.mem_of_getElem? (i := 22) (by decide +kernel), List.mem_of_getElem? (i := 787) (by decide +kernel), List.mem_of_getElem? (i := 788) (by decide +kernel)⟩
theorem lw_p34 : lw_okq (⟨"RouteWall$Results", "hearAppeals", "(I)V"⟩, 15) := ⟨⟨by decide +kernel, by decide +kernel⟩, List.mem_of_getElem? (i := 298) (by decide +kernel), List.mem_of_getElem? (i := 873) (by decide +kernel), List.mem_of_getElem? (i := 874) (by decide +kernel)⟩
theorem lw_p35 : lw_okq (⟨"RouteWall$Results", "lowestAsked", "(I)I"⟩, 15) := ⟨⟨by decide +kernel, by decide +kernel⟩, List.mem_of_getElem? (i := 298) (by decide +kernel), List.mem_of_getElem? (i := 940) (by decide +kernel), List.mem_of_getElem? (i := 941) (by decide +kernel)⟩
theorem lw_p36 : lw_okq (⟨"RouteWall$Results", "manyAhead", "(II)I"⟩, 15) := ⟨⟨by decide +kernel, by decide +kernel⟩, List.mem_of_getElem? (i := 298) (by decide +kernel), List.mem_of_getElem? (i := 946) (by decide +kernel), List.mem_of_getElem? (i := 947) (by decide +kernel)⟩
theorem lw_p37 : lw_okq (⟨"RouteWall$Results", "isAhead", "(III)Z"⟩, 15) := ⟨⟨by decide +kernel, by decide +kernel⟩, List.mem_of_getElem? (i := 298) (by decide +kernel), List.mem_of_getElem? (i := 950) (by decide +kernel), List.mem_of_getElem? (i := 951) (by decide +kernel)⟩
theorem lw_p38 : lw_okq (⟨"RouteWall$Results", "manyStartAhead", "(II)I"⟩, 15) := ⟨⟨by decide +kernel, by decide +kernel⟩, List.mem_of_getElem? (i := 298) (by decide +kernel), List.mem_of_getElem? (i := 979) (by decide +kernel), List.mem_of_getElem? (i := 980) (by decide +kernel)⟩
theorem lw_p39 : lw_okq (⟨"RouteWall$Results", "together", "(II)J"⟩, 15) := ⟨⟨by decide +kernel, by decide +kernel⟩, List.mem_of_getElem? (i := 298) (by decide +kernel), List.mem_of_getElem? (i := 995) (by decide +kernel), List.mem_of_getElem? (i := 996) (by decide +kernel)⟩
theorem lw_p40 : lw_okq (⟨"RouteWallModel", "lay", "(I)V"⟩, 70) := ⟨⟨by decide +kernel, by decide +kernel⟩, List.mem_of_getElem? (i := 1014) (by decide +kernel), List.mem_of_getElem? (i := 1240) (by decide +kernel), List.mem_of_getElem? (i := 1241) (by decide +kernel)⟩
theorem lw_p41 : lw_okq (⟨"RouteWallModel", "refuse", "(I)I"⟩, 70) := ⟨⟨by decide +kernel, by decide +kernel⟩, List.mem_of_getElem? (i := 1014) (by decide +kernel), List.mem_of_getElem? (i := 1248) (by decide +kernel), List.mem_of_getElem? (i := 1249) (by decide +kernel)⟩
theorem lw_p42 : lw_okq (⟨"RouteWallModel", "readText", "()V"⟩, 70) := ⟨⟨by decide +kernel, by decide +kernel⟩, List.mem_of_getElem? (i := 1014) (by decide +kernel), List.mem_of_getElem? (i := 1252) (by decide +kernel), List.mem_of_getElem? (i := 1253) (by decide +kernel)⟩
theorem lw_p43 : lw_okq (⟨"RouteWallModel", "next", "()V"⟩, 70) := ⟨⟨by decide +kernel, by decide +kernel⟩, List.mem_of_getElem? (i := 1014) (by decide +kernel), List.mem_of_getElem? (i := 1256) (by decide +kernel), List.mem_of_getElem? (i := 1257) (by decide +kernel)⟩
theorem lw_p44 : lw_okq (⟨"RouteWallModel", "look", "(I)I"⟩, 70) := ⟨⟨by decide +kernel, by decide +kernel⟩, List.mem_of_getElem? (i := 1014) (by decide +kernel), List.mem_of_getElem? (i := 1260) (by decide +kernel), List.mem_of_getElem? (i := 1261) (by decide +kernel)⟩
theorem lw_p45 : lw_okq (⟨"RouteWallModel", "lawOf", "()I"⟩, 70) := ⟨⟨by decide +kernel, by decide +kernel⟩, List.mem_of_getElem? (i := 1014) (by decide +kernel), List.mem_of_getElem? (i := 1273) (by decide +kernel), List.mem_of_getElem? (i := 1274) (by decide +kernel)⟩
theorem lw_p46 : lw_okq (⟨"RouteWallModel", "isWord", "(J)Z"⟩, 70) := ⟨⟨by decide +kernel, by decide +kernel⟩, List.mem_of_getElem? (i := 1014) (by decide +kernel), List.mem_of_getElem? (i := 1280) (by decide +kernel), List.mem_of_getElem? (i := 1281) (by decide +kernel)⟩
theorem lw_p47 : lw_okq (⟨"RouteWallModel", "wrong", "()V"⟩, 70) := ⟨⟨by decide +kernel, by decide +kernel⟩, List.mem_of_getElem? (i := 1014) (by decide +kernel), List.mem_of_getElem? (i := 1284) (by decide +kernel), List.mem_of_getElem? (i := 1285) (by decide +kernel)⟩
def lw_privs_3 : List (MethodName × Nat) := [(⟨"RouteWall$Watch", "latest", "(I)I"⟩, 3), (⟨"RouteWall", "restOver", "(I)I"⟩, 14), (⟨"RouteWall$Results", "hearAppeals", "(I)V"⟩, 15), (⟨"RouteWall$Results", "lowestAsked", "(I)I"⟩, 15), (⟨"RouteWall$Results", "manyAhead", "(II)I"⟩, 15), (⟨"RouteWall$Results", "isAhead", "(III)Z"⟩, 15), (⟨"RouteWall$Results", "manyStartAhead", "(II)I"⟩, 15), (⟨"RouteWall$Results", "together", "(II)J"⟩, 15), (⟨"RouteWallModel", "lay", "(I)V"⟩, 70), (⟨"RouteWallModel", "refuse", "(I)I"⟩, 70), (⟨"RouteWallModel", "readText", "()V"⟩, 70), (⟨"RouteWallModel", "next", "()V"⟩, 70), (⟨"RouteWallModel", "look", "(I)I"⟩, 70), (⟨"RouteWallModel", "lawOf", "()I"⟩, 70), (⟨"RouteWallModel", "isWord", "(J)Z"⟩, 70), (⟨"RouteWallModel", "wrong", "()V"⟩, 70)]
theorem lw_r3 : ∀ q ∈ lw_privs_3, lw_okq q := List.forall_mem_cons.mpr ⟨lw_p32, List.forall_mem_cons.mpr ⟨lw_p33, List.forall_mem_cons.mpr ⟨lw_p34, List.forall_mem_cons.mpr ⟨lw_p35, List.forall_mem_cons.mpr ⟨lw_p36, List.forall_mem_cons.mpr ⟨lw_p37, List.forall_mem_cons.mpr ⟨lw_p38, List.forall_mem_cons.mpr ⟨lw_p39, List.forall_mem_cons.mpr ⟨lw_p40, List.forall_mem_cons.mpr ⟨lw_p41, List.forall_mem_cons.mpr ⟨lw_p42, List.forall_mem_cons.mpr ⟨lw_p43, List.forall_mem_cons.mpr ⟨lw_p44, List.forall_mem_cons.mpr ⟨lw_p45, List.forall_mem_cons.mpr ⟨lw_p46, List.forall_mem_cons.mpr ⟨lw_p47, fun _ h => absurd h List.not_mem_nil⟩⟩⟩⟩⟩⟩⟩⟩⟩⟩⟩⟩⟩⟩⟩⟩
theorem lw_p48 : lw_okq (⟨"RouteWallModel", "fail", "(II)V"⟩, 70) := ⟨⟨by decide +kernel, by decide +kernel⟩, List.mem_of_getElem? (i := 1014) (by decide +kernel), List.mem_of_getElem? (i := 1288) (by decide +kernel), List.mem_of_getElem? (i := 1289) (by decide +kernel)⟩
theorem lw_p49 : lw_okq (⟨"RouteWallModel", "readLaw", "(I)V"⟩, 70) := ⟨⟨by decide +kernel, by decide +kernel⟩, List.mem_of_getElem? (i := 1014) (by decide +kernel), List.mem_of_getElem? (i := 1292) (by decide +kernel), List.mem_of_getElem? (i := 1293) (by decide +kernel)⟩
theorem lw_p50 : lw_okq (⟨"RouteWallModel", "numberOf", "(II)I"⟩, 70) := ⟨⟨by decide +kernel, by decide +kernel⟩, List.mem_of_getElem? (i := 1014) (by decide +kernel), List.mem_of_getElem? (i := 1296) (by decide +kernel), List.mem_of_getElem? (i := 1297) (by decide +kernel)⟩
theorem lw_p51 : lw_okq (⟨"RouteWallModel", "readExpression", "()V"⟩, 70) := ⟨⟨by decide +kernel, by decide +kernel⟩, List.mem_of_getElem? (i := 1014) (by decide +kernel), List.mem_of_getElem? (i := 1300) (by decide +kernel), List.mem_of_getElem? (i := 1301) (by decide +kernel)⟩
theorem lw_p52 : lw_okq (⟨"RouteWallModel", "readFactor", "()Z"⟩, 70) := ⟨⟨by decide +kernel, by decide +kernel⟩, List.mem_of_getElem? (i := 1014) (by decide +kernel), List.mem_of_getElem? (i := 1304) (by decide +kernel), List.mem_of_getElem? (i := 1305) (by decide +kernel)⟩
theorem lw_p53 : lw_okq (⟨"RouteWallModel", "nameOf", "()I"⟩, 70) := ⟨⟨by decide +kernel, by decide +kernel⟩, List.mem_of_getElem? (i := 1014) (by decide +kernel), List.mem_of_getElem? (i := 1308) (by decide +kernel), List.mem_of_getElem? (i := 1309) (by decide +kernel)⟩
theorem lw_p54 : lw_okq (⟨"RouteWallModel", "counts", "()V"⟩, 70) := ⟨⟨by decide +kernel, by decide +kernel⟩, List.mem_of_getElem? (i := 1014) (by decide +kernel), List.mem_of_getElem? (i := 1312) (by decide +kernel), List.mem_of_getElem? (i := 1313) (by decide +kernel)⟩
theorem lw_p55 : lw_okq (⟨"RouteWallModel", "puts", "(II)V"⟩, 70) := ⟨⟨by decide +kernel, by decide +kernel⟩, List.mem_of_getElem? (i := 1014) (by decide +kernel), List.mem_of_getElem? (i := 1316) (by decide +kernel), List.mem_of_getElem? (i := 1317) (by decide +kernel)⟩
theorem lw_p56 : lw_okq (⟨"RouteWallModel", "isSign", "(I)Z"⟩, 70) := ⟨⟨by decide +kernel, by decide +kernel⟩, List.mem_of_getElem? (i := 1014) (by decide +kernel), List.mem_of_getElem? (i := 1320) (by decide +kernel), List.mem_of_getElem? (i := 1321) (by decide +kernel)⟩
theorem lw_p57 : lw_okq (⟨"RouteWallModel", "deeper", "()V"⟩, 70) := ⟨⟨by decide +kernel, by decide +kernel⟩, List.mem_of_getElem? (i := 1014) (by decide +kernel), List.mem_of_getElem? (i := 1324) (by decide +kernel), List.mem_of_getElem? (i := 1325) (by decide +kernel)⟩
theorem lw_p58 : lw_okq (⟨"RouteWallModel", "waitFor", "(I)V"⟩, 70) := ⟨⟨by decide +kernel, by decide +kernel⟩, List.mem_of_getElem? (i := 1014) (by decide +kernel), List.mem_of_getElem? (i := 1328) (by decide +kernel), List.mem_of_getElem? (i := 1329) (by decide +kernel)⟩
theorem lw_p59 : lw_okq (⟨"RouteWallModel", "wholes", "()V"⟩, 70) := ⟨⟨by decide +kernel, by decide +kernel⟩, List.mem_of_getElem? (i := 1014) (by decide +kernel), List.mem_of_getElem? (i := 1332) (by decide +kernel), List.mem_of_getElem? (i := 1333) (by decide +kernel)⟩
theorem lw_p60 : lw_okq (⟨"RouteWallModel", "reduce", "(I)V"⟩, 70) := ⟨⟨by decide +kernel, by decide +kernel⟩, List.mem_of_getElem? (i := 1014) (by decide +kernel), List.mem_of_getElem? (i := 1339) (by decide +kernel), List.mem_of_getElem? (i := 1340) (by decide +kernel)⟩
theorem lw_p61 : lw_okq (⟨"RouteWallModel", "isOpen", "()Z"⟩, 70) := ⟨⟨by decide +kernel, by decide +kernel⟩, List.mem_of_getElem? (i := 1014) (by decide +kernel), List.mem_of_getElem? (i := 1343) (by decide +kernel), List.mem_of_getElem? (i := 1344) (by decide +kernel)⟩
theorem lw_p62 : lw_okq (⟨"RouteWallModel", "readKeys", "()V"⟩, 70) := ⟨⟨by decide +kernel, by decide +kernel⟩, List.mem_of_getElem? (i := 1014) (by decide +kernel), List.mem_of_getElem? (i := 1347) (by decide +kernel), List.mem_of_getElem? (i := 1348) (by decide +kernel)⟩
theorem lw_p63 : lw_okq (⟨"RouteWallModel", "ends", "()V"⟩, 70) := ⟨⟨by decide +kernel, by decide +kernel⟩, List.mem_of_getElem? (i := 1014) (by decide +kernel), List.mem_of_getElem? (i := 1351) (by decide +kernel), List.mem_of_getElem? (i := 1352) (by decide +kernel)⟩
def lw_privs_4 : List (MethodName × Nat) := [(⟨"RouteWallModel", "fail", "(II)V"⟩, 70), (⟨"RouteWallModel", "readLaw", "(I)V"⟩, 70), (⟨"RouteWallModel", "numberOf", "(II)I"⟩, 70), (⟨"RouteWallModel", "readExpression", "()V"⟩, 70), (⟨"RouteWallModel", "readFactor", "()Z"⟩, 70), (⟨"RouteWallModel", "nameOf", "()I"⟩, 70), (⟨"RouteWallModel", "counts", "()V"⟩, 70), (⟨"RouteWallModel", "puts", "(II)V"⟩, 70), (⟨"RouteWallModel", "isSign", "(I)Z"⟩, 70), (⟨"RouteWallModel", "deeper", "()V"⟩, 70), (⟨"RouteWallModel", "waitFor", "(I)V"⟩, 70), (⟨"RouteWallModel", "wholes", "()V"⟩, 70), (⟨"RouteWallModel", "reduce", "(I)V"⟩, 70), (⟨"RouteWallModel", "isOpen", "()Z"⟩, 70), (⟨"RouteWallModel", "readKeys", "()V"⟩, 70), (⟨"RouteWallModel", "ends", "()V"⟩, 70)]
theorem lw_r4 : ∀ q ∈ lw_privs_4, lw_okq q := List.forall_mem_cons.mpr ⟨lw_p48, List.forall_mem_cons.mpr ⟨lw_p49, List.forall_mem_cons.mpr ⟨lw_p50, List.forall_mem_cons.mpr ⟨lw_p51, List.forall_mem_cons.mpr ⟨lw_p52, List.forall_mem_cons.mpr ⟨lw_p53, List.forall_mem_cons.mpr ⟨lw_p54, List.forall_mem_cons.mpr ⟨lw_p55, List.forall_mem_cons.mpr ⟨lw_p56, List.forall_mem_cons.mpr ⟨lw_p57, List.forall_mem_cons.mpr ⟨lw_p58, List.forall_mem_cons.mpr ⟨lw_p59, List.forall_mem_cons.mpr ⟨lw_p60, List.forall_mem_cons.mpr ⟨lw_p61, List.forall_mem_cons.mpr ⟨lw_p62, List.forall_mem_cons.mpr ⟨lw_p63, fun _ h => absurd h List.not_mem_nil⟩⟩⟩⟩⟩⟩⟩⟩⟩⟩⟩⟩⟩⟩⟩⟩
theorem lw_p64 : lw_okq (⟨"RouteWallModel", "isRoute", "(II)Z"⟩, 70) := ⟨⟨by decide +kernel, by decide +kernel⟩, List.mem_of_getElem? (i := 1014) (by decide +kernel), List.mem_of_getElem? (i := 1367) (by decide +kernel), List.mem_of_getElem? (i := 1368) (by decide +kernel)⟩
theorem lw_p65 : lw_okq (⟨"RouteWallModel", "isRound", "(I)Z"⟩, 70) := ⟨⟨by decide +kernel, by decide +kernel⟩, List.mem_of_getElem? (i := 1014) (by decide +kernel), List.mem_of_getElem? (i := 1371) (by decide +kernel), List.mem_of_getElem? (i := 1372) (by decide +kernel)⟩
theorem lw_p66 : lw_okq (⟨"RouteWallModel", "no", "(I)Z"⟩, 70) := ⟨⟨by decide +kernel, by decide +kernel⟩, List.mem_of_getElem? (i := 1014) (by decide +kernel), List.mem_of_getElem? (i := 1375) (by decide +kernel), List.mem_of_getElem? (i := 1376) (by decide +kernel)⟩
theorem lw_p67 : lw_okq (⟨"RouteWallModel", "isClimber", "(I)Z"⟩, 70) := ⟨⟨by decide +kernel, by decide +kernel⟩, List.mem_of_getElem? (i := 1014) (by decide +kernel), List.mem_of_getElem? (i := 1390) (by decide +kernel), List.mem_of_getElem? (i := 1391) (by decide +kernel)⟩
theorem lw_p68 : lw_okq (⟨"RouteWallModel", "clocked", "(I)I"⟩, 70) := ⟨⟨by decide +kernel, by decide +kernel⟩, List.mem_of_getElem? (i := 1014) (by decide +kernel), List.mem_of_getElem? (i := 1394) (by decide +kernel), List.mem_of_getElem? (i := 1395) (by decide +kernel)⟩
theorem lw_p69 : lw_okq (⟨"RouteWallModel", "goesTo", "(I)V"⟩, 70) := ⟨⟨by decide +kernel, by decide +kernel⟩, List.mem_of_getElem? (i := 1014) (by decide +kernel), List.mem_of_getElem? (i := 1399) (by decide +kernel), List.mem_of_getElem? (i := 1400) (by decide +kernel)⟩
theorem lw_p70 : lw_okq (⟨"RouteWallModel", "openTry", "(I)I"⟩, 70) := ⟨⟨by decide +kernel, by decide +kernel⟩, List.mem_of_getElem? (i := 1014) (by decide +kernel), List.mem_of_getElem? (i := 1403) (by decide +kernel), List.mem_of_getElem? (i := 1404) (by decide +kernel)⟩
theorem lw_p71 : lw_okq (⟨"RouteWallModel", "hasSeen", "(II)Z"⟩, 70) := ⟨⟨by decide +kernel, by decide +kernel⟩, List.mem_of_getElem? (i := 1014) (by decide +kernel), List.mem_of_getElem? (i := 1407) (by decide +kernel), List.mem_of_getElem? (i := 1408) (by decide +kernel)⟩
theorem lw_p72 : lw_okq (⟨"RouteWallModel", "readyAt", "(I)I"⟩, 70) := ⟨⟨by decide +kernel, by decide +kernel⟩, List.mem_of_getElem? (i := 1014) (by decide +kernel), List.mem_of_getElem? (i := 1415) (by decide +kernel), List.mem_of_getElem? (i := 1416) (by decide +kernel)⟩
theorem lw_p73 : lw_okq (⟨"RouteWallModel", "pointsOf", "(IIII)I"⟩, 70) := ⟨⟨by decide +kernel, by decide +kernel⟩, List.mem_of_getElem? (i := 1014) (by decide +kernel), List.mem_of_getElem? (i := 1462) (by decide +kernel), List.mem_of_getElem? (i := 1463) (by decide +kernel)⟩
theorem lw_p74 : lw_okq (⟨"RouteWallModel", "factsOf", "(IIII)V"⟩, 70) := ⟨⟨by decide +kernel, by decide +kernel⟩, List.mem_of_getElem? (i := 1014) (by decide +kernel), List.mem_of_getElem? (i := 1466) (by decide +kernel), List.mem_of_getElem? (i := 1467) (by decide +kernel)⟩
theorem lw_p75 : lw_okq (⟨"RouteWallModel", "holdOf", "(II)I"⟩, 70) := ⟨⟨by decide +kernel, by decide +kernel⟩, List.mem_of_getElem? (i := 1014) (by decide +kernel), List.mem_of_getElem? (i := 1470) (by decide +kernel), List.mem_of_getElem? (i := 1471) (by decide +kernel)⟩
theorem lw_p76 : lw_okq (⟨"RouteWallModel", "isIn", "(II)Z"⟩, 70) := ⟨⟨by decide +kernel, by decide +kernel⟩, List.mem_of_getElem? (i := 1014) (by decide +kernel), List.mem_of_getElem? (i := 1485) (by decide +kernel), List.mem_of_getElem? (i := 1486) (by decide +kernel)⟩
theorem lw_p77 : lw_okq (⟨"RouteWallModel", "keyOf", "(IIII)J"⟩, 70) := ⟨⟨by decide +kernel, by decide +kernel⟩, List.mem_of_getElem? (i := 1014) (by decide +kernel), List.mem_of_getElem? (i := 1489) (by decide +kernel), List.mem_of_getElem? (i := 1490) (by decide +kernel)⟩
theorem lw_p78 : lw_okq (⟨"RouteWallModel", "rankOf", "(III)I"⟩, 70) := ⟨⟨by decide +kernel, by decide +kernel⟩, List.mem_of_getElem? (i := 1014) (by decide +kernel), List.mem_of_getElem? (i := 1497) (by decide +kernel), List.mem_of_getElem? (i := 1498) (by decide +kernel)⟩
theorem lw_p79 : lw_okq (⟨"RouteWallModel", "isAhead", "(IIII)Z"⟩, 70) := ⟨⟨by decide +kernel, by decide +kernel⟩, List.mem_of_getElem? (i := 1014) (by decide +kernel), List.mem_of_getElem? (i := 1501) (by decide +kernel), List.mem_of_getElem? (i := 1502) (by decide +kernel)⟩
def lw_privs_5 : List (MethodName × Nat) := [(⟨"RouteWallModel", "isRoute", "(II)Z"⟩, 70), (⟨"RouteWallModel", "isRound", "(I)Z"⟩, 70), (⟨"RouteWallModel", "no", "(I)Z"⟩, 70), (⟨"RouteWallModel", "isClimber", "(I)Z"⟩, 70), (⟨"RouteWallModel", "clocked", "(I)I"⟩, 70), (⟨"RouteWallModel", "goesTo", "(I)V"⟩, 70), (⟨"RouteWallModel", "openTry", "(I)I"⟩, 70), (⟨"RouteWallModel", "hasSeen", "(II)Z"⟩, 70), (⟨"RouteWallModel", "readyAt", "(I)I"⟩, 70), (⟨"RouteWallModel", "pointsOf", "(IIII)I"⟩, 70), (⟨"RouteWallModel", "factsOf", "(IIII)V"⟩, 70), (⟨"RouteWallModel", "holdOf", "(II)I"⟩, 70), (⟨"RouteWallModel", "isIn", "(II)Z"⟩, 70), (⟨"RouteWallModel", "keyOf", "(IIII)J"⟩, 70), (⟨"RouteWallModel", "rankOf", "(III)I"⟩, 70), (⟨"RouteWallModel", "isAhead", "(IIII)Z"⟩, 70)]
theorem lw_r5 : ∀ q ∈ lw_privs_5, lw_okq q := List.forall_mem_cons.mpr ⟨lw_p64, List.forall_mem_cons.mpr ⟨lw_p65, List.forall_mem_cons.mpr ⟨lw_p66, List.forall_mem_cons.mpr ⟨lw_p67, List.forall_mem_cons.mpr ⟨lw_p68, List.forall_mem_cons.mpr ⟨lw_p69, List.forall_mem_cons.mpr ⟨lw_p70, List.forall_mem_cons.mpr ⟨lw_p71, List.forall_mem_cons.mpr ⟨lw_p72, List.forall_mem_cons.mpr ⟨lw_p73, List.forall_mem_cons.mpr ⟨lw_p74, List.forall_mem_cons.mpr ⟨lw_p75, List.forall_mem_cons.mpr ⟨lw_p76, List.forall_mem_cons.mpr ⟨lw_p77, List.forall_mem_cons.mpr ⟨lw_p78, List.forall_mem_cons.mpr ⟨lw_p79, fun _ h => absurd h List.not_mem_nil⟩⟩⟩⟩⟩⟩⟩⟩⟩⟩⟩⟩⟩⟩⟩⟩
theorem lw_p80 : lw_okq (⟨"RouteWallModel", "partsOf", "(III)I"⟩, 70) := ⟨⟨by decide +kernel, by decide +kernel⟩, List.mem_of_getElem? (i := 1014) (by decide +kernel), List.mem_of_getElem? (i := 1517) (by decide +kernel), List.mem_of_getElem? (i := 1518) (by decide +kernel)⟩
def lw_privs_6 : List (MethodName × Nat) := [(⟨"RouteWallModel", "partsOf", "(III)I"⟩, 70)]
theorem lw_r6 : ∀ q ∈ lw_privs_6, lw_okq q := List.forall_mem_cons.mpr ⟨lw_p80, fun _ h => absurd h List.not_mem_nil⟩
def lw_privs : List (MethodName × Nat) := lw_privs_1 ++ (lw_privs_2 ++ (lw_privs_3 ++ (lw_privs_4 ++ (lw_privs_5 ++ (lw_privs_6)))))
def lw_tbl : List Cond := k2_sels lw_privs ++ tables_1
theorem lw_privs_ok : ∀ q ∈ lw_privs, lw_okq q := by
  show ∀ q ∈ lw_privs_1 ++ (lw_privs_2 ++ (lw_privs_3 ++ (lw_privs_4 ++ (lw_privs_5 ++ (lw_privs_6))))), lw_okq q
  exact List.forall_mem_append.mpr ⟨lw_r1, List.forall_mem_append.mpr ⟨lw_r2, List.forall_mem_append.mpr ⟨lw_r3, List.forall_mem_append.mpr ⟨lw_r4, List.forall_mem_append.mpr ⟨lw_r5, lw_r6⟩⟩⟩⟩⟩
end
section
def RX0 : String := "RouteWall$Appeals"
def TX0 : u_T := fun k => match k with
  | 0 => ("RouteWall$Appeals", "many", "I", false)
  | 1 => ("RouteWall$Appeals", "number", "[I", true)
  | 2 => ("RouteWall$Appeals", "hold", "[I", true)
  | _ => ("RouteWall$Appeals", "day", "[I", true)
def tyX0 : Nat → FieldType := fun k => match k with
  | 0 => .int
  | 1 => .array .int
  | 2 => .array .int
  | _ => .array .int
abbrev wsX00 : List Cond := u_ws RX0 TX0 4
theorem nmX0 : ∀ a, a < 4 → ∀ b, b < 4 → a ≠ b → (TX0 a).2.1 ≠ (TX0 b).2.1 := by decide +kernel
theorem tyX0_ok : ∀ k, k < 4 → parseFieldDescriptor (TX0 k).2.2.1 = some (tyX0 k) := by decide +kernel
abbrev cX0_init : ByteArray := prog_2_method_1_code
def yX0_init : MethodName := ⟨RX0, "<init>", "()V"⟩
abbrev cX0_clear : ByteArray := prog_2_method_2_code
def yX0_clear : MethodName := ⟨RX0, "clear", "()V"⟩
abbrev cX0_put : ByteArray := prog_2_method_3_code
def yX0_put : MethodName := ⟨RX0, "put", "(III)V"⟩
def RX1 : String := "RouteWall$Expression"
def TX1 : u_T := fun k => match k with
  | 0 => ("RouteWall$Expression", "waiting", "[I", true)
  | 1 => ("RouteWall$Expression", "waits", "I", false)
  | 2 => ("RouteWall$Expression", "nested", "I", false)
  | 3 => ("RouteWall$Expression", "parens", "I", false)
  | 4 => ("RouteWall$Expression", "items", "I", false)
  | _ => ("RouteWall$Expression", "fault", "I", false)
def tyX1 : Nat → FieldType := fun k => match k with
  | 0 => .array .int
  | 1 => .int
  | 2 => .int
  | 3 => .int
  | 4 => .int
  | _ => .int
abbrev wsX10 : List Cond := u_ws RX1 TX1 6
theorem nmX1 : ∀ a, a < 6 → ∀ b, b < 6 → a ≠ b → (TX1 a).2.1 ≠ (TX1 b).2.1 := by decide +kernel
theorem tyX1_ok : ∀ k, k < 6 → parseFieldDescriptor (TX1 k).2.2.1 = some (tyX1 k) := by decide +kernel
abbrev cX1_init : ByteArray := prog_3_method_1_code
def yX1_init : MethodName := ⟨RX1, "<init>", "()V"⟩
abbrev cX1_read : ByteArray := prog_3_method_2_code
def yX1_read : MethodName := ⟨RX1, "read", "(LRouteWall$Tokens;LRouteWall$Laws;)I"⟩
abbrev cX1_readFactor : ByteArray := prog_3_method_3_code
def yX1_readFactor : MethodName := ⟨RX1, "readFactor", "(LRouteWall$Tokens;LRouteWall$Laws;)Z"⟩
abbrev cX1_readBehindFactor : ByteArray := prog_3_method_4_code
def yX1_readBehindFactor : MethodName := ⟨RX1, "readBehindFactor", "(ILRouteWall$Laws;)Z"⟩
abbrev cX1_refuseToken : ByteArray := prog_3_method_5_code
def yX1_refuseToken : MethodName := ⟨RX1, "refuseToken", "(I)V"⟩
abbrev cX1_countItem : ByteArray := prog_3_method_6_code
def yX1_countItem : MethodName := ⟨RX1, "countItem", "()V"⟩
abbrev cX1_nest : ByteArray := prog_3_method_7_code
def yX1_nest : MethodName := ⟨RX1, "nest", "(I)V"⟩
abbrev cX1_await : ByteArray := prog_3_method_8_code
def yX1_await : MethodName := ⟨RX1, "await", "(I)V"⟩
abbrev cX1_putSign : ByteArray := prog_3_method_9_code
def yX1_putSign : MethodName := ⟨RX1, "putSign", "(ILRouteWall$Laws;)V"⟩
abbrev cX1_closeParen : ByteArray := prog_3_method_10_code
def yX1_closeParen : MethodName := ⟨RX1, "closeParen", "(LRouteWall$Laws;)V"⟩
abbrev cX1_releaseNegations : ByteArray := prog_3_method_11_code
def yX1_releaseNegations : MethodName := ⟨RX1, "releaseNegations", "(LRouteWall$Laws;)V"⟩
abbrev cX1_release : ByteArray := prog_3_method_12_code
def yX1_release : MethodName := ⟨RX1, "release", "(ILRouteWall$Laws;)V"⟩
def RX2 : String := "RouteWall$Field"
def TX2 : u_T := fun k => match k with
  | 0 => ("RouteWall$Field", "climbers", "I", false)
  | 1 => ("RouteWall$Field", "open", "I", false)
  | 2 => ("RouteWall$Field", "latest", "[I", true)
  | _ => ("RouteWall$Field", "cutDay", "[I", true)
def tyX2 : Nat → FieldType := fun k => match k with
  | 0 => .int
  | 1 => .int
  | 2 => .array .int
  | _ => .array .int
abbrev wsX20 : List Cond := u_ws RX2 TX2 4
theorem nmX2 : ∀ a, a < 4 → ∀ b, b < 4 → a ≠ b → (TX2 a).2.1 ≠ (TX2 b).2.1 := by decide +kernel
theorem tyX2_ok : ∀ k, k < 4 → parseFieldDescriptor (TX2 k).2.2.1 = some (tyX2 k) := by decide +kernel
abbrev cX2_init : ByteArray := prog_4_method_1_code
def yX2_init : MethodName := ⟨RX2, "<init>", "()V"⟩
abbrev cX2_clear : ByteArray := prog_4_method_2_code
def yX2_clear : MethodName := ⟨RX2, "clear", "()V"⟩
abbrev cX2_enter : ByteArray := prog_4_method_3_code
def yX2_enter : MethodName := ⟨RX2, "enter", "()I"⟩
abbrev cX2_knows : ByteArray := prog_4_method_4_code
def yX2_knows : MethodName := ⟨RX2, "knows", "(I)Z"⟩
abbrev cX2_isIn : ByteArray := prog_4_method_5_code
def yX2_isIn : MethodName := ⟨RX2, "isIn", "(II)Z"⟩
abbrev cX2_manyIn : ByteArray := prog_4_method_6_code
def yX2_manyIn : MethodName := ⟨RX2, "manyIn", "(I)I"⟩
abbrev cX2_letCome : ByteArray := prog_4_method_7_code
def yX2_letCome : MethodName := ⟨RX2, "letCome", "([III)I"⟩
abbrev cX2_dayOf : ByteArray := prog_4_method_8_code
def yX2_dayOf : MethodName := ⟨RX2, "dayOf", "(I)I"⟩
def RX3 : String := "RouteWall$LawReader"
def TX3 : u_T := fun k => match k with
  | 0 => ("RouteWall$LawReader", "tokens", "LRouteWall$Tokens;", true)
  | 1 => ("RouteWall$LawReader", "draft", "LRouteWall$Laws;", true)
  | 2 => ("RouteWall$LawReader", "expression", "LRouteWall$Expression;", true)
  | 3 => ("RouteWall$LawReader", "fault", "I", false)
  | 4 => ("RouteWall$LawReader", "faultPlace", "I", false)
  | 5 => ("RouteWall$LawReader", "pointsTold", "Z", false)
  | 6 => ("RouteWall$LawReader", "keysTold", "Z", false)
  | _ => ("RouteWall$LawReader", "tiesTold", "Z", false)
def tyX3 : Nat → FieldType := fun k => match k with
  | 0 => .object "RouteWall$Tokens"
  | 1 => .object "RouteWall$Laws"
  | 2 => .object "RouteWall$Expression"
  | 3 => .int
  | 4 => .int
  | 5 => .boolean
  | 6 => .boolean
  | _ => .boolean
abbrev wsX30 : List Cond := u_ws RX3 TX3 8
theorem nmX3 : ∀ a, a < 8 → ∀ b, b < 8 → a ≠ b → (TX3 a).2.1 ≠ (TX3 b).2.1 := by decide +kernel
theorem tyX3_ok : ∀ k, k < 8 → parseFieldDescriptor (TX3 k).2.2.1 = some (tyX3 k) := by decide +kernel
abbrev cX3_init : ByteArray := prog_5_method_1_code
def yX3_init : MethodName := ⟨RX3, "<init>", "()V"⟩
abbrev cX3_read : ByteArray := prog_5_method_2_code
def yX3_read : MethodName := ⟨RX3, "read", "([II)V"⟩
abbrev cX3_readLaw : ByteArray := prog_5_method_3_code
def yX3_readLaw : MethodName := ⟨RX3, "readLaw", "()V"⟩
abbrev cX3_note : ByteArray := prog_5_method_4_code
def yX3_note : MethodName := ⟨RX3, "note", "(I)V"⟩
abbrev cX3_refuseIf : ByteArray := prog_5_method_5_code
def yX3_refuseIf : MethodName := ⟨RX3, "refuseIf", "(ZI)V"⟩
abbrev cX3_refuseToken : ByteArray := prog_5_method_6_code
def yX3_refuseToken : MethodName := ⟨RX3, "refuseToken", "()V"⟩
abbrev cX3_goOn : ByteArray := prog_5_method_7_code
def yX3_goOn : MethodName := ⟨RX3, "goOn", "()Z"⟩
abbrev cX3_pass : ByteArray := prog_5_method_8_code
def yX3_pass : MethodName := ⟨RX3, "pass", "(I)V"⟩
abbrev cX3_readRound : ByteArray := prog_5_method_9_code
def yX3_readRound : MethodName := ⟨RX3, "readRound", "()V"⟩
abbrev cX3_readKeys : ByteArray := prog_5_method_10_code
def yX3_readKeys : MethodName := ⟨RX3, "readKeys", "()V"⟩
abbrev cX3_readKey : ByteArray := prog_5_method_11_code
def yX3_readKey : MethodName := ⟨RX3, "readKey", "()V"⟩
abbrev cX3_readTies : ByteArray := prog_5_method_12_code
def yX3_readTies : MethodName := ⟨RX3, "readTies", "()V"⟩
def RX4 : String := "RouteWall$Laws"
def TX4 : u_T := fun k => match k with
  | 0 => ("RouteWall$Laws", "rounds", "I", false)
  | 1 => ("RouteWall$Laws", "shape", "[I", true)
  | 2 => ("RouteWall$Laws", "item", "[I", true)
  | 3 => ("RouteWall$Laws", "number", "[I", true)
  | 4 => ("RouteWall$Laws", "items", "I", false)
  | 5 => ("RouteWall$Laws", "keyKind", "[I", true)
  | 6 => ("RouteWall$Laws", "keyDown", "[I", true)
  | 7 => ("RouteWall$Laws", "keys", "I", false)
  | 8 => ("RouteWall$Laws", "back", "Z", false)
  | _ => ("RouteWall$Laws", "stack", "[J", true)
def tyX4 : Nat → FieldType := fun k => match k with
  | 0 => .int
  | 1 => .array .int
  | 2 => .array .int
  | 3 => .array .int
  | 4 => .int
  | 5 => .array .int
  | 6 => .array .int
  | 7 => .int
  | 8 => .boolean
  | _ => .array .long
abbrev wsX40 : List Cond := u_ws RX4 TX4 10
theorem nmX4 : ∀ a, a < 10 → ∀ b, b < 10 → a ≠ b → (TX4 a).2.1 ≠ (TX4 b).2.1 := by decide +kernel
theorem tyX4_ok : ∀ k, k < 10 → parseFieldDescriptor (TX4 k).2.2.1 = some (tyX4 k) := by decide +kernel
abbrev cX4_init : ByteArray := prog_6_method_1_code
def yX4_init : MethodName := ⟨RX4, "<init>", "()V"⟩
abbrev cX4_setUntold : ByteArray := prog_6_method_2_code
def yX4_setUntold : MethodName := ⟨RX4, "setUntold", "()V"⟩
abbrev cX4_take : ByteArray := prog_6_method_3_code
def yX4_take : MethodName := ⟨RX4, "take", "(LRouteWall$Laws;)V"⟩
abbrev cX4_addItem : ByteArray := prog_6_method_4_code
def yX4_addItem : MethodName := ⟨RX4, "addItem", "(II)V"⟩
abbrev cX4_addKey : ByteArray := prog_6_method_5_code
def yX4_addKey : MethodName := ⟨RX4, "addKey", "(IZ)V"⟩
abbrev cX4_hasRound : ByteArray := prog_6_method_6_code
def yX4_hasRound : MethodName := ⟨RX4, "hasRound", "(I)Z"⟩
abbrev cX4_hasRoute : ByteArray := prog_6_method_7_code
def yX4_hasRoute : MethodName := ⟨RX4, "hasRoute", "(II)Z"⟩
abbrev cX4_shapeOf : ByteArray := prog_6_method_8_code
def yX4_shapeOf : MethodName := ⟨RX4, "shapeOf", "(II)I"⟩
abbrev cX4_pointsFor : ByteArray := prog_6_method_9_code
def yX4_pointsFor : MethodName := ⟨RX4, "pointsFor", "([I)I"⟩
abbrev cX4_worked : ByteArray := prog_6_method_10_code
def yX4_worked : MethodName := ⟨RX4, "worked", "(IJJ)J"⟩
abbrev cX4_bounded : ByteArray := prog_6_method_11_code
def yX4_bounded : MethodName := ⟨RX4, "bounded", "(J)J"⟩
def RX5 : String := "RouteWall$Results"
def TX5 : u_T := fun k => match k with
  | 0 => ("RouteWall$Results", "laws", "LRouteWall$Laws;", true)
  | 1 => ("RouteWall$Results", "wall", "LRouteWall$Wall;", true)
  | 2 => ("RouteWall$Results", "field", "LRouteWall$Field;", true)
  | 3 => ("RouteWall$Results", "tries", "LRouteWall$Tries;", true)
  | 4 => ("RouteWall$Results", "appeals", "LRouteWall$Appeals;", true)
  | 5 => ("RouteWall$Results", "known", "[I", true)
  | 6 => ("RouteWall$Results", "knownDay", "[I", true)
  | 7 => ("RouteWall$Results", "counted", "[I", true)
  | 8 => ("RouteWall$Results", "best", "[I", true)
  | 9 => ("RouteWall$Results", "bestNumber", "[I", true)
  | 10 => ("RouteWall$Results", "facts", "[I", true)
  | 11 => ("RouteWall$Results", "points", "[I", true)
  | 12 => ("RouteWall$Results", "totals", "[J", true)
  | 13 => ("RouteWall$Results", "keyRows", "[J", true)
  | _ => ("RouteWall$Results", "ranks", "[I", true)
def tyX5 : Nat → FieldType := fun k => match k with
  | 0 => .object "RouteWall$Laws"
  | 1 => .object "RouteWall$Wall"
  | 2 => .object "RouteWall$Field"
  | 3 => .object "RouteWall$Tries"
  | 4 => .object "RouteWall$Appeals"
  | 5 => .array .int
  | 6 => .array .int
  | 7 => .array .int
  | 8 => .array .int
  | 9 => .array .int
  | 10 => .array .int
  | 11 => .array .int
  | 12 => .array .long
  | 13 => .array .long
  | _ => .array .int
abbrev wsX50 : List Cond := u_ws RX5 TX5 15
theorem nmX5 : ∀ a, a < 15 → ∀ b, b < 15 → a ≠ b → (TX5 a).2.1 ≠ (TX5 b).2.1 := by decide +kernel
theorem tyX5_ok : ∀ k, k < 15 → parseFieldDescriptor (TX5 k).2.2.1 = some (tyX5 k) := by decide +kernel
abbrev cX5_init : ByteArray := prog_7_method_1_code
def yX5_init : MethodName := ⟨RX5, "<init>", "(LRouteWall$Laws;LRouteWall$Wall;LRouteWall$Field;LRouteWall$Tries;LRouteWall$Appeals;)V"⟩
abbrev cX5_cellOf : ByteArray := prog_7_method_2_code
def yX5_cellOf : MethodName := ⟨RX5, "cellOf", "(III)I"⟩
abbrev cX5_keyRow : ByteArray := prog_7_method_3_code
def yX5_keyRow : MethodName := ⟨RX5, "keyRow", "(II)I"⟩
abbrev cX5_survey : ByteArray := prog_7_method_4_code
def yX5_survey : MethodName := ⟨RX5, "survey", "(I)V"⟩
abbrev cX5_hearAppeals : ByteArray := prog_7_method_5_code
def yX5_hearAppeals : MethodName := ⟨RX5, "hearAppeals", "(I)V"⟩
abbrev cX5_workFacts : ByteArray := prog_7_method_6_code
def yX5_workFacts : MethodName := ⟨RX5, "workFacts", "(III)V"⟩
abbrev cX5_workKeys : ByteArray := prog_7_method_7_code
def yX5_workKeys : MethodName := ⟨RX5, "workKeys", "(II)V"⟩
abbrev cX5_keyOf : ByteArray := prog_7_method_8_code
def yX5_keyOf : MethodName := ⟨RX5, "keyOf", "(III)J"⟩
abbrev cX5_workRanks : ByteArray := prog_7_method_9_code
def yX5_workRanks : MethodName := ⟨RX5, "workRanks", "(II)V"⟩
abbrev cX5_manyAhead : ByteArray := prog_7_method_10_code
def yX5_manyAhead : MethodName := ⟨RX5, "manyAhead", "(II)I"⟩
abbrev cX5_lowestAsked : ByteArray := prog_7_method_11_code
def yX5_lowestAsked : MethodName := ⟨RX5, "lowestAsked", "(I)I"⟩
abbrev cX5_isAhead : ByteArray := prog_7_method_12_code
def yX5_isAhead : MethodName := ⟨RX5, "isAhead", "(III)Z"⟩
abbrev cX5_starter : ByteArray := prog_7_method_13_code
def yX5_starter : MethodName := ⟨RX5, "starter", "(II)I"⟩
abbrev cX5_manyStartAhead : ByteArray := prog_7_method_14_code
def yX5_manyStartAhead : MethodName := ⟨RX5, "manyStartAhead", "(II)I"⟩
abbrev cX5_workPoints : ByteArray := prog_7_method_15_code
def yX5_workPoints : MethodName := ⟨RX5, "workPoints", "(II)V"⟩
abbrev cX5_together : ByteArray := prog_7_method_16_code
def yX5_together : MethodName := ⟨RX5, "together", "(II)J"⟩
abbrev cX5_pairsParted : ByteArray := prog_7_method_17_code
def yX5_pairsParted : MethodName := ⟨RX5, "pairsParted", "(II)I"⟩
abbrev cX5_bestSet : ByteArray := prog_7_method_18_code
def yX5_bestSet : MethodName := ⟨RX5, "bestSet", "(III)I"⟩
def RX6 : String := "RouteWall$Tokens"
def TX6 : u_T := fun k => match k with
  | 0 => ("RouteWall$Tokens", "kinds", "[I", true)
  | 1 => ("RouteWall$Tokens", "places", "[I", true)
  | 2 => ("RouteWall$Tokens", "values", "[I", true)
  | 3 => ("RouteWall$Tokens", "many", "I", false)
  | _ => ("RouteWall$Tokens", "at", "I", false)
def tyX6 : Nat → FieldType := fun k => match k with
  | 0 => .array .int
  | 1 => .array .int
  | 2 => .array .int
  | 3 => .int
  | _ => .int
abbrev wsX60 : List Cond := u_ws RX6 TX6 5
theorem nmX6 : ∀ a, a < 5 → ∀ b, b < 5 → a ≠ b → (TX6 a).2.1 ≠ (TX6 b).2.1 := by decide +kernel
theorem tyX6_ok : ∀ k, k < 5 → parseFieldDescriptor (TX6 k).2.2.1 = some (tyX6 k) := by decide +kernel
abbrev cX6_init : ByteArray := prog_8_method_1_code
def yX6_init : MethodName := ⟨RX6, "<init>", "()V"⟩
abbrev cX6_kind : ByteArray := prog_8_method_2_code
def yX6_kind : MethodName := ⟨RX6, "kind", "()I"⟩
abbrev cX6_place : ByteArray := prog_8_method_3_code
def yX6_place : MethodName := ⟨RX6, "place", "()I"⟩
abbrev cX6_value : ByteArray := prog_8_method_4_code
def yX6_value : MethodName := ⟨RX6, "value", "()I"⟩
abbrev cX6_step : ByteArray := prog_8_method_5_code
def yX6_step : MethodName := ⟨RX6, "step", "()V"⟩
abbrev cX6_split : ByteArray := prog_8_method_6_code
def yX6_split : MethodName := ⟨RX6, "split", "([II)V"⟩
abbrev cX6_put : ByteArray := prog_8_method_7_code
def yX6_put : MethodName := ⟨RX6, "put", "(III)V"⟩
abbrev cX6_putWord : ByteArray := prog_8_method_8_code
def yX6_putWord : MethodName := ⟨RX6, "putWord", "([III)I"⟩
abbrev cX6_wordKind : ByteArray := prog_8_method_9_code
def yX6_wordKind : MethodName := ⟨RX6, "wordKind", "([III)I"⟩
abbrev cX6_putNumber : ByteArray := prog_8_method_10_code
def yX6_putNumber : MethodName := ⟨RX6, "putNumber", "([III)I"⟩
abbrev cX6_isLetter : ByteArray := prog_8_method_11_code
def yX6_isLetter : MethodName := ⟨RX6, "isLetter", "(I)Z"⟩
abbrev cX6_isDigit : ByteArray := prog_8_method_12_code
def yX6_isDigit : MethodName := ⟨RX6, "isDigit", "(I)Z"⟩
abbrev cX6_isSign : ByteArray := prog_8_method_13_code
def yX6_isSign : MethodName := ⟨RX6, "isSign", "(I)Z"⟩
def RX7 : String := "RouteWall$Tries"
def TX7 : u_T := fun k => match k with
  | 0 => ("RouteWall$Tries", "many", "I", false)
  | 1 => ("RouteWall$Tries", "climber", "[I", true)
  | 2 => ("RouteWall$Tries", "round", "[I", true)
  | 3 => ("RouteWall$Tries", "route", "[I", true)
  | 4 => ("RouteWall$Tries", "begun", "[I", true)
  | 5 => ("RouteWall$Tries", "ended", "[I", true)
  | 6 => ("RouteWall$Tries", "hold", "[I", true)
  | 7 => ("RouteWall$Tries", "how", "[I", true)
  | _ => ("RouteWall$Tries", "openNext", "[I", true)
def tyX7 : Nat → FieldType := fun k => match k with
  | 0 => .int
  | 1 => .array .int
  | 2 => .array .int
  | 3 => .array .int
  | 4 => .array .int
  | 5 => .array .int
  | 6 => .array .int
  | 7 => .array .int
  | _ => .array .int
abbrev wsX70 : List Cond := u_ws RX7 TX7 9
theorem nmX7 : ∀ a, a < 9 → ∀ b, b < 9 → a ≠ b → (TX7 a).2.1 ≠ (TX7 b).2.1 := by decide +kernel
theorem tyX7_ok : ∀ k, k < 9 → parseFieldDescriptor (TX7 k).2.2.1 = some (tyX7 k) := by decide +kernel
abbrev cX7_init : ByteArray := prog_9_method_1_code
def yX7_init : MethodName := ⟨RX7, "<init>", "()V"⟩
abbrev cX7_clear : ByteArray := prog_9_method_2_code
def yX7_clear : MethodName := ⟨RX7, "clear", "()V"⟩
abbrev cX7_knows : ByteArray := prog_9_method_3_code
def yX7_knows : MethodName := ⟨RX7, "knows", "(I)Z"⟩
abbrev cX7_openOf : ByteArray := prog_9_method_4_code
def yX7_openOf : MethodName := ⟨RX7, "openOf", "(I)I"⟩
abbrev cX7_anyOpen : ByteArray := prog_9_method_5_code
def yX7_anyOpen : MethodName := ⟨RX7, "anyOpen", "()Z"⟩
abbrev cX7_start : ByteArray := prog_9_method_6_code
def yX7_start : MethodName := ⟨RX7, "start", "(IIII)I"⟩
abbrev cX7_finish : ByteArray := prog_9_method_7_code
def yX7_finish : MethodName := ⟨RX7, "finish", "(III)V"⟩
abbrev cX7_endOverdue : ByteArray := prog_9_method_8_code
def yX7_endOverdue : MethodName := ⟨RX7, "endOverdue", "(II)V"⟩
abbrev cX7_isOf : ByteArray := prog_9_method_9_code
def yX7_isOf : MethodName := ⟨RX7, "isOf", "(IIII)Z"⟩
abbrev cX7_mayNotTry : ByteArray := prog_9_method_10_code
def yX7_mayNotTry : MethodName := ⟨RX7, "mayNotTry", "(IIII)Z"⟩
abbrev cX7_lastEnd : ByteArray := prog_9_method_11_code
def yX7_lastEnd : MethodName := ⟨RX7, "lastEnd", "(II)I"⟩
def RX8 : String := "RouteWall$Wall"
def TX8 : u_T := fun k => match k with
  | 0 => ("RouteWall$Wall", "holds", "[I", true)
  | 1 => ("RouteWall$Wall", "begun", "[I", true)
  | _ => ("RouteWall$Wall", "zones", "[I", true)
def tyX8 : Nat → FieldType := fun k => match k with
  | 0 => .array .int
  | 1 => .array .int
  | _ => .array .int
abbrev wsX80 : List Cond := u_ws RX8 TX8 3
theorem nmX8 : ∀ a, a < 3 → ∀ b, b < 3 → a ≠ b → (TX8 a).2.1 ≠ (TX8 b).2.1 := by decide +kernel
theorem tyX8_ok : ∀ k, k < 3 → parseFieldDescriptor (TX8 k).2.2.1 = some (tyX8 k) := by decide +kernel
abbrev cX8_init : ByteArray := prog_10_method_1_code
def yX8_init : MethodName := ⟨RX8, "<init>", "()V"⟩
abbrev cX8_clear : ByteArray := prog_10_method_2_code
def yX8_clear : MethodName := ⟨RX8, "clear", "()V"⟩
abbrev cX8_holdsOf : ByteArray := prog_10_method_3_code
def yX8_holdsOf : MethodName := ⟨RX8, "holdsOf", "(II)I"⟩
abbrev cX8_begunOn : ByteArray := prog_10_method_4_code
def yX8_begunOn : MethodName := ⟨RX8, "begunOn", "(II)I"⟩
abbrev cX8_zoneOf : ByteArray := prog_10_method_5_code
def yX8_zoneOf : MethodName := ⟨RX8, "zoneOf", "(III)I"⟩
abbrev cX8_set : ByteArray := prog_10_method_6_code
def yX8_set : MethodName := ⟨RX8, "set", "(III)V"⟩
abbrev cX8_setZone : ByteArray := prog_10_method_7_code
def yX8_setZone : MethodName := ⟨RX8, "setZone", "(IIII)V"⟩
abbrev cX8_countBegun : ByteArray := prog_10_method_8_code
def yX8_countBegun : MethodName := ⟨RX8, "countBegun", "(II)V"⟩
abbrev cX8_zonesUpTo : ByteArray := prog_10_method_9_code
def yX8_zonesUpTo : MethodName := ⟨RX8, "zonesUpTo", "(III)I"⟩
def RX9 : String := "RouteWall$Watch"
def TX9 : u_T := fun k => match k with
  | 0 => ("RouteWall$Watch", "times", "[I", true)
  | 1 => ("RouteWall$Watch", "wentOut", "[I", true)
  | _ => ("RouteWall$Watch", "cameIn", "[I", true)
def tyX9 : Nat → FieldType := fun k => match k with
  | 0 => .array .int
  | 1 => .array .int
  | _ => .array .int
abbrev wsX90 : List Cond := u_ws RX9 TX9 3
theorem nmX9 : ∀ a, a < 3 → ∀ b, b < 3 → a ≠ b → (TX9 a).2.1 ≠ (TX9 b).2.1 := by decide +kernel
theorem tyX9_ok : ∀ k, k < 3 → parseFieldDescriptor (TX9 k).2.2.1 = some (tyX9 k) := by decide +kernel
abbrev cX9_init : ByteArray := prog_11_method_1_code
def yX9_init : MethodName := ⟨RX9, "<init>", "()V"⟩
abbrev cX9_clear : ByteArray := prog_11_method_2_code
def yX9_clear : MethodName := ⟨RX9, "clear", "()V"⟩
abbrev cX9_latest : ByteArray := prog_11_method_3_code
def yX9_latest : MethodName := ⟨RX9, "latest", "(I)I"⟩
abbrev cX9_isOut : ByteArray := prog_11_method_4_code
def yX9_isOut : MethodName := ⟨RX9, "isOut", "(I)Z"⟩
abbrev cX9_goOut : ByteArray := prog_11_method_5_code
def yX9_goOut : MethodName := ⟨RX9, "goOut", "(II)V"⟩
abbrev cX9_comeIn : ByteArray := prog_11_method_6_code
def yX9_comeIn : MethodName := ⟨RX9, "comeIn", "(II)V"⟩
abbrev cX9_hasSeen : ByteArray := prog_11_method_7_code
def yX9_hasSeen : MethodName := ⟨RX9, "hasSeen", "(LRouteWall$Tries;IIII)Z"⟩
abbrev cX9_wasOut : ByteArray := prog_11_method_8_code
def yX9_wasOut : MethodName := ⟨RX9, "wasOut", "(IIII)Z"⟩
def RX10 : String := "RouteWall"
def TX10 : u_T := fun k => match k with
  | 0 => ("RouteWall", "tape", "[I", true)
  | 1 => ("RouteWall", "taped", "I", false)
  | 2 => ("RouteWall", "laws", "LRouteWall$Laws;", true)
  | 3 => ("RouteWall", "reader", "LRouteWall$LawReader;", true)
  | 4 => ("RouteWall", "wall", "LRouteWall$Wall;", true)
  | 5 => ("RouteWall", "field", "LRouteWall$Field;", true)
  | 6 => ("RouteWall", "tries", "LRouteWall$Tries;", true)
  | 7 => ("RouteWall", "appeals", "LRouteWall$Appeals;", true)
  | 8 => ("RouteWall", "watch", "LRouteWall$Watch;", true)
  | 9 => ("RouteWall", "results", "LRouteWall$Results;", true)
  | 10 => ("RouteWall", "state", "I", false)
  | 11 => ("RouteWall", "time", "I", false)
  | 12 => ("RouteWall", "faultKind", "I", false)
  | _ => ("RouteWall", "faultPlace", "I", false)
def tyX10 : Nat → FieldType := fun k => match k with
  | 0 => .array .int
  | 1 => .int
  | 2 => .object "RouteWall$Laws"
  | 3 => .object "RouteWall$LawReader"
  | 4 => .object "RouteWall$Wall"
  | 5 => .object "RouteWall$Field"
  | 6 => .object "RouteWall$Tries"
  | 7 => .object "RouteWall$Appeals"
  | 8 => .object "RouteWall$Watch"
  | 9 => .object "RouteWall$Results"
  | 10 => .int
  | 11 => .int
  | 12 => .int
  | _ => .int
abbrev wsX100 : List Cond := u_ws RX10 TX10 14
theorem nmX10 : ∀ a, a < 14 → ∀ b, b < 14 → a ≠ b → (TX10 a).2.1 ≠ (TX10 b).2.1 := by decide +kernel
theorem tyX10_ok : ∀ k, k < 14 → parseFieldDescriptor (TX10 k).2.2.1 = some (tyX10 k) := by decide +kernel
abbrev cX10_init : ByteArray := prog_1_method_1_code
def yX10_init : MethodName := ⟨RX10, "<init>", "()V"⟩
abbrev cX10_status : ByteArray := prog_1_method_2_code
def yX10_status : MethodName := ⟨RX10, "status", "()I"⟩
abbrev cX10_feed : ByteArray := prog_1_method_3_code
def yX10_feed : MethodName := ⟨RX10, "feed", "(IIIII)I"⟩
abbrev cX10_load : ByteArray := prog_1_method_4_code
def yX10_load : MethodName := ⟨RX10, "load", "(I)I"⟩
abbrev cX10_fault : ByteArray := prog_1_method_5_code
def yX10_fault : MethodName := ⟨RX10, "fault", "(I)I"⟩
abbrev cX10_climber : ByteArray := prog_1_method_6_code
def yX10_climber : MethodName := ⟨RX10, "climber", "()I"⟩
abbrev cX10_route : ByteArray := prog_1_method_7_code
def yX10_route : MethodName := ⟨RX10, "route", "(IIIIII)Z"⟩
abbrev cX10_told : ByteArray := prog_1_method_8_code
def yX10_told : MethodName := ⟨RX10, "told", "(III)I"⟩
abbrev cX10_begin : ByteArray := prog_1_method_9_code
def yX10_begin : MethodName := ⟨RX10, "begin", "(III)I"⟩
abbrev cX10_reach : ByteArray := prog_1_method_10_code
def yX10_reach : MethodName := ⟨RX10, "reach", "(III)I"⟩
abbrev cX10_fall : ByteArray := prog_1_method_11_code
def yX10_fall : MethodName := ⟨RX10, "fall", "(IIZ)Z"⟩
abbrev cX10_out : ByteArray := prog_1_method_12_code
def yX10_out : MethodName := ⟨RX10, "out", "(IIZ)Z"⟩
abbrev cX10_clock : ByteArray := prog_1_method_13_code
def yX10_clock : MethodName := ⟨RX10, "clock", "(I)Z"⟩
abbrev cX10_now : ByteArray := prog_1_method_14_code
def yX10_now : MethodName := ⟨RX10, "now", "()I"⟩
abbrev cX10_tried : ByteArray := prog_1_method_15_code
def yX10_tried : MethodName := ⟨RX10, "tried", "(II)I"⟩
abbrev cX10_seen : ByteArray := prog_1_method_16_code
def yX10_seen : MethodName := ⟨RX10, "seen", "(II)I"⟩
abbrev cX10_ready : ByteArray := prog_1_method_17_code
def yX10_ready : MethodName := ⟨RX10, "ready", "(I)I"⟩
abbrev cX10_appeal : ByteArray := prog_1_method_18_code
def yX10_appeal : MethodName := ⟨RX10, "appeal", "(III)Z"⟩
abbrev cX10_of : ByteArray := prog_1_method_19_code
def yX10_of : MethodName := ⟨RX10, "of", "(IIIII)I"⟩
abbrev cX10_key : ByteArray := prog_1_method_20_code
def yX10_key : MethodName := ⟨RX10, "key", "(IIII)J"⟩
abbrev cX10_rank : ByteArray := prog_1_method_21_code
def yX10_rank : MethodName := ⟨RX10, "rank", "(III)I"⟩
abbrev cX10_advance : ByteArray := prog_1_method_22_code
def yX10_advance : MethodName := ⟨RX10, "advance", "(II)I"⟩
abbrev cX10_order : ByteArray := prog_1_method_23_code
def yX10_order : MethodName := ⟨RX10, "order", "(II)I"⟩
abbrev cX10_parts : ByteArray := prog_1_method_24_code
def yX10_parts : MethodName := ⟨RX10, "parts", "(III)I"⟩
abbrev cX10_choose : ByteArray := prog_1_method_25_code
def yX10_choose : MethodName := ⟨RX10, "choose", "(III)I"⟩
abbrev cX10_refuse : ByteArray := prog_1_method_26_code
def yX10_refuse : MethodName := ⟨RX10, "refuse", "(I)I"⟩
abbrev cX10_answer : ByteArray := prog_1_method_27_code
def yX10_answer : MethodName := ⟨RX10, "answer", "(I)I"⟩
abbrev cX10_deny : ByteArray := prog_1_method_28_code
def yX10_deny : MethodName := ⟨RX10, "deny", "(I)Z"⟩
abbrev cX10_grant : ByteArray := prog_1_method_29_code
def yX10_grant : MethodName := ⟨RX10, "grant", "()Z"⟩
abbrev cX10_isDay : ByteArray := prog_1_method_30_code
def yX10_isDay : MethodName := ⟨RX10, "isDay", "(I)Z"⟩
abbrev cX10_putOnTape : ByteArray := prog_1_method_31_code
def yX10_putOnTape : MethodName := ⟨RX10, "putOnTape", "(I)V"⟩
abbrev cX10_zonesCanBe : ByteArray := prog_1_method_32_code
def yX10_zonesCanBe : MethodName := ⟨RX10, "zonesCanBe", "(IIII)Z"⟩
abbrev cX10_zoneCanBe : ByteArray := prog_1_method_33_code
def yX10_zoneCanBe : MethodName := ⟨RX10, "zoneCanBe", "(IIIZ)Z"⟩
abbrev cX10_passTo : ByteArray := prog_1_method_34_code
def yX10_passTo : MethodName := ⟨RX10, "passTo", "(I)I"⟩
abbrev cX10_whyNotBegin : ByteArray := prog_1_method_35_code
def yX10_whyNotBegin : MethodName := ⟨RX10, "whyNotBegin", "(II)I"⟩
abbrev cX10_hasSeen : ByteArray := prog_1_method_36_code
def yX10_hasSeen : MethodName := ⟨RX10, "hasSeen", "(II)Z"⟩
abbrev cX10_restOver : ByteArray := prog_1_method_37_code
def yX10_restOver : MethodName := ⟨RX10, "restOver", "(I)I"⟩
def RX11 : String := "RouteWallModel"
def TX11 : u_T := fun k => match k with
  | 0 => ("RouteWallModel", "status", "I", false)
  | 1 => ("RouteWallModel", "thrown", "I", false)
  | 2 => ("RouteWallModel", "tape", "[B", true)
  | 3 => ("RouteWallModel", "taped", "I", false)
  | 4 => ("RouteWallModel", "end", "I", false)
  | 5 => ("RouteWallModel", "faultKind", "I", false)
  | 6 => ("RouteWallModel", "faultAt", "I", false)
  | 7 => ("RouteWallModel", "bad", "I", false)
  | 8 => ("RouteWallModel", "badAt", "I", false)
  | 9 => ("RouteWallModel", "sort", "I", false)
  | 10 => ("RouteWallModel", "at", "I", false)
  | 11 => ("RouteWallModel", "behind", "I", false)
  | 12 => ("RouteWallModel", "number", "I", false)
  | 13 => ("RouteWallModel", "word", "J", false)
  | 14 => ("RouteWallModel", "rounds", "I", false)
  | 15 => ("RouteWallModel", "parts", "I", false)
  | 16 => ("RouteWallModel", "keys", "I", false)
  | 17 => ("RouteWallModel", "newRounds", "I", false)
  | 18 => ("RouteWallModel", "newParts", "I", false)
  | 19 => ("RouteWallModel", "newKeys", "I", false)
  | 20 => ("RouteWallModel", "goesBack", "Z", false)
  | 21 => ("RouteWallModel", "newBack", "Z", false)
  | 22 => ("RouteWallModel", "routes", "[I", true)
  | 23 => ("RouteWallModel", "tries", "[I", true)
  | 24 => ("RouteWallModel", "seconds", "[I", true)
  | 25 => ("RouteWallModel", "rest", "[I", true)
  | 26 => ("RouteWallModel", "newRoutes", "[I", true)
  | 27 => ("RouteWallModel", "newTries", "[I", true)
  | 28 => ("RouteWallModel", "newSeconds", "[I", true)
  | 29 => ("RouteWallModel", "newRest", "[I", true)
  | 30 => ("RouteWallModel", "part", "[I", true)
  | 31 => ("RouteWallModel", "partNumber", "[I", true)
  | 32 => ("RouteWallModel", "newPart", "[I", true)
  | 33 => ("RouteWallModel", "newNumber", "[I", true)
  | 34 => ("RouteWallModel", "key", "[I", true)
  | 35 => ("RouteWallModel", "newKey", "[I", true)
  | 36 => ("RouteWallModel", "isUp", "[Z", true)
  | 37 => ("RouteWallModel", "newUp", "[Z", true)
  | 38 => ("RouteWallModel", "waits", "[I", true)
  | 39 => ("RouteWallModel", "waiting", "I", false)
  | 40 => ("RouteWallModel", "deep", "I", false)
  | 41 => ("RouteWallModel", "holds", "[I", true)
  | 42 => ("RouteWallModel", "zones", "[I", true)
  | 43 => ("RouteWallModel", "begun", "[I", true)
  | 44 => ("RouteWallModel", "climbers", "I", false)
  | 45 => ("RouteWallModel", "open", "I", false)
  | 46 => ("RouteWallModel", "now", "I", false)
  | 47 => ("RouteWallModel", "isIn", "[Z", true)
  | 48 => ("RouteWallModel", "order", "[I", true)
  | 49 => ("RouteWallModel", "orderMany", "[I", true)
  | 50 => ("RouteWallModel", "tried", "I", false)
  | 51 => ("RouteWallModel", "who", "[I", true)
  | 52 => ("RouteWallModel", "where", "[I", true)
  | 53 => ("RouteWallModel", "which", "[I", true)
  | 54 => ("RouteWallModel", "from", "[I", true)
  | 55 => ("RouteWallModel", "to", "[I", true)
  | 56 => ("RouteWallModel", "hold", "[I", true)
  | 57 => ("RouteWallModel", "how", "[I", true)
  | 58 => ("RouteWallModel", "appeals", "I", false)
  | 59 => ("RouteWallModel", "appealTry", "[I", true)
  | 60 => ("RouteWallModel", "appealHold", "[I", true)
  | 61 => ("RouteWallModel", "appealDay", "[I", true)
  | 62 => ("RouteWallModel", "outs", "[I", true)
  | 63 => ("RouteWallModel", "outFrom", "[I", true)
  | 64 => ("RouteWallModel", "outTo", "[I", true)
  | 65 => ("RouteWallModel", "counted", "I", false)
  | 66 => ("RouteWallModel", "facts", "[I", true)
  | 67 => ("RouteWallModel", "pile", "[J", true)
  | 68 => ("RouteWallModel", "ranks", "[I", true)
  | _ => ("RouteWallModel", "sums", "[J", true)
def tyX11 : Nat → FieldType := fun k => match k with
  | 0 => .int
  | 1 => .int
  | 2 => .array .byte
  | 3 => .int
  | 4 => .int
  | 5 => .int
  | 6 => .int
  | 7 => .int
  | 8 => .int
  | 9 => .int
  | 10 => .int
  | 11 => .int
  | 12 => .int
  | 13 => .long
  | 14 => .int
  | 15 => .int
  | 16 => .int
  | 17 => .int
  | 18 => .int
  | 19 => .int
  | 20 => .boolean
  | 21 => .boolean
  | 22 => .array .int
  | 23 => .array .int
  | 24 => .array .int
  | 25 => .array .int
  | 26 => .array .int
  | 27 => .array .int
  | 28 => .array .int
  | 29 => .array .int
  | 30 => .array .int
  | 31 => .array .int
  | 32 => .array .int
  | 33 => .array .int
  | 34 => .array .int
  | 35 => .array .int
  | 36 => .array .boolean
  | 37 => .array .boolean
  | 38 => .array .int
  | 39 => .int
  | 40 => .int
  | 41 => .array .int
  | 42 => .array .int
  | 43 => .array .int
  | 44 => .int
  | 45 => .int
  | 46 => .int
  | 47 => .array .boolean
  | 48 => .array .int
  | 49 => .array .int
  | 50 => .int
  | 51 => .array .int
  | 52 => .array .int
  | 53 => .array .int
  | 54 => .array .int
  | 55 => .array .int
  | 56 => .array .int
  | 57 => .array .int
  | 58 => .int
  | 59 => .array .int
  | 60 => .array .int
  | 61 => .array .int
  | 62 => .array .int
  | 63 => .array .int
  | 64 => .array .int
  | 65 => .int
  | 66 => .array .int
  | 67 => .array .long
  | 68 => .array .int
  | _ => .array .long
abbrev wsX110 : List Cond := u_ws RX11 TX11 70
theorem nmX11 : ∀ a, a < 70 → ∀ b, b < 70 → a ≠ b → (TX11 a).2.1 ≠ (TX11 b).2.1 := by decide +kernel
theorem tyX11_ok : ∀ k, k < 70 → parseFieldDescriptor (TX11 k).2.2.1 = some (tyX11 k) := by decide +kernel
abbrev cX11_init : ByteArray := prog_13_method_1_code
def yX11_init : MethodName := ⟨RX11, "<init>", "()V"⟩
abbrev cX11_status : ByteArray := prog_13_method_3_code
def yX11_status : MethodName := ⟨RX11, "status", "()I"⟩
abbrev cX11_refuse : ByteArray := prog_13_method_4_code
def yX11_refuse : MethodName := ⟨RX11, "refuse", "(I)I"⟩
abbrev cX11_no : ByteArray := prog_13_method_5_code
def yX11_no : MethodName := ⟨RX11, "no", "(I)Z"⟩
abbrev cX11_look : ByteArray := prog_13_method_6_code
def yX11_look : MethodName := ⟨RX11, "look", "(I)I"⟩
abbrev cX11_isLetter : ByteArray := prog_13_method_7_code
def yX11_isLetter : MethodName := ⟨RX11, "isLetter", "(I)Z"⟩
abbrev cX11_isDigit : ByteArray := prog_13_method_8_code
def yX11_isDigit : MethodName := ⟨RX11, "isDigit", "(I)Z"⟩
abbrev cX11_next : ByteArray := prog_13_method_9_code
def yX11_next : MethodName := ⟨RX11, "next", "()V"⟩
abbrev cX11_spelled : ByteArray := prog_13_method_10_code
def yX11_spelled : MethodName := ⟨RX11, "spelled", "(IIIIIII)J"⟩
abbrev cX11_isWord : ByteArray := prog_13_method_11_code
def yX11_isWord : MethodName := ⟨RX11, "isWord", "(J)Z"⟩
abbrev cX11_isSign : ByteArray := prog_13_method_12_code
def yX11_isSign : MethodName := ⟨RX11, "isSign", "(I)Z"⟩
abbrev cX11_fail : ByteArray := prog_13_method_13_code
def yX11_fail : MethodName := ⟨RX11, "fail", "(II)V"⟩
abbrev cX11_wrong : ByteArray := prog_13_method_14_code
def yX11_wrong : MethodName := ⟨RX11, "wrong", "()V"⟩
abbrev cX11_numberOf : ByteArray := prog_13_method_15_code
def yX11_numberOf : MethodName := ⟨RX11, "numberOf", "(II)I"⟩
abbrev cX11_ends : ByteArray := prog_13_method_16_code
def yX11_ends : MethodName := ⟨RX11, "ends", "()V"⟩
abbrev cX11_readText : ByteArray := prog_13_method_17_code
def yX11_readText : MethodName := ⟨RX11, "readText", "()V"⟩
abbrev cX11_lawOf : ByteArray := prog_13_method_18_code
def yX11_lawOf : MethodName := ⟨RX11, "lawOf", "()I"⟩
abbrev cX11_readLaw : ByteArray := prog_13_method_19_code
def yX11_readLaw : MethodName := ⟨RX11, "readLaw", "(I)V"⟩
abbrev cX11_readKeys : ByteArray := prog_13_method_20_code
def yX11_readKeys : MethodName := ⟨RX11, "readKeys", "()V"⟩
abbrev cX11_nameOf : ByteArray := prog_13_method_21_code
def yX11_nameOf : MethodName := ⟨RX11, "nameOf", "()I"⟩
abbrev cX11_counts : ByteArray := prog_13_method_22_code
def yX11_counts : MethodName := ⟨RX11, "counts", "()V"⟩
abbrev cX11_puts : ByteArray := prog_13_method_23_code
def yX11_puts : MethodName := ⟨RX11, "puts", "(II)V"⟩
abbrev cX11_deeper : ByteArray := prog_13_method_24_code
def yX11_deeper : MethodName := ⟨RX11, "deeper", "()V"⟩
abbrev cX11_waitFor : ByteArray := prog_13_method_25_code
def yX11_waitFor : MethodName := ⟨RX11, "waitFor", "(I)V"⟩
abbrev cX11_strong : ByteArray := prog_13_method_26_code
def yX11_strong : MethodName := ⟨RX11, "strong", "(I)I"⟩
abbrev cX11_reduce : ByteArray := prog_13_method_27_code
def yX11_reduce : MethodName := ⟨RX11, "reduce", "(I)V"⟩
abbrev cX11_readExpression : ByteArray := prog_13_method_28_code
def yX11_readExpression : MethodName := ⟨RX11, "readExpression", "()V"⟩
abbrev cX11_isOpen : ByteArray := prog_13_method_29_code
def yX11_isOpen : MethodName := ⟨RX11, "isOpen", "()Z"⟩
abbrev cX11_wholes : ByteArray := prog_13_method_30_code
def yX11_wholes : MethodName := ⟨RX11, "wholes", "()V"⟩
abbrev cX11_readFactor : ByteArray := prog_13_method_31_code
def yX11_readFactor : MethodName := ⟨RX11, "readFactor", "()Z"⟩
abbrev cX11_feed : ByteArray := prog_13_method_32_code
def yX11_feed : MethodName := ⟨RX11, "feed", "(IIIII)I"⟩
abbrev cX11_lay : ByteArray := prog_13_method_33_code
def yX11_lay : MethodName := ⟨RX11, "lay", "(I)V"⟩
abbrev cX11_load : ByteArray := prog_13_method_34_code
def yX11_load : MethodName := ⟨RX11, "load", "(I)I"⟩
abbrev cX11_fault : ByteArray := prog_13_method_35_code
def yX11_fault : MethodName := ⟨RX11, "fault", "(I)I"⟩
abbrev cX11_isRound : ByteArray := prog_13_method_36_code
def yX11_isRound : MethodName := ⟨RX11, "isRound", "(I)Z"⟩
abbrev cX11_isRoute : ByteArray := prog_13_method_37_code
def yX11_isRoute : MethodName := ⟨RX11, "isRoute", "(II)Z"⟩
abbrev cX11_isClimber : ByteArray := prog_13_method_38_code
def yX11_isClimber : MethodName := ⟨RX11, "isClimber", "(I)Z"⟩
abbrev cX11_at : ByteArray := prog_13_method_39_code
def yX11_at : MethodName := ⟨RX11, "at", "(II)I"⟩
abbrev cX11_climber : ByteArray := prog_13_method_40_code
def yX11_climber : MethodName := ⟨RX11, "climber", "()I"⟩
abbrev cX11_route : ByteArray := prog_13_method_41_code
def yX11_route : MethodName := ⟨RX11, "route", "(IIIIII)Z"⟩
abbrev cX11_told : ByteArray := prog_13_method_42_code
def yX11_told : MethodName := ⟨RX11, "told", "(III)I"⟩
abbrev cX11_goesTo : ByteArray := prog_13_method_43_code
def yX11_goesTo : MethodName := ⟨RX11, "goesTo", "(I)V"⟩
abbrev cX11_clocked : ByteArray := prog_13_method_44_code
def yX11_clocked : MethodName := ⟨RX11, "clocked", "(I)I"⟩
abbrev cX11_openTry : ByteArray := prog_13_method_45_code
def yX11_openTry : MethodName := ⟨RX11, "openTry", "(I)I"⟩
abbrev cX11_hasSeen : ByteArray := prog_13_method_46_code
def yX11_hasSeen : MethodName := ⟨RX11, "hasSeen", "(II)Z"⟩
abbrev cX11_readyAt : ByteArray := prog_13_method_47_code
def yX11_readyAt : MethodName := ⟨RX11, "readyAt", "(I)I"⟩
abbrev cX11_begin : ByteArray := prog_13_method_48_code
def yX11_begin : MethodName := ⟨RX11, "begin", "(III)I"⟩
abbrev cX11_reach : ByteArray := prog_13_method_49_code
def yX11_reach : MethodName := ⟨RX11, "reach", "(III)I"⟩
abbrev cX11_fall : ByteArray := prog_13_method_50_code
def yX11_fall : MethodName := ⟨RX11, "fall", "(IIZ)Z"⟩
abbrev cX11_out : ByteArray := prog_13_method_51_code
def yX11_out : MethodName := ⟨RX11, "out", "(IIZ)Z"⟩
abbrev cX11_clock : ByteArray := prog_13_method_52_code
def yX11_clock : MethodName := ⟨RX11, "clock", "(I)Z"⟩
abbrev cX11_now : ByteArray := prog_13_method_53_code
def yX11_now : MethodName := ⟨RX11, "now", "()I"⟩
abbrev cX11_tried : ByteArray := prog_13_method_54_code
def yX11_tried : MethodName := ⟨RX11, "tried", "(II)I"⟩
abbrev cX11_seen : ByteArray := prog_13_method_55_code
def yX11_seen : MethodName := ⟨RX11, "seen", "(II)I"⟩
abbrev cX11_ready : ByteArray := prog_13_method_56_code
def yX11_ready : MethodName := ⟨RX11, "ready", "(I)I"⟩
abbrev cX11_isDay : ByteArray := prog_13_method_57_code
def yX11_isDay : MethodName := ⟨RX11, "isDay", "(I)Z"⟩
abbrev cX11_appeal : ByteArray := prog_13_method_58_code
def yX11_appeal : MethodName := ⟨RX11, "appeal", "(III)Z"⟩
abbrev cX11_holdOf : ByteArray := prog_13_method_59_code
def yX11_holdOf : MethodName := ⟨RX11, "holdOf", "(II)I"⟩
abbrev cX11_factsOf : ByteArray := prog_13_method_60_code
def yX11_factsOf : MethodName := ⟨RX11, "factsOf", "(IIII)V"⟩
abbrev cX11_cut : ByteArray := prog_13_method_61_code
def yX11_cut : MethodName := ⟨RX11, "cut", "(J)J"⟩
abbrev cX11_pointsOf : ByteArray := prog_13_method_62_code
def yX11_pointsOf : MethodName := ⟨RX11, "pointsOf", "(IIII)I"⟩
abbrev cX11_of : ByteArray := prog_13_method_63_code
def yX11_of : MethodName := ⟨RX11, "of", "(IIIII)I"⟩
abbrev cX11_keyOf : ByteArray := prog_13_method_64_code
def yX11_keyOf : MethodName := ⟨RX11, "keyOf", "(IIII)J"⟩
abbrev cX11_isIn : ByteArray := prog_13_method_65_code
def yX11_isIn : MethodName := ⟨RX11, "isIn", "(II)Z"⟩
abbrev cX11_key : ByteArray := prog_13_method_66_code
def yX11_key : MethodName := ⟨RX11, "key", "(IIII)J"⟩
abbrev cX11_isAhead : ByteArray := prog_13_method_67_code
def yX11_isAhead : MethodName := ⟨RX11, "isAhead", "(IIII)Z"⟩
abbrev cX11_rankOf : ByteArray := prog_13_method_68_code
def yX11_rankOf : MethodName := ⟨RX11, "rankOf", "(III)I"⟩
abbrev cX11_rank : ByteArray := prog_13_method_69_code
def yX11_rank : MethodName := ⟨RX11, "rank", "(III)I"⟩
abbrev cX11_advance : ByteArray := prog_13_method_70_code
def yX11_advance : MethodName := ⟨RX11, "advance", "(II)I"⟩
abbrev cX11_order : ByteArray := prog_13_method_71_code
def yX11_order : MethodName := ⟨RX11, "order", "(II)I"⟩
abbrev cX11_partsOf : ByteArray := prog_13_method_72_code
def yX11_partsOf : MethodName := ⟨RX11, "partsOf", "(III)I"⟩
abbrev cX11_parts : ByteArray := prog_13_method_73_code
def yX11_parts : MethodName := ⟨RX11, "parts", "(III)I"⟩
abbrev cX11_choose : ByteArray := prog_13_method_74_code
def yX11_choose : MethodName := ⟨RX11, "choose", "(III)I"⟩
def RJ6 : String := "java/lang/Integer"
def TJ6 : u_T := fun k => match k with
  | _ => ("", "", "", false)
def tyJ6 : Nat → FieldType := fun k => match k with
  | _ => .int
abbrev wsJ60 : List Cond := u_ws RJ6 TJ6 0
theorem nmJ6 : ∀ a, a < 0 → ∀ b, b < 0 → a ≠ b → (TJ6 a).2.1 ≠ (TJ6 b).2.1 := by decide +kernel
theorem tyJ6_ok : ∀ k, k < 0 → parseFieldDescriptor (TJ6 k).2.2.1 = some (tyJ6 k) := by decide +kernel
abbrev cJ6_bitCount_0f7a4 : ByteArray := prog_14_method_49_code
def yJ6_bitCount_0f7a4 : MethodName := ⟨RJ6, "bitCount", "(I)I"⟩
def RJ9 : String := "java/lang/Math"
def TJ9 : u_T := fun k => match k with
  | _ => ("", "", "", false)
def tyJ9 : Nat → FieldType := fun k => match k with
  | _ => .int
abbrev wsJ90 : List Cond := u_ws RJ9 TJ9 0
theorem nmJ9 : ∀ a, a < 0 → ∀ b, b < 0 → a ≠ b → (TJ9 a).2.1 ≠ (TJ9 b).2.1 := by decide +kernel
theorem tyJ9_ok : ∀ k, k < 0 → parseFieldDescriptor (TJ9 k).2.2.1 = some (tyJ9 k) := by decide +kernel
abbrev cJ9_max_7cf53 : ByteArray := prog_15_method_65_code
def yJ9_max_7cf53 : MethodName := ⟨RJ9, "max", "(II)I"⟩
abbrev cJ9_max_f86c9 : ByteArray := prog_15_method_66_code
def yJ9_max_f86c9 : MethodName := ⟨RJ9, "max", "(JJ)J"⟩
abbrev cJ9_min_7cf53 : ByteArray := prog_15_method_69_code
def yJ9_min_7cf53 : MethodName := ⟨RJ9, "min", "(II)I"⟩
abbrev cJ9_min_f86c9 : ByteArray := prog_15_method_70_code
def yJ9_min_f86c9 : MethodName := ⟨RJ9, "min", "(JJ)J"⟩
def RJ0 : String := "java/lang/String"
def TJ0 : u_T := fun k => match k with
  | _ => ("", "", "", false)
def tyJ0 : Nat → FieldType := fun k => match k with
  | _ => .int
abbrev wsJ00 : List Cond := u_ws RJ0 TJ0 0
theorem nmJ0 : ∀ a, a < 0 → ∀ b, b < 0 → a ≠ b → (TJ0 a).2.1 ≠ (TJ0 b).2.1 := by decide +kernel
theorem tyJ0_ok : ∀ k, k < 0 → parseFieldDescriptor (TJ0 k).2.2.1 = some (tyJ0 k) := by decide +kernel
abbrev cJ0_length_8abf5 : ByteArray := prog_16_method_54_code
def yJ0_length_8abf5 : MethodName := ⟨RJ0, "length", "()I"⟩
abbrev cJ0_charAt_5068e : ByteArray := prog_16_method_56_code
def yJ0_charAt_5068e : MethodName := ⟨RJ0, "charAt", "(I)C"⟩
abbrev cJ0_coder_7d493 : ByteArray := prog_16_method_152_code
def yJ0_coder_7d493 : MethodName := ⟨RJ0, "coder", "()B"⟩
abbrev cJ0_isLatin1_aae02 : ByteArray := prog_16_method_154_code
def yJ0_isLatin1_aae02 : MethodName := ⟨RJ0, "isLatin1", "()Z"⟩
abbrev cJ0_checkIndex_df160 : ByteArray := prog_16_method_155_code
def yJ0_checkIndex_df160 : MethodName := ⟨RJ0, "checkIndex", "(II)V"⟩
def RJ1 : String := "java/lang/StringLatin1"
def TJ1 : u_T := fun k => match k with
  | _ => ("", "", "", false)
def tyJ1 : Nat → FieldType := fun k => match k with
  | _ => .int
abbrev wsJ10 : List Cond := u_ws RJ1 TJ1 0
theorem nmJ1 : ∀ a, a < 0 → ∀ b, b < 0 → a ≠ b → (TJ1 a).2.1 ≠ (TJ1 b).2.1 := by decide +kernel
theorem tyJ1_ok : ∀ k, k < 0 → parseFieldDescriptor (TJ1 k).2.2.1 = some (tyJ1 k) := by decide +kernel
abbrev cJ1_charAt_3b067 : ByteArray := prog_17_method_2_code
def yJ1_charAt_3b067 : MethodName := ⟨RJ1, "charAt", "([BI)C"⟩
def RJ2 : String := "java/lang/StringUTF16"
def TJ2 : u_T := fun k => match k with
  | _ => ("", "", "", false)
def tyJ2 : Nat → FieldType := fun k => match k with
  | _ => .int
abbrev wsJ20 : List Cond := u_ws RJ2 TJ2 0
theorem nmJ2 : ∀ a, a < 0 → ∀ b, b < 0 → a ≠ b → (TJ2 a).2.1 ≠ (TJ2 b).2.1 := by decide +kernel
theorem tyJ2_ok : ∀ k, k < 0 → parseFieldDescriptor (TJ2 k).2.2.1 = some (tyJ2 k) := by decide +kernel
abbrev cJ2_getChar_3b067 : ByteArray := prog_18_method_5_code
def yJ2_getChar_3b067 : MethodName := ⟨RJ2, "getChar", "([BI)C"⟩
abbrev cJ2_length_9d52b : ByteArray := prog_18_method_6_code
def yJ2_length_9d52b : MethodName := ⟨RJ2, "length", "([B)I"⟩
abbrev cJ2_charAt_3b067 : ByteArray := prog_18_method_83_code
def yJ2_charAt_3b067 : MethodName := ⟨RJ2, "charAt", "([BI)C"⟩
abbrev cJ2_checkIndex_2214a : ByteArray := prog_18_method_91_code
def yJ2_checkIndex_2214a : MethodName := ⟨RJ2, "checkIndex", "(I[B)V"⟩
def RJ10 : String := "java/lang/System"
def TJ10 : u_T := fun k => match k with
  | _ => ("", "", "", false)
def tyJ10 : Nat → FieldType := fun k => match k with
  | _ => .int
abbrev wsJ100 : List Cond := u_ws RJ10 TJ10 0
theorem nmJ10 : ∀ a, a < 0 → ∀ b, b < 0 → a ≠ b → (TJ10 a).2.1 ≠ (TJ10 b).2.1 := by decide +kernel
theorem tyJ10_ok : ∀ k, k < 0 → parseFieldDescriptor (TJ10 k).2.2.1 = some (tyJ10 k) := by decide +kernel
def RJ7 : String := "java/util/Arrays"
def TJ7 : u_T := fun k => match k with
  | _ => ("", "", "", false)
def tyJ7 : Nat → FieldType := fun k => match k with
  | _ => .int
abbrev wsJ70 : List Cond := u_ws RJ7 TJ7 0
theorem nmJ7 : ∀ a, a < 0 → ∀ b, b < 0 → a ≠ b → (TJ7 a).2.1 ≠ (TJ7 b).2.1 := by decide +kernel
theorem tyJ7_ok : ∀ k, k < 0 → parseFieldDescriptor (TJ7 k).2.2.1 = some (tyJ7 k) := by decide +kernel
abbrev cJ7_fill_d0a16 : ByteArray := prog_20_method_101_code
def yJ7_fill_d0a16 : MethodName := ⟨RJ7, "fill", "([JJ)V"⟩
abbrev cJ7_fill_53178 : ByteArray := prog_20_method_103_code
def yJ7_fill_53178 : MethodName := ⟨RJ7, "fill", "([II)V"⟩
def RJ3 : String := "jdk/internal/util/Preconditions"
def TJ3 : u_T := fun k => match k with
  | _ => ("", "", "", false)
def tyJ3 : Nat → FieldType := fun k => match k with
  | _ => .int
abbrev wsJ30 : List Cond := u_ws RJ3 TJ3 0
theorem nmJ3 : ∀ a, a < 0 → ∀ b, b < 0 → a ≠ b → (TJ3 a).2.1 ≠ (TJ3 b).2.1 := by decide +kernel
theorem tyJ3_ok : ∀ k, k < 0 → parseFieldDescriptor (TJ3 k).2.2.1 = some (tyJ3 k) := by decide +kernel
abbrev cJ3_checkIndex_8e157 : ByteArray := prog_21_method_11_code
def yJ3_checkIndex_8e157 : MethodName := ⟨RJ3, "checkIndex", "(IILjava/util/function/BiFunction;)I"⟩
def RL : String := "RouteWallLaw"
abbrev cL_law : ByteArray := code
def yL_law : MethodName := ⟨RL, "law", "([I)Z"⟩
abbrev vwCl : List vw_C := [(RX0, TX0, 4), (RX1, TX1, 6), (RX2, TX2, 4), (RX3, TX3, 8), (RX4, TX4, 10), (RX5, TX5, 15), (RX6, TX6, 5), (RX7, TX7, 9), (RX8, TX8, 3), (RX9, TX9, 3), (RX10, TX10, 14), (RX11, TX11, 70)]
end
section
theorem goodIn_r {big : List Cond} (ws : List Cond) (ps : List Nat) (hp : ws = ps.filterMap (fun i => big[i]?)) (h : ws.all goodWord = true) : GoodIn big ws := by
  intro w hw
  have h1 := List.all_eq_true.mp h w hw
  rw [hp] at hw
  obtain ⟨i, -, hi⟩ := List.mem_filterMap.mp hw
  have hm : w ∈ big := by first | exact List.mem_of_getElem? hi | exact List.getElem?_mem hi
  exact ⟨hm, good_of_word h1⟩
theorem goodIn_app {big a b : List Cond} (ha : GoodIn big a) (hb : GoodIn big b) : GoodIn big (a ++ b) := fun w h => (List.mem_append.mp h).elim (ha w) (hb w)
theorem goodIn_ca {big a b : List Cond} {c : Cond} (ha : GoodIn big (c :: a)) (hb : GoodIn big b) : GoodIn big (c :: (a ++ b)) := fun w h => (List.mem_cons.mp h).elim (fun e => ha w (List.mem_cons.mpr (Or.inl e))) (fun h => (List.mem_append.mp h).elim (fun h => ha w (List.mem_cons.mpr (Or.inr h))) (hb w))
theorem goodIn_sub {big ws : List Cond} (hm : ∀ w ∈ ws, w ∈ big) (h : ws.all goodWord = true) : GoodIn big ws := fun w hw => ⟨hm w hw, good_of_word (List.all_eq_true.mp h w hw)⟩
/-! ===== END ===== -/
/-! the words of the tables that a call may carry, and each of them by its place -/
def gWs : List Cond := lw_tbl.filter goodWord
theorem gWs_in {w : Cond} (h : w ∈ lw_tbl) (hg : goodWord w = true) : w ∈ gWs := List.mem_filter.mpr ⟨h, hg⟩
theorem gWs_tbl {w : Cond} (h : w ∈ gWs) : w ∈ lw_tbl := (List.mem_filter.mp h).1
theorem gWs_good {w : Cond} (h : w ∈ gWs) : (w.onTables && w.keeps) = true ∨ ∃ ty, w = .arrayClass ty := good_of_word (List.mem_filter.mp h).2
theorem gT_1 {w : Cond} (h : w ∈ tables_1_1) : w ∈ lw_tbl := List.mem_append_right _ (List.mem_append_left _ h)
theorem gT_2 {w : Cond} (h : w ∈ tables_1_2) : w ∈ lw_tbl := List.mem_append_right _ (List.mem_append_right _ (List.mem_append_left _ h))
theorem gT_3 {w : Cond} (h : w ∈ tables_1_3) : w ∈ lw_tbl := List.mem_append_right _ (List.mem_append_right _ (List.mem_append_right _ (List.mem_append_left _ h)))
theorem gT_4 {w : Cond} (h : w ∈ tables_1_4) : w ∈ lw_tbl := List.mem_append_right _ (List.mem_append_right _ (List.mem_append_right _ (List.mem_append_right _ (List.mem_append_left _ h))))
theorem gT_5 {w : Cond} (h : w ∈ tables_1_5) : w ∈ lw_tbl := List.mem_append_right _ (List.mem_append_right _ (List.mem_append_right _ (List.mem_append_right _ (List.mem_append_right _ (List.mem_append_left _ h)))))
theorem gT_6 {w : Cond} (h : w ∈ tables_1_6) : w ∈ lw_tbl := List.mem_append_right _ (List.mem_append_right _ (List.mem_append_right _ (List.mem_append_right _ (List.mem_append_right _ (List.mem_append_right _ (List.mem_append_left _ h))))))
theorem gT_7 {w : Cond} (h : w ∈ tables_1_7) : w ∈ lw_tbl := List.mem_append_right _ (List.mem_append_right _ (List.mem_append_right _ (List.mem_append_right _ (List.mem_append_right _ (List.mem_append_right _ (List.mem_append_right _ (h)))))))
theorem gT_0 {w : Cond} (h : w ∈ k2_sels lw_privs) : w ∈ lw_tbl := List.mem_append_left _ h
theorem mN_L : Cond.initialized RL ∈ gWs := gWs_in (gT_1 (List.mem_of_getElem? (i := 0) rfl)) rfl
theorem mN_X10 : Cond.initialized RX10 ∈ gWs := gWs_in (gT_1 (List.mem_of_getElem? (i := 1) rfl)) rfl
theorem mN_X4 : Cond.initialized RX4 ∈ gWs := gWs_in (gT_1 (List.mem_of_getElem? (i := 2) rfl)) rfl
theorem mN_X3 : Cond.initialized RX3 ∈ gWs := gWs_in (gT_1 (List.mem_of_getElem? (i := 3) rfl)) rfl
theorem mN_X6 : Cond.initialized RX6 ∈ gWs := gWs_in (gT_1 (List.mem_of_getElem? (i := 4) rfl)) rfl
theorem mN_X1 : Cond.initialized RX1 ∈ gWs := gWs_in (gT_1 (List.mem_of_getElem? (i := 5) rfl)) rfl
theorem mN_X8 : Cond.initialized RX8 ∈ gWs := gWs_in (gT_1 (List.mem_of_getElem? (i := 6) rfl)) rfl
theorem mN_X2 : Cond.initialized RX2 ∈ gWs := gWs_in (gT_1 (List.mem_of_getElem? (i := 7) rfl)) rfl
theorem mN_X7 : Cond.initialized RX7 ∈ gWs := gWs_in (gT_1 (List.mem_of_getElem? (i := 8) rfl)) rfl
theorem mN_X0 : Cond.initialized RX0 ∈ gWs := gWs_in (gT_1 (List.mem_of_getElem? (i := 9) rfl)) rfl
theorem mN_X9 : Cond.initialized RX9 ∈ gWs := gWs_in (gT_1 (List.mem_of_getElem? (i := 10) rfl)) rfl
theorem mN_X5 : Cond.initialized RX5 ∈ gWs := gWs_in (gT_1 (List.mem_of_getElem? (i := 11) rfl)) rfl
theorem mN_X11 : Cond.initialized RX11 ∈ gWs := gWs_in (gT_1 (List.mem_of_getElem? (i := 12) rfl)) rfl
theorem mN_J0 : Cond.initialized RJ0 ∈ gWs := gWs_in (gT_1 (List.mem_of_getElem? (i := 13) rfl)) rfl
theorem mN_J1 : Cond.initialized RJ1 ∈ gWs := gWs_in (gT_1 (List.mem_of_getElem? (i := 14) rfl)) rfl
theorem mN_J3 : Cond.initialized RJ3 ∈ gWs := gWs_in (gT_1 (List.mem_of_getElem? (i := 15) rfl)) rfl
theorem mN_J2 : Cond.initialized RJ2 ∈ gWs := gWs_in (gT_1 (List.mem_of_getElem? (i := 16) rfl)) rfl
theorem mN_J9 : Cond.initialized RJ9 ∈ gWs := gWs_in (gT_1 (List.mem_of_getElem? (i := 17) rfl)) rfl
theorem mN_J10 : Cond.initialized RJ10 ∈ gWs := gWs_in (gT_1 (List.mem_of_getElem? (i := 18) rfl)) rfl
theorem mN_J7 : Cond.initialized RJ7 ∈ gWs := gWs_in (gT_1 (List.mem_of_getElem? (i := 19) rfl)) rfl
theorem mN_J6 : Cond.initialized RJ6 ∈ gWs := gWs_in (gT_1 (List.mem_of_getElem? (i := 20) rfl)) rfl
theorem mK_L_7 : Cond.classLink RL 7 RX10 ∈ gWs := gWs_in (gT_1 (List.mem_of_getElem? (i := 21) rfl)) rfl
theorem mT_X10 : Cond.instantiable RX10 14 ∈ gWs := gWs_in (gT_1 (List.mem_of_getElem? (i := 22) rfl)) rfl
theorem mM_L_9 : Cond.methodLink RL 9 yX10_init ∈ gWs := gWs_in (gT_1 (List.mem_of_getElem? (i := 23) rfl)) rfl
theorem mI_X10_init : Cond.instanceMethod yX10_init ∈ gWs := gWs_in (gT_1 (List.mem_of_getElem? (i := 24) rfl)) rfl
theorem mC_X10_init : Cond.code yX10_init cX10_init 1 none ∈ gWs := gWs_in (gT_1 (List.mem_of_getElem? (i := 25) rfl)) rfl
theorem mM_X10_1 : Cond.methodLink RX10 1 objectInit ∈ gWs := gWs_in (gT_1 (List.mem_of_getElem? (i := 26) rfl)) rfl
theorem mI_objectInit : Cond.instanceMethod objectInit ∈ gWs := gWs_in (gT_1 (List.mem_of_getElem? (i := 27) rfl)) rfl
theorem mC_objectInit : Cond.code objectInit object_method_1_code 1 none ∈ gWs := gWs_in (gT_1 (List.mem_of_getElem? (i := 28) rfl)) rfl
theorem mK_X10_13 : Cond.classLink RX10 13 RX4 ∈ gWs := gWs_in (gT_1 (List.mem_of_getElem? (i := 29) rfl)) rfl
theorem mT_X4 : Cond.instantiable RX4 10 ∈ gWs := gWs_in (gT_1 (List.mem_of_getElem? (i := 30) rfl)) rfl
theorem mI_X4_init : Cond.instanceMethod yX4_init ∈ gWs := gWs_in (gT_1 (List.mem_of_getElem? (i := 32) rfl)) rfl
theorem mC_X4_init : Cond.code yX4_init cX4_init 1 none ∈ gWs := gWs_in (gT_1 (List.mem_of_getElem? (i := 33) rfl)) rfl
theorem mM_X4_3 : Cond.methodLink RX4 3 objectInit ∈ gWs := gWs_in (gT_1 (List.mem_of_getElem? (i := 34) rfl)) rfl
theorem mF_X4_31 : Cond.fieldLink RX4 31 "RouteWall$Laws" "rounds" "I" ∈ gWs := gWs_in (gT_1 (List.mem_of_getElem? (i := 35) rfl)) rfl
theorem mF_X10_117 : Cond.fieldLink RX10 117 "RouteWall$Laws" "rounds" "I" ∈ gWs := gWs_in (gT_1 (List.mem_of_getElem? (i := 36) rfl)) rfl
theorem mF_X3_100 : Cond.fieldLink RX3 100 "RouteWall$Laws" "rounds" "I" ∈ gWs := gWs_in (gT_1 (List.mem_of_getElem? (i := 37) rfl)) rfl
theorem mF_X4_9 : Cond.fieldLink RX4 9 "RouteWall$Laws" "shape" "[I" ∈ gWs := gWs_in (gT_1 (List.mem_of_getElem? (i := 38) rfl)) rfl
theorem mF_X3_113 : Cond.fieldLink RX3 113 "RouteWall$Laws" "shape" "[I" ∈ gWs := gWs_in (gT_1 (List.mem_of_getElem? (i := 39) rfl)) rfl
theorem mF_X4_15 : Cond.fieldLink RX4 15 "RouteWall$Laws" "item" "[I" ∈ gWs := gWs_in (gT_1 (List.mem_of_getElem? (i := 40) rfl)) rfl
theorem mF_X4_18 : Cond.fieldLink RX4 18 "RouteWall$Laws" "number" "[I" ∈ gWs := gWs_in (gT_1 (List.mem_of_getElem? (i := 41) rfl)) rfl
theorem mF_X1_15 : Cond.fieldLink RX1 15 "RouteWall$Laws" "items" "I" ∈ gWs := gWs_in (gT_1 (List.mem_of_getElem? (i := 42) rfl)) rfl
theorem mF_X4_35 : Cond.fieldLink RX4 35 "RouteWall$Laws" "items" "I" ∈ gWs := gWs_in (gT_1 (List.mem_of_getElem? (i := 43) rfl)) rfl
theorem mF_X4_21 : Cond.fieldLink RX4 21 "RouteWall$Laws" "keyKind" "[I" ∈ gWs := gWs_in (gT_1 (List.mem_of_getElem? (i := 44) rfl)) rfl
theorem mF_X5_151 : Cond.fieldLink RX5 151 "RouteWall$Laws" "keyKind" "[I" ∈ gWs := gWs_in (gT_1 (List.mem_of_getElem? (i := 45) rfl)) rfl
theorem mF_X4_24 : Cond.fieldLink RX4 24 "RouteWall$Laws" "keyDown" "[I" ∈ gWs := gWs_in (gT_1 (List.mem_of_getElem? (i := 46) rfl)) rfl
theorem mF_X5_189 : Cond.fieldLink RX5 189 "RouteWall$Laws" "keyDown" "[I" ∈ gWs := gWs_in (gT_1 (List.mem_of_getElem? (i := 47) rfl)) rfl
theorem mF_X4_42 : Cond.fieldLink RX4 42 "RouteWall$Laws" "keys" "I" ∈ gWs := gWs_in (gT_1 (List.mem_of_getElem? (i := 48) rfl)) rfl
theorem mF_X5_145 : Cond.fieldLink RX5 145 "RouteWall$Laws" "keys" "I" ∈ gWs := gWs_in (gT_1 (List.mem_of_getElem? (i := 49) rfl)) rfl
theorem mF_X3_116 : Cond.fieldLink RX3 116 "RouteWall$Laws" "keys" "I" ∈ gWs := gWs_in (gT_1 (List.mem_of_getElem? (i := 50) rfl)) rfl
theorem mF_X10_271 : Cond.fieldLink RX10 271 "RouteWall$Laws" "keys" "I" ∈ gWs := gWs_in (gT_1 (List.mem_of_getElem? (i := 51) rfl)) rfl
theorem mF_X4_49 : Cond.fieldLink RX4 49 "RouteWall$Laws" "back" "Z" ∈ gWs := gWs_in (gT_1 (List.mem_of_getElem? (i := 52) rfl)) rfl
theorem mF_X5_181 : Cond.fieldLink RX5 181 "RouteWall$Laws" "back" "Z" ∈ gWs := gWs_in (gT_1 (List.mem_of_getElem? (i := 53) rfl)) rfl
theorem mF_X3_126 : Cond.fieldLink RX3 126 "RouteWall$Laws" "back" "Z" ∈ gWs := gWs_in (gT_1 (List.mem_of_getElem? (i := 54) rfl)) rfl
theorem mF_X4_27 : Cond.fieldLink RX4 27 "RouteWall$Laws" "stack" "[J" ∈ gWs := gWs_in (gT_1 (List.mem_of_getElem? (i := 55) rfl)) rfl
theorem mA_int : Cond.arrayClass .int ∈ gWs := gWs_in (gT_1 (List.mem_of_getElem? (i := 77) rfl)) rfl
theorem mA_long : Cond.arrayClass .long ∈ gWs := gWs_in (gT_1 (List.mem_of_getElem? (i := 78) rfl)) rfl
theorem mK_X10_20 : Cond.classLink RX10 20 RX3 ∈ gWs := gWs_in (gT_1 (List.mem_of_getElem? (i := 79) rfl)) rfl
theorem mT_X3 : Cond.instantiable RX3 8 ∈ gWs := gWs_in (gT_1 (List.mem_of_getElem? (i := 80) rfl)) rfl
theorem mI_X3_init : Cond.instanceMethod yX3_init ∈ gWs := gWs_in (gT_1 (List.mem_of_getElem? (i := 82) rfl)) rfl
theorem mC_X3_init : Cond.code yX3_init cX3_init 1 none ∈ gWs := gWs_in (gT_1 (List.mem_of_getElem? (i := 83) rfl)) rfl
theorem mM_X3_3 : Cond.methodLink RX3 3 objectInit ∈ gWs := gWs_in (gT_1 (List.mem_of_getElem? (i := 84) rfl)) rfl
theorem mK_X3_9 : Cond.classLink RX3 9 RX6 ∈ gWs := gWs_in (gT_1 (List.mem_of_getElem? (i := 85) rfl)) rfl
theorem mT_X6 : Cond.instantiable RX6 5 ∈ gWs := gWs_in (gT_1 (List.mem_of_getElem? (i := 86) rfl)) rfl
theorem mI_X6_init : Cond.instanceMethod yX6_init ∈ gWs := gWs_in (gT_1 (List.mem_of_getElem? (i := 88) rfl)) rfl
theorem mC_X6_init : Cond.code yX6_init cX6_init 1 none ∈ gWs := gWs_in (gT_1 (List.mem_of_getElem? (i := 89) rfl)) rfl
theorem mM_X6_3 : Cond.methodLink RX6 3 objectInit ∈ gWs := gWs_in (gT_1 (List.mem_of_getElem? (i := 90) rfl)) rfl
theorem mF_X6_9 : Cond.fieldLink RX6 9 "RouteWall$Tokens" "kinds" "[I" ∈ gWs := gWs_in (gT_1 (List.mem_of_getElem? (i := 91) rfl)) rfl
theorem mF_X6_15 : Cond.fieldLink RX6 15 "RouteWall$Tokens" "places" "[I" ∈ gWs := gWs_in (gT_1 (List.mem_of_getElem? (i := 92) rfl)) rfl
theorem mF_X6_18 : Cond.fieldLink RX6 18 "RouteWall$Tokens" "values" "[I" ∈ gWs := gWs_in (gT_1 (List.mem_of_getElem? (i := 93) rfl)) rfl
theorem mF_X6_25 : Cond.fieldLink RX6 25 "RouteWall$Tokens" "many" "I" ∈ gWs := gWs_in (gT_1 (List.mem_of_getElem? (i := 94) rfl)) rfl
theorem mF_X6_21 : Cond.fieldLink RX6 21 "RouteWall$Tokens" "at" "I" ∈ gWs := gWs_in (gT_1 (List.mem_of_getElem? (i := 95) rfl)) rfl
theorem mK_X3_18 : Cond.classLink RX3 18 RX4 ∈ gWs := gWs_in (gT_1 (List.mem_of_getElem? (i := 107) rfl)) rfl
theorem mK_X3_25 : Cond.classLink RX3 25 RX1 ∈ gWs := gWs_in (gT_1 (List.mem_of_getElem? (i := 109) rfl)) rfl
theorem mT_X1 : Cond.instantiable RX1 6 ∈ gWs := gWs_in (gT_1 (List.mem_of_getElem? (i := 110) rfl)) rfl
theorem mI_X1_init : Cond.instanceMethod yX1_init ∈ gWs := gWs_in (gT_1 (List.mem_of_getElem? (i := 112) rfl)) rfl
theorem mC_X1_init : Cond.code yX1_init cX1_init 1 none ∈ gWs := gWs_in (gT_1 (List.mem_of_getElem? (i := 113) rfl)) rfl
theorem mM_X1_3 : Cond.methodLink RX1 3 objectInit ∈ gWs := gWs_in (gT_1 (List.mem_of_getElem? (i := 114) rfl)) rfl
theorem mF_X1_9 : Cond.fieldLink RX1 9 "RouteWall$Expression" "waiting" "[I" ∈ gWs := gWs_in (gT_1 (List.mem_of_getElem? (i := 115) rfl)) rfl
theorem mF_X1_21 : Cond.fieldLink RX1 21 "RouteWall$Expression" "waits" "I" ∈ gWs := gWs_in (gT_1 (List.mem_of_getElem? (i := 116) rfl)) rfl
theorem mF_X1_24 : Cond.fieldLink RX1 24 "RouteWall$Expression" "nested" "I" ∈ gWs := gWs_in (gT_1 (List.mem_of_getElem? (i := 117) rfl)) rfl
theorem mF_X1_27 : Cond.fieldLink RX1 27 "RouteWall$Expression" "parens" "I" ∈ gWs := gWs_in (gT_1 (List.mem_of_getElem? (i := 118) rfl)) rfl
theorem mF_X1_30 : Cond.fieldLink RX1 30 "RouteWall$Expression" "items" "I" ∈ gWs := gWs_in (gT_1 (List.mem_of_getElem? (i := 119) rfl)) rfl
theorem mF_X1_31 : Cond.fieldLink RX1 31 "RouteWall$Expression" "fault" "I" ∈ gWs := gWs_in (gT_1 (List.mem_of_getElem? (i := 120) rfl)) rfl
theorem mF_X3_12 : Cond.fieldLink RX3 12 "RouteWall$LawReader" "tokens" "LRouteWall$Tokens;" ∈ gWs := gWs_in (gT_1 (List.mem_of_getElem? (i := 134) rfl)) rfl
theorem mF_X3_21 : Cond.fieldLink RX3 21 "RouteWall$LawReader" "draft" "LRouteWall$Laws;" ∈ gWs := gWs_in (gT_1 (List.mem_of_getElem? (i := 135) rfl)) rfl
theorem mF_X10_100 : Cond.fieldLink RX10 100 "RouteWall$LawReader" "draft" "LRouteWall$Laws;" ∈ gWs := gWs_in (gT_1 (List.mem_of_getElem? (i := 136) rfl)) rfl
theorem mF_X3_28 : Cond.fieldLink RX3 28 "RouteWall$LawReader" "expression" "LRouteWall$Expression;" ∈ gWs := gWs_in (gT_1 (List.mem_of_getElem? (i := 137) rfl)) rfl
theorem mF_X3_32 : Cond.fieldLink RX3 32 "RouteWall$LawReader" "fault" "I" ∈ gWs := gWs_in (gT_1 (List.mem_of_getElem? (i := 138) rfl)) rfl
theorem mF_X10_96 : Cond.fieldLink RX10 96 "RouteWall$LawReader" "fault" "I" ∈ gWs := gWs_in (gT_1 (List.mem_of_getElem? (i := 139) rfl)) rfl
theorem mF_X3_36 : Cond.fieldLink RX3 36 "RouteWall$LawReader" "faultPlace" "I" ∈ gWs := gWs_in (gT_1 (List.mem_of_getElem? (i := 140) rfl)) rfl
theorem mF_X10_99 : Cond.fieldLink RX10 99 "RouteWall$LawReader" "faultPlace" "I" ∈ gWs := gWs_in (gT_1 (List.mem_of_getElem? (i := 141) rfl)) rfl
theorem mF_X3_39 : Cond.fieldLink RX3 39 "RouteWall$LawReader" "pointsTold" "Z" ∈ gWs := gWs_in (gT_1 (List.mem_of_getElem? (i := 142) rfl)) rfl
theorem mF_X3_43 : Cond.fieldLink RX3 43 "RouteWall$LawReader" "keysTold" "Z" ∈ gWs := gWs_in (gT_1 (List.mem_of_getElem? (i := 143) rfl)) rfl
theorem mF_X3_46 : Cond.fieldLink RX3 46 "RouteWall$LawReader" "tiesTold" "Z" ∈ gWs := gWs_in (gT_1 (List.mem_of_getElem? (i := 144) rfl)) rfl
theorem mK_X10_27 : Cond.classLink RX10 27 RX8 ∈ gWs := gWs_in (gT_1 (List.mem_of_getElem? (i := 162) rfl)) rfl
theorem mT_X8 : Cond.instantiable RX8 3 ∈ gWs := gWs_in (gT_1 (List.mem_of_getElem? (i := 163) rfl)) rfl
theorem mI_X8_init : Cond.instanceMethod yX8_init ∈ gWs := gWs_in (gT_1 (List.mem_of_getElem? (i := 165) rfl)) rfl
theorem mC_X8_init : Cond.code yX8_init cX8_init 1 none ∈ gWs := gWs_in (gT_1 (List.mem_of_getElem? (i := 166) rfl)) rfl
theorem mM_X8_3 : Cond.methodLink RX8 3 objectInit ∈ gWs := gWs_in (gT_1 (List.mem_of_getElem? (i := 167) rfl)) rfl
theorem mF_X8_9 : Cond.fieldLink RX8 9 "RouteWall$Wall" "holds" "[I" ∈ gWs := gWs_in (gT_1 (List.mem_of_getElem? (i := 168) rfl)) rfl
theorem mF_X8_15 : Cond.fieldLink RX8 15 "RouteWall$Wall" "begun" "[I" ∈ gWs := gWs_in (gT_1 (List.mem_of_getElem? (i := 169) rfl)) rfl
theorem mF_X8_18 : Cond.fieldLink RX8 18 "RouteWall$Wall" "zones" "[I" ∈ gWs := gWs_in (gT_1 (List.mem_of_getElem? (i := 170) rfl)) rfl
theorem mK_X10_34 : Cond.classLink RX10 34 RX2 ∈ gWs := gWs_in (gT_1 (List.mem_of_getElem? (i := 178) rfl)) rfl
theorem mT_X2 : Cond.instantiable RX2 4 ∈ gWs := gWs_in (gT_1 (List.mem_of_getElem? (i := 179) rfl)) rfl
theorem mI_X2_init : Cond.instanceMethod yX2_init ∈ gWs := gWs_in (gT_1 (List.mem_of_getElem? (i := 181) rfl)) rfl
theorem mC_X2_init : Cond.code yX2_init cX2_init 1 none ∈ gWs := gWs_in (gT_1 (List.mem_of_getElem? (i := 182) rfl)) rfl
theorem mM_X2_3 : Cond.methodLink RX2 3 objectInit ∈ gWs := gWs_in (gT_1 (List.mem_of_getElem? (i := 183) rfl)) rfl
theorem mF_X2_18 : Cond.fieldLink RX2 18 "RouteWall$Field" "climbers" "I" ∈ gWs := gWs_in (gT_1 (List.mem_of_getElem? (i := 184) rfl)) rfl
theorem mF_X10_123 : Cond.fieldLink RX10 123 "RouteWall$Field" "climbers" "I" ∈ gWs := gWs_in (gT_1 (List.mem_of_getElem? (i := 185) rfl)) rfl
theorem mF_X5_157 : Cond.fieldLink RX5 157 "RouteWall$Field" "climbers" "I" ∈ gWs := gWs_in (gT_1 (List.mem_of_getElem? (i := 186) rfl)) rfl
theorem mF_X2_22 : Cond.fieldLink RX2 22 "RouteWall$Field" "open" "I" ∈ gWs := gWs_in (gT_1 (List.mem_of_getElem? (i := 187) rfl)) rfl
theorem mF_X10_129 : Cond.fieldLink RX10 129 "RouteWall$Field" "open" "I" ∈ gWs := gWs_in (gT_1 (List.mem_of_getElem? (i := 188) rfl)) rfl
theorem mF_X2_9 : Cond.fieldLink RX2 9 "RouteWall$Field" "latest" "[I" ∈ gWs := gWs_in (gT_1 (List.mem_of_getElem? (i := 189) rfl)) rfl
theorem mF_X2_15 : Cond.fieldLink RX2 15 "RouteWall$Field" "cutDay" "[I" ∈ gWs := gWs_in (gT_1 (List.mem_of_getElem? (i := 190) rfl)) rfl
theorem mK_X10_41 : Cond.classLink RX10 41 RX7 ∈ gWs := gWs_in (gT_1 (List.mem_of_getElem? (i := 200) rfl)) rfl
theorem mT_X7 : Cond.instantiable RX7 9 ∈ gWs := gWs_in (gT_1 (List.mem_of_getElem? (i := 201) rfl)) rfl
theorem mI_X7_init : Cond.instanceMethod yX7_init ∈ gWs := gWs_in (gT_1 (List.mem_of_getElem? (i := 203) rfl)) rfl
theorem mC_X7_init : Cond.code yX7_init cX7_init 1 none ∈ gWs := gWs_in (gT_1 (List.mem_of_getElem? (i := 204) rfl)) rfl
theorem mM_X7_3 : Cond.methodLink RX7 3 objectInit ∈ gWs := gWs_in (gT_1 (List.mem_of_getElem? (i := 205) rfl)) rfl
theorem mF_X7_36 : Cond.fieldLink RX7 36 "RouteWall$Tries" "many" "I" ∈ gWs := gWs_in (gT_1 (List.mem_of_getElem? (i := 206) rfl)) rfl
theorem mF_X5_73 : Cond.fieldLink RX5 73 "RouteWall$Tries" "many" "I" ∈ gWs := gWs_in (gT_1 (List.mem_of_getElem? (i := 207) rfl)) rfl
theorem mF_X10_126 : Cond.fieldLink RX10 126 "RouteWall$Tries" "many" "I" ∈ gWs := gWs_in (gT_1 (List.mem_of_getElem? (i := 208) rfl)) rfl
theorem mF_X9_31 : Cond.fieldLink RX9 31 "RouteWall$Tries" "many" "I" ∈ gWs := gWs_in (gT_1 (List.mem_of_getElem? (i := 209) rfl)) rfl
theorem mF_X7_9 : Cond.fieldLink RX7 9 "RouteWall$Tries" "climber" "[I" ∈ gWs := gWs_in (gT_1 (List.mem_of_getElem? (i := 210) rfl)) rfl
theorem mF_X5_85 : Cond.fieldLink RX5 85 "RouteWall$Tries" "climber" "[I" ∈ gWs := gWs_in (gT_1 (List.mem_of_getElem? (i := 211) rfl)) rfl
theorem mF_X9_43 : Cond.fieldLink RX9 43 "RouteWall$Tries" "climber" "[I" ∈ gWs := gWs_in (gT_1 (List.mem_of_getElem? (i := 212) rfl)) rfl
theorem mF_X10_225 : Cond.fieldLink RX10 225 "RouteWall$Tries" "climber" "[I" ∈ gWs := gWs_in (gT_1 (List.mem_of_getElem? (i := 213) rfl)) rfl
theorem mF_X7_15 : Cond.fieldLink RX7 15 "RouteWall$Tries" "round" "[I" ∈ gWs := gWs_in (gT_1 (List.mem_of_getElem? (i := 214) rfl)) rfl
theorem mF_X5_82 : Cond.fieldLink RX5 82 "RouteWall$Tries" "round" "[I" ∈ gWs := gWs_in (gT_1 (List.mem_of_getElem? (i := 215) rfl)) rfl
theorem mF_X9_37 : Cond.fieldLink RX9 37 "RouteWall$Tries" "round" "[I" ∈ gWs := gWs_in (gT_1 (List.mem_of_getElem? (i := 216) rfl)) rfl
theorem mF_X10_200 : Cond.fieldLink RX10 200 "RouteWall$Tries" "round" "[I" ∈ gWs := gWs_in (gT_1 (List.mem_of_getElem? (i := 217) rfl)) rfl
theorem mF_X7_18 : Cond.fieldLink RX7 18 "RouteWall$Tries" "route" "[I" ∈ gWs := gWs_in (gT_1 (List.mem_of_getElem? (i := 218) rfl)) rfl
theorem mF_X5_88 : Cond.fieldLink RX5 88 "RouteWall$Tries" "route" "[I" ∈ gWs := gWs_in (gT_1 (List.mem_of_getElem? (i := 219) rfl)) rfl
theorem mF_X9_40 : Cond.fieldLink RX9 40 "RouteWall$Tries" "route" "[I" ∈ gWs := gWs_in (gT_1 (List.mem_of_getElem? (i := 220) rfl)) rfl
theorem mF_X10_203 : Cond.fieldLink RX10 203 "RouteWall$Tries" "route" "[I" ∈ gWs := gWs_in (gT_1 (List.mem_of_getElem? (i := 221) rfl)) rfl
theorem mF_X7_21 : Cond.fieldLink RX7 21 "RouteWall$Tries" "begun" "[I" ∈ gWs := gWs_in (gT_1 (List.mem_of_getElem? (i := 222) rfl)) rfl
theorem mF_X5_120 : Cond.fieldLink RX5 120 "RouteWall$Tries" "begun" "[I" ∈ gWs := gWs_in (gT_1 (List.mem_of_getElem? (i := 223) rfl)) rfl
theorem mF_X9_46 : Cond.fieldLink RX9 46 "RouteWall$Tries" "begun" "[I" ∈ gWs := gWs_in (gT_1 (List.mem_of_getElem? (i := 224) rfl)) rfl
theorem mF_X10_228 : Cond.fieldLink RX10 228 "RouteWall$Tries" "begun" "[I" ∈ gWs := gWs_in (gT_1 (List.mem_of_getElem? (i := 225) rfl)) rfl
theorem mF_X7_24 : Cond.fieldLink RX7 24 "RouteWall$Tries" "ended" "[I" ∈ gWs := gWs_in (gT_1 (List.mem_of_getElem? (i := 226) rfl)) rfl
theorem mF_X5_117 : Cond.fieldLink RX5 117 "RouteWall$Tries" "ended" "[I" ∈ gWs := gWs_in (gT_1 (List.mem_of_getElem? (i := 227) rfl)) rfl
theorem mF_X9_49 : Cond.fieldLink RX9 49 "RouteWall$Tries" "ended" "[I" ∈ gWs := gWs_in (gT_1 (List.mem_of_getElem? (i := 228) rfl)) rfl
theorem mF_X10_231 : Cond.fieldLink RX10 231 "RouteWall$Tries" "ended" "[I" ∈ gWs := gWs_in (gT_1 (List.mem_of_getElem? (i := 229) rfl)) rfl
theorem mF_X7_27 : Cond.fieldLink RX7 27 "RouteWall$Tries" "hold" "[I" ∈ gWs := gWs_in (gT_1 (List.mem_of_getElem? (i := 230) rfl)) rfl
theorem mF_X5_95 : Cond.fieldLink RX5 95 "RouteWall$Tries" "hold" "[I" ∈ gWs := gWs_in (gT_1 (List.mem_of_getElem? (i := 231) rfl)) rfl
theorem mF_X10_206 : Cond.fieldLink RX10 206 "RouteWall$Tries" "hold" "[I" ∈ gWs := gWs_in (gT_1 (List.mem_of_getElem? (i := 232) rfl)) rfl
theorem mF_X7_30 : Cond.fieldLink RX7 30 "RouteWall$Tries" "how" "[I" ∈ gWs := gWs_in (gT_1 (List.mem_of_getElem? (i := 233) rfl)) rfl
theorem mF_X5_79 : Cond.fieldLink RX5 79 "RouteWall$Tries" "how" "[I" ∈ gWs := gWs_in (gT_1 (List.mem_of_getElem? (i := 234) rfl)) rfl
theorem mF_X10_234 : Cond.fieldLink RX10 234 "RouteWall$Tries" "how" "[I" ∈ gWs := gWs_in (gT_1 (List.mem_of_getElem? (i := 235) rfl)) rfl
theorem mF_X7_33 : Cond.fieldLink RX7 33 "RouteWall$Tries" "openNext" "[I" ∈ gWs := gWs_in (gT_1 (List.mem_of_getElem? (i := 236) rfl)) rfl
theorem mK_X10_48 : Cond.classLink RX10 48 RX0 ∈ gWs := gWs_in (gT_2 (List.mem_of_getElem? (i := 16) rfl)) rfl
theorem mT_X0 : Cond.instantiable RX0 4 ∈ gWs := gWs_in (gT_2 (List.mem_of_getElem? (i := 17) rfl)) rfl
theorem mI_X0_init : Cond.instanceMethod yX0_init ∈ gWs := gWs_in (gT_2 (List.mem_of_getElem? (i := 19) rfl)) rfl
theorem mC_X0_init : Cond.code yX0_init cX0_init 1 none ∈ gWs := gWs_in (gT_2 (List.mem_of_getElem? (i := 20) rfl)) rfl
theorem mM_X0_3 : Cond.methodLink RX0 3 objectInit ∈ gWs := gWs_in (gT_2 (List.mem_of_getElem? (i := 21) rfl)) rfl
theorem mF_X0_21 : Cond.fieldLink RX0 21 "RouteWall$Appeals" "many" "I" ∈ gWs := gWs_in (gT_2 (List.mem_of_getElem? (i := 22) rfl)) rfl
theorem mF_X5_98 : Cond.fieldLink RX5 98 "RouteWall$Appeals" "many" "I" ∈ gWs := gWs_in (gT_2 (List.mem_of_getElem? (i := 23) rfl)) rfl
theorem mF_X10_251 : Cond.fieldLink RX10 251 "RouteWall$Appeals" "many" "I" ∈ gWs := gWs_in (gT_2 (List.mem_of_getElem? (i := 24) rfl)) rfl
theorem mF_X0_9 : Cond.fieldLink RX0 9 "RouteWall$Appeals" "number" "[I" ∈ gWs := gWs_in (gT_2 (List.mem_of_getElem? (i := 25) rfl)) rfl
theorem mF_X5_101 : Cond.fieldLink RX5 101 "RouteWall$Appeals" "number" "[I" ∈ gWs := gWs_in (gT_2 (List.mem_of_getElem? (i := 26) rfl)) rfl
theorem mF_X0_15 : Cond.fieldLink RX0 15 "RouteWall$Appeals" "hold" "[I" ∈ gWs := gWs_in (gT_2 (List.mem_of_getElem? (i := 27) rfl)) rfl
theorem mF_X5_107 : Cond.fieldLink RX5 107 "RouteWall$Appeals" "hold" "[I" ∈ gWs := gWs_in (gT_2 (List.mem_of_getElem? (i := 28) rfl)) rfl
theorem mF_X0_18 : Cond.fieldLink RX0 18 "RouteWall$Appeals" "day" "[I" ∈ gWs := gWs_in (gT_2 (List.mem_of_getElem? (i := 29) rfl)) rfl
theorem mF_X5_104 : Cond.fieldLink RX5 104 "RouteWall$Appeals" "day" "[I" ∈ gWs := gWs_in (gT_2 (List.mem_of_getElem? (i := 30) rfl)) rfl
theorem mK_X10_55 : Cond.classLink RX10 55 RX9 ∈ gWs := gWs_in (gT_2 (List.mem_of_getElem? (i := 40) rfl)) rfl
theorem mT_X9 : Cond.instantiable RX9 3 ∈ gWs := gWs_in (gT_2 (List.mem_of_getElem? (i := 41) rfl)) rfl
theorem mI_X9_init : Cond.instanceMethod yX9_init ∈ gWs := gWs_in (gT_2 (List.mem_of_getElem? (i := 43) rfl)) rfl
theorem mC_X9_init : Cond.code yX9_init cX9_init 1 none ∈ gWs := gWs_in (gT_2 (List.mem_of_getElem? (i := 44) rfl)) rfl
theorem mM_X9_3 : Cond.methodLink RX9 3 objectInit ∈ gWs := gWs_in (gT_2 (List.mem_of_getElem? (i := 45) rfl)) rfl
theorem mF_X9_9 : Cond.fieldLink RX9 9 "RouteWall$Watch" "times" "[I" ∈ gWs := gWs_in (gT_2 (List.mem_of_getElem? (i := 46) rfl)) rfl
theorem mF_X10_218 : Cond.fieldLink RX10 218 "RouteWall$Watch" "times" "[I" ∈ gWs := gWs_in (gT_2 (List.mem_of_getElem? (i := 47) rfl)) rfl
theorem mF_X9_15 : Cond.fieldLink RX9 15 "RouteWall$Watch" "wentOut" "[I" ∈ gWs := gWs_in (gT_2 (List.mem_of_getElem? (i := 48) rfl)) rfl
theorem mF_X9_18 : Cond.fieldLink RX9 18 "RouteWall$Watch" "cameIn" "[I" ∈ gWs := gWs_in (gT_2 (List.mem_of_getElem? (i := 49) rfl)) rfl
theorem mK_X10_62 : Cond.classLink RX10 62 RX5 ∈ gWs := gWs_in (gT_2 (List.mem_of_getElem? (i := 57) rfl)) rfl
theorem mT_X5 : Cond.instantiable RX5 15 ∈ gWs := gWs_in (gT_2 (List.mem_of_getElem? (i := 58) rfl)) rfl
theorem mM_X10_64 : Cond.methodLink RX10 64 yX5_init ∈ gWs := gWs_in (gT_2 (List.mem_of_getElem? (i := 59) rfl)) rfl
theorem mI_X5_init : Cond.instanceMethod yX5_init ∈ gWs := gWs_in (gT_2 (List.mem_of_getElem? (i := 60) rfl)) rfl
theorem mC_X5_init : Cond.code yX5_init cX5_init 6 none ∈ gWs := gWs_in (gT_2 (List.mem_of_getElem? (i := 61) rfl)) rfl
theorem mM_X5_3 : Cond.methodLink RX5 3 objectInit ∈ gWs := gWs_in (gT_2 (List.mem_of_getElem? (i := 62) rfl)) rfl
theorem mF_X5_43 : Cond.fieldLink RX5 43 "RouteWall$Results" "laws" "LRouteWall$Laws;" ∈ gWs := gWs_in (gT_2 (List.mem_of_getElem? (i := 63) rfl)) rfl
theorem mF_X5_47 : Cond.fieldLink RX5 47 "RouteWall$Results" "wall" "LRouteWall$Wall;" ∈ gWs := gWs_in (gT_2 (List.mem_of_getElem? (i := 64) rfl)) rfl
theorem mF_X5_51 : Cond.fieldLink RX5 51 "RouteWall$Results" "field" "LRouteWall$Field;" ∈ gWs := gWs_in (gT_2 (List.mem_of_getElem? (i := 65) rfl)) rfl
theorem mF_X5_55 : Cond.fieldLink RX5 55 "RouteWall$Results" "tries" "LRouteWall$Tries;" ∈ gWs := gWs_in (gT_2 (List.mem_of_getElem? (i := 66) rfl)) rfl
theorem mF_X5_59 : Cond.fieldLink RX5 59 "RouteWall$Results" "appeals" "LRouteWall$Appeals;" ∈ gWs := gWs_in (gT_2 (List.mem_of_getElem? (i := 67) rfl)) rfl
theorem mF_X5_9 : Cond.fieldLink RX5 9 "RouteWall$Results" "known" "[I" ∈ gWs := gWs_in (gT_2 (List.mem_of_getElem? (i := 68) rfl)) rfl
theorem mF_X5_15 : Cond.fieldLink RX5 15 "RouteWall$Results" "knownDay" "[I" ∈ gWs := gWs_in (gT_2 (List.mem_of_getElem? (i := 69) rfl)) rfl
theorem mF_X5_18 : Cond.fieldLink RX5 18 "RouteWall$Results" "counted" "[I" ∈ gWs := gWs_in (gT_2 (List.mem_of_getElem? (i := 70) rfl)) rfl
theorem mF_X5_21 : Cond.fieldLink RX5 21 "RouteWall$Results" "best" "[I" ∈ gWs := gWs_in (gT_2 (List.mem_of_getElem? (i := 71) rfl)) rfl
theorem mF_X5_24 : Cond.fieldLink RX5 24 "RouteWall$Results" "bestNumber" "[I" ∈ gWs := gWs_in (gT_2 (List.mem_of_getElem? (i := 72) rfl)) rfl
theorem mF_X5_27 : Cond.fieldLink RX5 27 "RouteWall$Results" "facts" "[I" ∈ gWs := gWs_in (gT_2 (List.mem_of_getElem? (i := 73) rfl)) rfl
theorem mF_X10_261 : Cond.fieldLink RX10 261 "RouteWall$Results" "facts" "[I" ∈ gWs := gWs_in (gT_2 (List.mem_of_getElem? (i := 74) rfl)) rfl
theorem mF_X5_30 : Cond.fieldLink RX5 30 "RouteWall$Results" "points" "[I" ∈ gWs := gWs_in (gT_2 (List.mem_of_getElem? (i := 75) rfl)) rfl
theorem mF_X5_33 : Cond.fieldLink RX5 33 "RouteWall$Results" "totals" "[J" ∈ gWs := gWs_in (gT_2 (List.mem_of_getElem? (i := 76) rfl)) rfl
theorem mF_X5_37 : Cond.fieldLink RX5 37 "RouteWall$Results" "keyRows" "[J" ∈ gWs := gWs_in (gT_2 (List.mem_of_getElem? (i := 77) rfl)) rfl
theorem mF_X5_40 : Cond.fieldLink RX5 40 "RouteWall$Results" "ranks" "[I" ∈ gWs := gWs_in (gT_2 (List.mem_of_getElem? (i := 78) rfl)) rfl
theorem mF_X10_284 : Cond.fieldLink RX10 284 "RouteWall$Results" "ranks" "[I" ∈ gWs := gWs_in (gT_2 (List.mem_of_getElem? (i := 79) rfl)) rfl
theorem mF_X10_9 : Cond.fieldLink RX10 9 "RouteWall" "tape" "[I" ∈ gWs := gWs_in (gT_2 (List.mem_of_getElem? (i := 111) rfl)) rfl
theorem mF_X10_81 : Cond.fieldLink RX10 81 "RouteWall" "taped" "I" ∈ gWs := gWs_in (gT_2 (List.mem_of_getElem? (i := 112) rfl)) rfl
theorem mF_X10_16 : Cond.fieldLink RX10 16 "RouteWall" "laws" "LRouteWall$Laws;" ∈ gWs := gWs_in (gT_2 (List.mem_of_getElem? (i := 113) rfl)) rfl
theorem mF_X10_23 : Cond.fieldLink RX10 23 "RouteWall" "reader" "LRouteWall$LawReader;" ∈ gWs := gWs_in (gT_2 (List.mem_of_getElem? (i := 114) rfl)) rfl
theorem mF_X10_30 : Cond.fieldLink RX10 30 "RouteWall" "wall" "LRouteWall$Wall;" ∈ gWs := gWs_in (gT_2 (List.mem_of_getElem? (i := 115) rfl)) rfl
theorem mF_X10_37 : Cond.fieldLink RX10 37 "RouteWall" "field" "LRouteWall$Field;" ∈ gWs := gWs_in (gT_2 (List.mem_of_getElem? (i := 116) rfl)) rfl
theorem mF_X10_44 : Cond.fieldLink RX10 44 "RouteWall" "tries" "LRouteWall$Tries;" ∈ gWs := gWs_in (gT_2 (List.mem_of_getElem? (i := 117) rfl)) rfl
theorem mF_X10_51 : Cond.fieldLink RX10 51 "RouteWall" "appeals" "LRouteWall$Appeals;" ∈ gWs := gWs_in (gT_2 (List.mem_of_getElem? (i := 118) rfl)) rfl
theorem mF_X10_58 : Cond.fieldLink RX10 58 "RouteWall" "watch" "LRouteWall$Watch;" ∈ gWs := gWs_in (gT_2 (List.mem_of_getElem? (i := 119) rfl)) rfl
theorem mF_X10_67 : Cond.fieldLink RX10 67 "RouteWall" "results" "LRouteWall$Results;" ∈ gWs := gWs_in (gT_2 (List.mem_of_getElem? (i := 120) rfl)) rfl
theorem mF_X10_71 : Cond.fieldLink RX10 71 "RouteWall" "state" "I" ∈ gWs := gWs_in (gT_2 (List.mem_of_getElem? (i := 121) rfl)) rfl
theorem mF_X10_114 : Cond.fieldLink RX10 114 "RouteWall" "time" "I" ∈ gWs := gWs_in (gT_2 (List.mem_of_getElem? (i := 122) rfl)) rfl
theorem mF_X10_75 : Cond.fieldLink RX10 75 "RouteWall" "faultKind" "I" ∈ gWs := gWs_in (gT_2 (List.mem_of_getElem? (i := 123) rfl)) rfl
theorem mF_X10_78 : Cond.fieldLink RX10 78 "RouteWall" "faultPlace" "I" ∈ gWs := gWs_in (gT_2 (List.mem_of_getElem? (i := 124) rfl)) rfl
theorem mM_L_13 : Cond.methodLink RL 13 yX10_status ∈ gWs := gWs_in (gT_2 (List.mem_of_getElem? (i := 154) rfl)) rfl
theorem mI_X10_status : Cond.instanceMethod yX10_status ∈ gWs := gWs_in (gT_2 (List.mem_of_getElem? (i := 155) rfl)) rfl
theorem mE_X10_status : Cond.selects RX10 yX10_status yX10_status ∈ gWs := gWs_in (gT_2 (List.mem_of_getElem? (i := 156) rfl)) rfl
theorem mC_X10_status : Cond.code yX10_status cX10_status 1 (some .int) ∈ gWs := gWs_in (gT_2 (List.mem_of_getElem? (i := 157) rfl)) rfl
theorem mM_L_18 : Cond.methodLink RL 18 yX10_feed ∈ gWs := gWs_in (gT_2 (List.mem_of_getElem? (i := 158) rfl)) rfl
theorem mI_X10_feed : Cond.instanceMethod yX10_feed ∈ gWs := gWs_in (gT_2 (List.mem_of_getElem? (i := 159) rfl)) rfl
theorem mE_X10_feed : Cond.selects RX10 yX10_feed yX10_feed ∈ gWs := gWs_in (gT_2 (List.mem_of_getElem? (i := 160) rfl)) rfl
theorem mC_X10_feed : Cond.code yX10_feed cX10_feed 6 (some .int) ∈ gWs := gWs_in (gT_2 (List.mem_of_getElem? (i := 161) rfl)) rfl
theorem mM_X10_84 : Cond.methodLink RX10 84 yX10_putOnTape ∈ gWs := gWs_in (gT_2 (List.mem_of_getElem? (i := 162) rfl)) rfl
theorem mI_X10_putOnTape : Cond.instanceMethod yX10_putOnTape ∈ gWs := gWs_in (gT_2 (List.mem_of_getElem? (i := 164) rfl)) rfl
theorem mC_X10_putOnTape : Cond.code yX10_putOnTape cX10_putOnTape 3 none ∈ gWs := gWs_in (gT_2 (List.mem_of_getElem? (i := 165) rfl)) rfl
theorem mM_L_23 : Cond.methodLink RL 23 yX10_load ∈ gWs := gWs_in (gT_2 (List.mem_of_getElem? (i := 166) rfl)) rfl
theorem mI_X10_load : Cond.instanceMethod yX10_load ∈ gWs := gWs_in (gT_2 (List.mem_of_getElem? (i := 167) rfl)) rfl
theorem mE_X10_load : Cond.selects RX10 yX10_load yX10_load ∈ gWs := gWs_in (gT_2 (List.mem_of_getElem? (i := 168) rfl)) rfl
theorem mC_X10_load : Cond.code yX10_load cX10_load 2 (some .int) ∈ gWs := gWs_in (gT_2 (List.mem_of_getElem? (i := 169) rfl)) rfl
theorem mM_X10_88 : Cond.methodLink RX10 88 yX10_refuse ∈ gWs := gWs_in (gT_2 (List.mem_of_getElem? (i := 170) rfl)) rfl
theorem mI_X10_refuse : Cond.instanceMethod yX10_refuse ∈ gWs := gWs_in (gT_2 (List.mem_of_getElem? (i := 172) rfl)) rfl
theorem mC_X10_refuse : Cond.code yX10_refuse cX10_refuse 2 (some .int) ∈ gWs := gWs_in (gT_2 (List.mem_of_getElem? (i := 173) rfl)) rfl
theorem mM_X10_92 : Cond.methodLink RX10 92 yX3_read ∈ gWs := gWs_in (gT_2 (List.mem_of_getElem? (i := 174) rfl)) rfl
theorem mI_X3_read : Cond.instanceMethod yX3_read ∈ gWs := gWs_in (gT_2 (List.mem_of_getElem? (i := 175) rfl)) rfl
theorem mE_X3_read : Cond.selects RX3 yX3_read yX3_read ∈ gWs := gWs_in (gT_2 (List.mem_of_getElem? (i := 176) rfl)) rfl
theorem mC_X3_read : Cond.code yX3_read cX3_read 4 none ∈ gWs := gWs_in (gT_2 (List.mem_of_getElem? (i := 177) rfl)) rfl
theorem mM_X3_49 : Cond.methodLink RX3 49 yX4_setUntold ∈ gWs := gWs_in (gT_2 (List.mem_of_getElem? (i := 178) rfl)) rfl
theorem mI_X4_setUntold : Cond.instanceMethod yX4_setUntold ∈ gWs := gWs_in (gT_2 (List.mem_of_getElem? (i := 179) rfl)) rfl
theorem mE_X4_setUntold : Cond.selects RX4 yX4_setUntold yX4_setUntold ∈ gWs := gWs_in (gT_2 (List.mem_of_getElem? (i := 180) rfl)) rfl
theorem mC_X4_setUntold : Cond.code yX4_setUntold cX4_setUntold 1 none ∈ gWs := gWs_in (gT_2 (List.mem_of_getElem? (i := 181) rfl)) rfl
theorem mM_X4_38 : Cond.methodLink RX4 38 yX4_addItem ∈ gWs := gWs_in (gT_2 (List.mem_of_getElem? (i := 182) rfl)) rfl
theorem mI_X4_addItem : Cond.instanceMethod yX4_addItem ∈ gWs := gWs_in (gT_2 (List.mem_of_getElem? (i := 183) rfl)) rfl
theorem mE_X4_addItem : Cond.selects RX4 yX4_addItem yX4_addItem ∈ gWs := gWs_in (gT_2 (List.mem_of_getElem? (i := 184) rfl)) rfl
theorem mC_X4_addItem : Cond.code yX4_addItem cX4_addItem 3 none ∈ gWs := gWs_in (gT_2 (List.mem_of_getElem? (i := 185) rfl)) rfl
theorem mM_X4_45 : Cond.methodLink RX4 45 yX4_addKey ∈ gWs := gWs_in (gT_2 (List.mem_of_getElem? (i := 186) rfl)) rfl
theorem mI_X4_addKey : Cond.instanceMethod yX4_addKey ∈ gWs := gWs_in (gT_2 (List.mem_of_getElem? (i := 187) rfl)) rfl
theorem mE_X4_addKey : Cond.selects RX4 yX4_addKey yX4_addKey ∈ gWs := gWs_in (gT_2 (List.mem_of_getElem? (i := 188) rfl)) rfl
theorem mC_X4_addKey : Cond.code yX4_addKey cX4_addKey 3 none ∈ gWs := gWs_in (gT_2 (List.mem_of_getElem? (i := 189) rfl)) rfl
theorem mM_X3_52 : Cond.methodLink RX3 52 yX6_split ∈ gWs := gWs_in (gT_2 (List.mem_of_getElem? (i := 190) rfl)) rfl
theorem mI_X6_split : Cond.instanceMethod yX6_split ∈ gWs := gWs_in (gT_2 (List.mem_of_getElem? (i := 191) rfl)) rfl
theorem mE_X6_split : Cond.selects RX6 yX6_split yX6_split ∈ gWs := gWs_in (gT_2 (List.mem_of_getElem? (i := 192) rfl)) rfl
theorem mC_X6_split : Cond.code yX6_split cX6_split 6 none ∈ gWs := gWs_in (gT_2 (List.mem_of_getElem? (i := 193) rfl)) rfl
theorem mM_X6_28 : Cond.methodLink RX6 28 yX6_isLetter ∈ gWs := gWs_in (gT_2 (List.mem_of_getElem? (i := 194) rfl)) rfl
theorem mS_X6_isLetter : Cond.static yX6_isLetter ∈ gWs := gWs_in (gT_2 (List.mem_of_getElem? (i := 195) rfl)) rfl
theorem mC_X6_isLetter : Cond.code yX6_isLetter cX6_isLetter 1 (some .boolean) ∈ gWs := gWs_in (gT_2 (List.mem_of_getElem? (i := 196) rfl)) rfl
theorem mM_X6_32 : Cond.methodLink RX6 32 yX6_putWord ∈ gWs := gWs_in (gT_2 (List.mem_of_getElem? (i := 197) rfl)) rfl
theorem mI_X6_putWord : Cond.instanceMethod yX6_putWord ∈ gWs := gWs_in (gT_2 (List.mem_of_getElem? (i := 199) rfl)) rfl
theorem mC_X6_putWord : Cond.code yX6_putWord cX6_putWord 5 (some .int) ∈ gWs := gWs_in (gT_2 (List.mem_of_getElem? (i := 200) rfl)) rfl
theorem mM_X6_49 : Cond.methodLink RX6 49 yX6_wordKind ∈ gWs := gWs_in (gT_2 (List.mem_of_getElem? (i := 201) rfl)) rfl
theorem mS_X6_wordKind : Cond.static yX6_wordKind ∈ gWs := gWs_in (gT_2 (List.mem_of_getElem? (i := 202) rfl)) rfl
theorem mC_X6_wordKind : Cond.code yX6_wordKind cX6_wordKind 8 (some .int) ∈ gWs := gWs_in (gT_2 (List.mem_of_getElem? (i := 203) rfl)) rfl
theorem mM_X6_54 : Cond.methodLink RX6 54 yJ0_length_8abf5 ∈ gWs := gWs_in (gT_2 (List.mem_of_getElem? (i := 205) rfl)) rfl
theorem mI_J0_length_8abf5 : Cond.instanceMethod yJ0_length_8abf5 ∈ gWs := gWs_in (gT_2 (List.mem_of_getElem? (i := 206) rfl)) rfl
theorem mE_J0_length_8abf5 : Cond.selects RJ0 yJ0_length_8abf5 yJ0_length_8abf5 ∈ gWs := gWs_in (gT_2 (List.mem_of_getElem? (i := 207) rfl)) rfl
theorem mC_J0_length_8abf5 : Cond.code yJ0_length_8abf5 cJ0_length_8abf5 1 (some .int) ∈ gWs := gWs_in (gT_2 (List.mem_of_getElem? (i := 208) rfl)) rfl
theorem mM_J0_335 : Cond.methodLink RJ0 335 yJ0_coder_7d493 ∈ gWs := gWs_in (gT_2 (List.mem_of_getElem? (i := 209) rfl)) rfl
theorem mI_J0_coder_7d493 : Cond.instanceMethod yJ0_coder_7d493 ∈ gWs := gWs_in (gT_2 (List.mem_of_getElem? (i := 210) rfl)) rfl
theorem mE_J0_coder_7d493 : Cond.selects RJ0 yJ0_coder_7d493 yJ0_coder_7d493 ∈ gWs := gWs_in (gT_2 (List.mem_of_getElem? (i := 211) rfl)) rfl
theorem mC_J0_coder_7d493 : Cond.code yJ0_coder_7d493 cJ0_coder_7d493 1 (some .byte) ∈ gWs := gWs_in (gT_2 (List.mem_of_getElem? (i := 212) rfl)) rfl
theorem mF_J0_38 : Cond.fieldLink RJ0 38 "java/lang/String" "COMPACT_STRINGS" "Z" ∈ gWs := gWs_in (gT_2 (List.mem_of_getElem? (i := 213) rfl)) rfl
theorem mM_X6_60 : Cond.methodLink RX6 60 yJ0_charAt_5068e ∈ gWs := gWs_in (gT_2 (List.mem_of_getElem? (i := 215) rfl)) rfl
theorem mI_J0_charAt_5068e : Cond.instanceMethod yJ0_charAt_5068e ∈ gWs := gWs_in (gT_2 (List.mem_of_getElem? (i := 216) rfl)) rfl
theorem mE_J0_charAt_5068e : Cond.selects RJ0 yJ0_charAt_5068e yJ0_charAt_5068e ∈ gWs := gWs_in (gT_2 (List.mem_of_getElem? (i := 217) rfl)) rfl
theorem mC_J0_charAt_5068e : Cond.code yJ0_charAt_5068e cJ0_charAt_5068e 2 (some .char) ∈ gWs := gWs_in (gT_2 (List.mem_of_getElem? (i := 218) rfl)) rfl
theorem mM_J0_492 : Cond.methodLink RJ0 492 yJ0_isLatin1_aae02 ∈ gWs := gWs_in (gT_2 (List.mem_of_getElem? (i := 219) rfl)) rfl
theorem mI_J0_isLatin1_aae02 : Cond.instanceMethod yJ0_isLatin1_aae02 ∈ gWs := gWs_in (gT_2 (List.mem_of_getElem? (i := 220) rfl)) rfl
theorem mE_J0_isLatin1_aae02 : Cond.selects RJ0 yJ0_isLatin1_aae02 yJ0_isLatin1_aae02 ∈ gWs := gWs_in (gT_2 (List.mem_of_getElem? (i := 221) rfl)) rfl
theorem mC_J0_isLatin1_aae02 : Cond.code yJ0_isLatin1_aae02 cJ0_isLatin1_aae02 1 (some .boolean) ∈ gWs := gWs_in (gT_2 (List.mem_of_getElem? (i := 222) rfl)) rfl
theorem mM_J0_495 : Cond.methodLink RJ0 495 yJ1_charAt_3b067 ∈ gWs := gWs_in (gT_2 (List.mem_of_getElem? (i := 223) rfl)) rfl
theorem mS_J1_charAt_3b067 : Cond.static yJ1_charAt_3b067 ∈ gWs := gWs_in (gT_2 (List.mem_of_getElem? (i := 224) rfl)) rfl
theorem mC_J1_charAt_3b067 : Cond.code yJ1_charAt_3b067 cJ1_charAt_3b067 2 (some .char) ∈ gWs := gWs_in (gT_2 (List.mem_of_getElem? (i := 225) rfl)) rfl
theorem mM_J1_9 : Cond.methodLink RJ1 9 yJ0_checkIndex_df160 ∈ gWs := gWs_in (gT_2 (List.mem_of_getElem? (i := 226) rfl)) rfl
theorem mS_J0_checkIndex_df160 : Cond.static yJ0_checkIndex_df160 ∈ gWs := gWs_in (gT_2 (List.mem_of_getElem? (i := 227) rfl)) rfl
theorem mC_J0_checkIndex_df160 : Cond.code yJ0_checkIndex_df160 cJ0_checkIndex_df160 2 none ∈ gWs := gWs_in (gT_2 (List.mem_of_getElem? (i := 228) rfl)) rfl
theorem mF_J0_1053 : Cond.fieldLink RJ0 1053 "jdk/internal/util/Preconditions" "SIOOBE_FORMATTER" "Ljava/util/function/BiFunction;" ∈ gWs := gWs_in (gT_2 (List.mem_of_getElem? (i := 229) rfl)) rfl
theorem mM_J0_1059 : Cond.methodLink RJ0 1059 yJ3_checkIndex_8e157 ∈ gWs := gWs_in (gT_2 (List.mem_of_getElem? (i := 231) rfl)) rfl
theorem mS_J3_checkIndex_8e157 : Cond.static yJ3_checkIndex_8e157 ∈ gWs := gWs_in (gT_2 (List.mem_of_getElem? (i := 232) rfl)) rfl
theorem mC_J3_checkIndex_8e157 : Cond.code yJ3_checkIndex_8e157 cJ3_checkIndex_8e157 3 (some .int) ∈ gWs := gWs_in (gT_2 (List.mem_of_getElem? (i := 233) rfl)) rfl
theorem mM_J0_498 : Cond.methodLink RJ0 498 yJ2_charAt_3b067 ∈ gWs := gWs_in (gT_2 (List.mem_of_getElem? (i := 234) rfl)) rfl
theorem mS_J2_charAt_3b067 : Cond.static yJ2_charAt_3b067 ∈ gWs := gWs_in (gT_2 (List.mem_of_getElem? (i := 235) rfl)) rfl
theorem mC_J2_charAt_3b067 : Cond.code yJ2_charAt_3b067 cJ2_charAt_3b067 2 (some .char) ∈ gWs := gWs_in (gT_2 (List.mem_of_getElem? (i := 236) rfl)) rfl
theorem mM_J2_67 : Cond.methodLink RJ2 67 yJ2_checkIndex_2214a ∈ gWs := gWs_in (gT_2 (List.mem_of_getElem? (i := 237) rfl)) rfl
theorem mS_J2_checkIndex_2214a : Cond.static yJ2_checkIndex_2214a ∈ gWs := gWs_in (gT_2 (List.mem_of_getElem? (i := 238) rfl)) rfl
theorem mC_J2_checkIndex_2214a : Cond.code yJ2_checkIndex_2214a cJ2_checkIndex_2214a 2 none ∈ gWs := gWs_in (gT_2 (List.mem_of_getElem? (i := 239) rfl)) rfl
theorem mM_J2_48 : Cond.methodLink RJ2 48 yJ2_length_9d52b ∈ gWs := gWs_in (gT_3 (List.mem_of_getElem? (i := 0) rfl)) rfl
theorem mS_J2_length_9d52b : Cond.static yJ2_length_9d52b ∈ gWs := gWs_in (gT_3 (List.mem_of_getElem? (i := 1) rfl)) rfl
theorem mC_J2_length_9d52b : Cond.code yJ2_length_9d52b cJ2_length_9d52b 1 (some .int) ∈ gWs := gWs_in (gT_3 (List.mem_of_getElem? (i := 2) rfl)) rfl
theorem mM_J2_414 : Cond.methodLink RJ2 414 yJ0_checkIndex_df160 ∈ gWs := gWs_in (gT_3 (List.mem_of_getElem? (i := 3) rfl)) rfl
theorem mM_J2_71 : Cond.methodLink RJ2 71 yJ2_getChar_3b067 ∈ gWs := gWs_in (gT_3 (List.mem_of_getElem? (i := 4) rfl)) rfl
theorem mS_J2_getChar_3b067 : Cond.static yJ2_getChar_3b067 ∈ gWs := gWs_in (gT_3 (List.mem_of_getElem? (i := 5) rfl)) rfl
theorem mC_J2_getChar_3b067 : Cond.code yJ2_getChar_3b067 cJ2_getChar_3b067 2 (some .char) ∈ gWs := gWs_in (gT_3 (List.mem_of_getElem? (i := 6) rfl)) rfl
theorem mF_J2_44 : Cond.fieldLink RJ2 44 "java/lang/StringUTF16" "$assertionsDisabled" "Z" ∈ gWs := gWs_in (gT_3 (List.mem_of_getElem? (i := 7) rfl)) rfl
theorem mF_J2_59 : Cond.fieldLink RJ2 59 "java/lang/StringUTF16" "HI_BYTE_SHIFT" "I" ∈ gWs := gWs_in (gT_3 (List.mem_of_getElem? (i := 9) rfl)) rfl
theorem mF_J2_63 : Cond.fieldLink RJ2 63 "java/lang/StringUTF16" "LO_BYTE_SHIFT" "I" ∈ gWs := gWs_in (gT_3 (List.mem_of_getElem? (i := 11) rfl)) rfl
theorem mM_X6_45 : Cond.methodLink RX6 45 yX6_put ∈ gWs := gWs_in (gT_3 (List.mem_of_getElem? (i := 13) rfl)) rfl
theorem mI_X6_put : Cond.instanceMethod yX6_put ∈ gWs := gWs_in (gT_3 (List.mem_of_getElem? (i := 15) rfl)) rfl
theorem mC_X6_put : Cond.code yX6_put cX6_put 4 none ∈ gWs := gWs_in (gT_3 (List.mem_of_getElem? (i := 16) rfl)) rfl
theorem mM_X6_36 : Cond.methodLink RX6 36 yX6_isDigit ∈ gWs := gWs_in (gT_3 (List.mem_of_getElem? (i := 17) rfl)) rfl
theorem mS_X6_isDigit : Cond.static yX6_isDigit ∈ gWs := gWs_in (gT_3 (List.mem_of_getElem? (i := 18) rfl)) rfl
theorem mC_X6_isDigit : Cond.code yX6_isDigit cX6_isDigit 1 (some .boolean) ∈ gWs := gWs_in (gT_3 (List.mem_of_getElem? (i := 19) rfl)) rfl
theorem mM_X6_39 : Cond.methodLink RX6 39 yX6_putNumber ∈ gWs := gWs_in (gT_3 (List.mem_of_getElem? (i := 20) rfl)) rfl
theorem mI_X6_putNumber : Cond.instanceMethod yX6_putNumber ∈ gWs := gWs_in (gT_3 (List.mem_of_getElem? (i := 22) rfl)) rfl
theorem mC_X6_putNumber : Cond.code yX6_putNumber cX6_putNumber 6 (some .int) ∈ gWs := gWs_in (gT_3 (List.mem_of_getElem? (i := 23) rfl)) rfl
theorem mM_X6_42 : Cond.methodLink RX6 42 yX6_isSign ∈ gWs := gWs_in (gT_3 (List.mem_of_getElem? (i := 24) rfl)) rfl
theorem mS_X6_isSign : Cond.static yX6_isSign ∈ gWs := gWs_in (gT_3 (List.mem_of_getElem? (i := 25) rfl)) rfl
theorem mC_X6_isSign : Cond.code yX6_isSign cX6_isSign 1 (some .boolean) ∈ gWs := gWs_in (gT_3 (List.mem_of_getElem? (i := 26) rfl)) rfl
theorem mM_X3_56 : Cond.methodLink RX3 56 yX6_kind ∈ gWs := gWs_in (gT_3 (List.mem_of_getElem? (i := 27) rfl)) rfl
theorem mI_X6_kind : Cond.instanceMethod yX6_kind ∈ gWs := gWs_in (gT_3 (List.mem_of_getElem? (i := 28) rfl)) rfl
theorem mE_X6_kind : Cond.selects RX6 yX6_kind yX6_kind ∈ gWs := gWs_in (gT_3 (List.mem_of_getElem? (i := 29) rfl)) rfl
theorem mC_X6_kind : Cond.code yX6_kind cX6_kind 1 (some .int) ∈ gWs := gWs_in (gT_3 (List.mem_of_getElem? (i := 30) rfl)) rfl
theorem mM_X3_60 : Cond.methodLink RX3 60 yX3_readLaw ∈ gWs := gWs_in (gT_3 (List.mem_of_getElem? (i := 31) rfl)) rfl
theorem mI_X3_readLaw : Cond.instanceMethod yX3_readLaw ∈ gWs := gWs_in (gT_3 (List.mem_of_getElem? (i := 33) rfl)) rfl
theorem mC_X3_readLaw : Cond.code yX3_readLaw cX3_readLaw 1 none ∈ gWs := gWs_in (gT_3 (List.mem_of_getElem? (i := 34) rfl)) rfl
theorem mM_X3_63 : Cond.methodLink RX3 63 yX3_readRound ∈ gWs := gWs_in (gT_3 (List.mem_of_getElem? (i := 35) rfl)) rfl
theorem mI_X3_readRound : Cond.instanceMethod yX3_readRound ∈ gWs := gWs_in (gT_3 (List.mem_of_getElem? (i := 37) rfl)) rfl
theorem mC_X3_readRound : Cond.code yX3_readRound cX3_readRound 3 none ∈ gWs := gWs_in (gT_3 (List.mem_of_getElem? (i := 38) rfl)) rfl
theorem mM_X3_66 : Cond.methodLink RX3 66 yX3_refuseIf ∈ gWs := gWs_in (gT_3 (List.mem_of_getElem? (i := 39) rfl)) rfl
theorem mI_X3_refuseIf : Cond.instanceMethod yX3_refuseIf ∈ gWs := gWs_in (gT_3 (List.mem_of_getElem? (i := 41) rfl)) rfl
theorem mC_X3_refuseIf : Cond.code yX3_refuseIf cX3_refuseIf 3 none ∈ gWs := gWs_in (gT_3 (List.mem_of_getElem? (i := 42) rfl)) rfl
theorem mM_X3_78 : Cond.methodLink RX3 78 yX3_note ∈ gWs := gWs_in (gT_3 (List.mem_of_getElem? (i := 43) rfl)) rfl
theorem mI_X3_note : Cond.instanceMethod yX3_note ∈ gWs := gWs_in (gT_3 (List.mem_of_getElem? (i := 45) rfl)) rfl
theorem mC_X3_note : Cond.code yX3_note cX3_note 2 none ∈ gWs := gWs_in (gT_3 (List.mem_of_getElem? (i := 46) rfl)) rfl
theorem mM_X3_94 : Cond.methodLink RX3 94 yX6_place ∈ gWs := gWs_in (gT_3 (List.mem_of_getElem? (i := 47) rfl)) rfl
theorem mI_X6_place : Cond.instanceMethod yX6_place ∈ gWs := gWs_in (gT_3 (List.mem_of_getElem? (i := 48) rfl)) rfl
theorem mE_X6_place : Cond.selects RX6 yX6_place yX6_place ∈ gWs := gWs_in (gT_3 (List.mem_of_getElem? (i := 49) rfl)) rfl
theorem mC_X6_place : Cond.code yX6_place cX6_place 1 (some .int) ∈ gWs := gWs_in (gT_3 (List.mem_of_getElem? (i := 50) rfl)) rfl
theorem mM_X3_70 : Cond.methodLink RX3 70 yX3_goOn ∈ gWs := gWs_in (gT_3 (List.mem_of_getElem? (i := 51) rfl)) rfl
theorem mI_X3_goOn : Cond.instanceMethod yX3_goOn ∈ gWs := gWs_in (gT_3 (List.mem_of_getElem? (i := 53) rfl)) rfl
theorem mC_X3_goOn : Cond.code yX3_goOn cX3_goOn 1 (some .boolean) ∈ gWs := gWs_in (gT_3 (List.mem_of_getElem? (i := 54) rfl)) rfl
theorem mM_X3_97 : Cond.methodLink RX3 97 yX6_step ∈ gWs := gWs_in (gT_3 (List.mem_of_getElem? (i := 55) rfl)) rfl
theorem mI_X6_step : Cond.instanceMethod yX6_step ∈ gWs := gWs_in (gT_3 (List.mem_of_getElem? (i := 56) rfl)) rfl
theorem mE_X6_step : Cond.selects RX6 yX6_step yX6_step ∈ gWs := gWs_in (gT_3 (List.mem_of_getElem? (i := 57) rfl)) rfl
theorem mC_X6_step : Cond.code yX6_step cX6_step 1 none ∈ gWs := gWs_in (gT_3 (List.mem_of_getElem? (i := 58) rfl)) rfl
theorem mM_X3_103 : Cond.methodLink RX3 103 yX6_value ∈ gWs := gWs_in (gT_3 (List.mem_of_getElem? (i := 59) rfl)) rfl
theorem mI_X6_value : Cond.instanceMethod yX6_value ∈ gWs := gWs_in (gT_3 (List.mem_of_getElem? (i := 60) rfl)) rfl
theorem mE_X6_value : Cond.selects RX6 yX6_value yX6_value ∈ gWs := gWs_in (gT_3 (List.mem_of_getElem? (i := 61) rfl)) rfl
theorem mC_X6_value : Cond.code yX6_value cX6_value 1 (some .int) ∈ gWs := gWs_in (gT_3 (List.mem_of_getElem? (i := 62) rfl)) rfl
theorem mM_X3_91 : Cond.methodLink RX3 91 yX3_pass ∈ gWs := gWs_in (gT_3 (List.mem_of_getElem? (i := 67) rfl)) rfl
theorem mI_X3_pass : Cond.instanceMethod yX3_pass ∈ gWs := gWs_in (gT_3 (List.mem_of_getElem? (i := 69) rfl)) rfl
theorem mC_X3_pass : Cond.code yX3_pass cX3_pass 2 none ∈ gWs := gWs_in (gT_3 (List.mem_of_getElem? (i := 70) rfl)) rfl
theorem mM_X3_88 : Cond.methodLink RX3 88 yX3_refuseToken ∈ gWs := gWs_in (gT_3 (List.mem_of_getElem? (i := 71) rfl)) rfl
theorem mI_X3_refuseToken : Cond.instanceMethod yX3_refuseToken ∈ gWs := gWs_in (gT_3 (List.mem_of_getElem? (i := 73) rfl)) rfl
theorem mC_X3_refuseToken : Cond.code yX3_refuseToken cX3_refuseToken 1 none ∈ gWs := gWs_in (gT_3 (List.mem_of_getElem? (i := 74) rfl)) rfl
theorem mM_X3_74 : Cond.methodLink RX3 74 yX1_read ∈ gWs := gWs_in (gT_3 (List.mem_of_getElem? (i := 75) rfl)) rfl
theorem mI_X1_read : Cond.instanceMethod yX1_read ∈ gWs := gWs_in (gT_3 (List.mem_of_getElem? (i := 76) rfl)) rfl
theorem mE_X1_read : Cond.selects RX1 yX1_read yX1_read ∈ gWs := gWs_in (gT_3 (List.mem_of_getElem? (i := 77) rfl)) rfl
theorem mC_X1_read : Cond.code yX1_read cX1_read 5 (some .int) ∈ gWs := gWs_in (gT_3 (List.mem_of_getElem? (i := 78) rfl)) rfl
theorem mM_X1_34 : Cond.methodLink RX1 34 yX6_kind ∈ gWs := gWs_in (gT_3 (List.mem_of_getElem? (i := 79) rfl)) rfl
theorem mM_X1_40 : Cond.methodLink RX1 40 yX1_release ∈ gWs := gWs_in (gT_3 (List.mem_of_getElem? (i := 80) rfl)) rfl
theorem mI_X1_release : Cond.instanceMethod yX1_release ∈ gWs := gWs_in (gT_3 (List.mem_of_getElem? (i := 82) rfl)) rfl
theorem mC_X1_release : Cond.code yX1_release cX1_release 3 none ∈ gWs := gWs_in (gT_3 (List.mem_of_getElem? (i := 83) rfl)) rfl
theorem mM_X1_61 : Cond.methodLink RX1 61 yX4_addItem ∈ gWs := gWs_in (gT_3 (List.mem_of_getElem? (i := 84) rfl)) rfl
theorem mM_X1_44 : Cond.methodLink RX1 44 yX1_readBehindFactor ∈ gWs := gWs_in (gT_3 (List.mem_of_getElem? (i := 85) rfl)) rfl
theorem mI_X1_readBehindFactor : Cond.instanceMethod yX1_readBehindFactor ∈ gWs := gWs_in (gT_3 (List.mem_of_getElem? (i := 87) rfl)) rfl
theorem mC_X1_readBehindFactor : Cond.code yX1_readBehindFactor cX1_readBehindFactor 3 (some .boolean) ∈ gWs := gWs_in (gT_3 (List.mem_of_getElem? (i := 88) rfl)) rfl
theorem mM_X1_76 : Cond.methodLink RX1 76 yX1_putSign ∈ gWs := gWs_in (gT_3 (List.mem_of_getElem? (i := 89) rfl)) rfl
theorem mI_X1_putSign : Cond.instanceMethod yX1_putSign ∈ gWs := gWs_in (gT_3 (List.mem_of_getElem? (i := 91) rfl)) rfl
theorem mC_X1_putSign : Cond.code yX1_putSign cX1_putSign 3 none ∈ gWs := gWs_in (gT_3 (List.mem_of_getElem? (i := 92) rfl)) rfl
theorem mM_X1_55 : Cond.methodLink RX1 55 yX1_countItem ∈ gWs := gWs_in (gT_3 (List.mem_of_getElem? (i := 93) rfl)) rfl
theorem mI_X1_countItem : Cond.instanceMethod yX1_countItem ∈ gWs := gWs_in (gT_3 (List.mem_of_getElem? (i := 95) rfl)) rfl
theorem mC_X1_countItem : Cond.code yX1_countItem cX1_countItem 1 none ∈ gWs := gWs_in (gT_3 (List.mem_of_getElem? (i := 96) rfl)) rfl
theorem mM_X1_82 : Cond.methodLink RX1 82 yX1_await ∈ gWs := gWs_in (gT_3 (List.mem_of_getElem? (i := 97) rfl)) rfl
theorem mI_X1_await : Cond.instanceMethod yX1_await ∈ gWs := gWs_in (gT_3 (List.mem_of_getElem? (i := 99) rfl)) rfl
theorem mC_X1_await : Cond.code yX1_await cX1_await 2 none ∈ gWs := gWs_in (gT_3 (List.mem_of_getElem? (i := 100) rfl)) rfl
theorem mM_X1_79 : Cond.methodLink RX1 79 yX1_closeParen ∈ gWs := gWs_in (gT_3 (List.mem_of_getElem? (i := 101) rfl)) rfl
theorem mI_X1_closeParen : Cond.instanceMethod yX1_closeParen ∈ gWs := gWs_in (gT_3 (List.mem_of_getElem? (i := 103) rfl)) rfl
theorem mC_X1_closeParen : Cond.code yX1_closeParen cX1_closeParen 2 none ∈ gWs := gWs_in (gT_3 (List.mem_of_getElem? (i := 104) rfl)) rfl
theorem mM_X1_73 : Cond.methodLink RX1 73 yX1_refuseToken ∈ gWs := gWs_in (gT_3 (List.mem_of_getElem? (i := 105) rfl)) rfl
theorem mI_X1_refuseToken : Cond.instanceMethod yX1_refuseToken ∈ gWs := gWs_in (gT_3 (List.mem_of_getElem? (i := 107) rfl)) rfl
theorem mC_X1_refuseToken : Cond.code yX1_refuseToken cX1_refuseToken 2 none ∈ gWs := gWs_in (gT_3 (List.mem_of_getElem? (i := 108) rfl)) rfl
theorem mM_X1_85 : Cond.methodLink RX1 85 yJ9_max_7cf53 ∈ gWs := gWs_in (gT_3 (List.mem_of_getElem? (i := 109) rfl)) rfl
theorem mS_J9_max_7cf53 : Cond.static yJ9_max_7cf53 ∈ gWs := gWs_in (gT_3 (List.mem_of_getElem? (i := 110) rfl)) rfl
theorem mC_J9_max_7cf53 : Cond.code yJ9_max_7cf53 cJ9_max_7cf53 2 (some .int) ∈ gWs := gWs_in (gT_3 (List.mem_of_getElem? (i := 111) rfl)) rfl
theorem mM_X1_65 : Cond.methodLink RX1 65 yX1_releaseNegations ∈ gWs := gWs_in (gT_3 (List.mem_of_getElem? (i := 112) rfl)) rfl
theorem mI_X1_releaseNegations : Cond.instanceMethod yX1_releaseNegations ∈ gWs := gWs_in (gT_3 (List.mem_of_getElem? (i := 114) rfl)) rfl
theorem mC_X1_releaseNegations : Cond.code yX1_releaseNegations cX1_releaseNegations 2 none ∈ gWs := gWs_in (gT_3 (List.mem_of_getElem? (i := 115) rfl)) rfl
theorem mM_X1_48 : Cond.methodLink RX1 48 yX1_readFactor ∈ gWs := gWs_in (gT_3 (List.mem_of_getElem? (i := 116) rfl)) rfl
theorem mI_X1_readFactor : Cond.instanceMethod yX1_readFactor ∈ gWs := gWs_in (gT_3 (List.mem_of_getElem? (i := 118) rfl)) rfl
theorem mC_X1_readFactor : Cond.code yX1_readFactor cX1_readFactor 5 (some .boolean) ∈ gWs := gWs_in (gT_3 (List.mem_of_getElem? (i := 119) rfl)) rfl
theorem mM_X1_58 : Cond.methodLink RX1 58 yX6_value ∈ gWs := gWs_in (gT_3 (List.mem_of_getElem? (i := 120) rfl)) rfl
theorem mM_X1_69 : Cond.methodLink RX1 69 yX1_nest ∈ gWs := gWs_in (gT_3 (List.mem_of_getElem? (i := 121) rfl)) rfl
theorem mI_X1_nest : Cond.instanceMethod yX1_nest ∈ gWs := gWs_in (gT_3 (List.mem_of_getElem? (i := 123) rfl)) rfl
theorem mC_X1_nest : Cond.code yX1_nest cX1_nest 2 none ∈ gWs := gWs_in (gT_3 (List.mem_of_getElem? (i := 124) rfl)) rfl
theorem mM_X1_52 : Cond.methodLink RX1 52 yX6_step ∈ gWs := gWs_in (gT_3 (List.mem_of_getElem? (i := 125) rfl)) rfl
theorem mM_X3_82 : Cond.methodLink RX3 82 yX3_readKeys ∈ gWs := gWs_in (gT_3 (List.mem_of_getElem? (i := 126) rfl)) rfl
theorem mI_X3_readKeys : Cond.instanceMethod yX3_readKeys ∈ gWs := gWs_in (gT_3 (List.mem_of_getElem? (i := 128) rfl)) rfl
theorem mC_X3_readKeys : Cond.code yX3_readKeys cX3_readKeys 2 none ∈ gWs := gWs_in (gT_3 (List.mem_of_getElem? (i := 129) rfl)) rfl
theorem mM_X3_119 : Cond.methodLink RX3 119 yX3_readKey ∈ gWs := gWs_in (gT_3 (List.mem_of_getElem? (i := 130) rfl)) rfl
theorem mI_X3_readKey : Cond.instanceMethod yX3_readKey ∈ gWs := gWs_in (gT_3 (List.mem_of_getElem? (i := 132) rfl)) rfl
theorem mC_X3_readKey : Cond.code yX3_readKey cX3_readKey 3 none ∈ gWs := gWs_in (gT_3 (List.mem_of_getElem? (i := 133) rfl)) rfl
theorem mM_X3_122 : Cond.methodLink RX3 122 yX4_addKey ∈ gWs := gWs_in (gT_3 (List.mem_of_getElem? (i := 134) rfl)) rfl
theorem mM_X3_85 : Cond.methodLink RX3 85 yX3_readTies ∈ gWs := gWs_in (gT_3 (List.mem_of_getElem? (i := 135) rfl)) rfl
theorem mI_X3_readTies : Cond.instanceMethod yX3_readTies ∈ gWs := gWs_in (gT_3 (List.mem_of_getElem? (i := 137) rfl)) rfl
theorem mC_X3_readTies : Cond.code yX3_readTies cX3_readTies 1 none ∈ gWs := gWs_in (gT_3 (List.mem_of_getElem? (i := 138) rfl)) rfl
theorem mM_X10_103 : Cond.methodLink RX10 103 yX4_take ∈ gWs := gWs_in (gT_3 (List.mem_of_getElem? (i := 139) rfl)) rfl
theorem mI_X4_take : Cond.instanceMethod yX4_take ∈ gWs := gWs_in (gT_3 (List.mem_of_getElem? (i := 140) rfl)) rfl
theorem mE_X4_take : Cond.selects RX4 yX4_take yX4_take ∈ gWs := gWs_in (gT_3 (List.mem_of_getElem? (i := 141) rfl)) rfl
theorem mC_X4_take : Cond.code yX4_take cX4_take 2 none ∈ gWs := gWs_in (gT_3 (List.mem_of_getElem? (i := 142) rfl)) rfl
theorem mM_X4_53 : Cond.methodLink RX4 53 ⟨"java/lang/System", "arraycopy", "(Ljava/lang/Object;ILjava/lang/Object;II)V"⟩ ∈ gWs := gWs_in (gT_3 (List.mem_of_getElem? (i := 143) rfl)) rfl
theorem mS_java_lang_System_arraycopy__Ljava_lang_Object_ILjava_lang_Object_II_V : Cond.static ⟨"java/lang/System", "arraycopy", "(Ljava/lang/Object;ILjava/lang/Object;II)V"⟩ ∈ gWs := gWs_in (gT_3 (List.mem_of_getElem? (i := 144) rfl)) rfl
theorem mV_java_lang_System_arraycopy__Ljava_lang_Object_ILjava_lang_Object_II_V : Cond.native ⟨"java/lang/System", "arraycopy", "(Ljava/lang/Object;ILjava/lang/Object;II)V"⟩ ∈ gWs := gWs_in (gT_3 (List.mem_of_getElem? (i := 145) rfl)) rfl
theorem mM_X10_107 : Cond.methodLink RX10 107 yX8_clear ∈ gWs := gWs_in (gT_3 (List.mem_of_getElem? (i := 146) rfl)) rfl
theorem mI_X8_clear : Cond.instanceMethod yX8_clear ∈ gWs := gWs_in (gT_3 (List.mem_of_getElem? (i := 147) rfl)) rfl
theorem mE_X8_clear : Cond.selects RX8 yX8_clear yX8_clear ∈ gWs := gWs_in (gT_3 (List.mem_of_getElem? (i := 148) rfl)) rfl
theorem mC_X8_clear : Cond.code yX8_clear cX8_clear 1 none ∈ gWs := gWs_in (gT_3 (List.mem_of_getElem? (i := 149) rfl)) rfl
theorem mM_X8_21 : Cond.methodLink RX8 21 yJ7_fill_53178 ∈ gWs := gWs_in (gT_3 (List.mem_of_getElem? (i := 150) rfl)) rfl
theorem mS_J7_fill_53178 : Cond.static yJ7_fill_53178 ∈ gWs := gWs_in (gT_3 (List.mem_of_getElem? (i := 151) rfl)) rfl
theorem mC_J7_fill_53178 : Cond.code yJ7_fill_53178 cJ7_fill_53178 4 none ∈ gWs := gWs_in (gT_3 (List.mem_of_getElem? (i := 152) rfl)) rfl
theorem mM_X10_110 : Cond.methodLink RX10 110 yX2_clear ∈ gWs := gWs_in (gT_3 (List.mem_of_getElem? (i := 153) rfl)) rfl
theorem mI_X2_clear : Cond.instanceMethod yX2_clear ∈ gWs := gWs_in (gT_3 (List.mem_of_getElem? (i := 154) rfl)) rfl
theorem mE_X2_clear : Cond.selects RX2 yX2_clear yX2_clear ∈ gWs := gWs_in (gT_3 (List.mem_of_getElem? (i := 155) rfl)) rfl
theorem mC_X2_clear : Cond.code yX2_clear cX2_clear 1 none ∈ gWs := gWs_in (gT_3 (List.mem_of_getElem? (i := 156) rfl)) rfl
theorem mM_X10_111 : Cond.methodLink RX10 111 yX7_clear ∈ gWs := gWs_in (gT_3 (List.mem_of_getElem? (i := 157) rfl)) rfl
theorem mI_X7_clear : Cond.instanceMethod yX7_clear ∈ gWs := gWs_in (gT_3 (List.mem_of_getElem? (i := 158) rfl)) rfl
theorem mE_X7_clear : Cond.selects RX7 yX7_clear yX7_clear ∈ gWs := gWs_in (gT_3 (List.mem_of_getElem? (i := 159) rfl)) rfl
theorem mC_X7_clear : Cond.code yX7_clear cX7_clear 1 none ∈ gWs := gWs_in (gT_3 (List.mem_of_getElem? (i := 160) rfl)) rfl
theorem mM_X7_40 : Cond.methodLink RX7 40 yJ7_fill_53178 ∈ gWs := gWs_in (gT_3 (List.mem_of_getElem? (i := 161) rfl)) rfl
theorem mM_X10_112 : Cond.methodLink RX10 112 yX0_clear ∈ gWs := gWs_in (gT_3 (List.mem_of_getElem? (i := 162) rfl)) rfl
theorem mI_X0_clear : Cond.instanceMethod yX0_clear ∈ gWs := gWs_in (gT_3 (List.mem_of_getElem? (i := 163) rfl)) rfl
theorem mE_X0_clear : Cond.selects RX0 yX0_clear yX0_clear ∈ gWs := gWs_in (gT_3 (List.mem_of_getElem? (i := 164) rfl)) rfl
theorem mC_X0_clear : Cond.code yX0_clear cX0_clear 1 none ∈ gWs := gWs_in (gT_3 (List.mem_of_getElem? (i := 165) rfl)) rfl
theorem mM_X10_113 : Cond.methodLink RX10 113 yX9_clear ∈ gWs := gWs_in (gT_3 (List.mem_of_getElem? (i := 166) rfl)) rfl
theorem mI_X9_clear : Cond.instanceMethod yX9_clear ∈ gWs := gWs_in (gT_3 (List.mem_of_getElem? (i := 167) rfl)) rfl
theorem mE_X9_clear : Cond.selects RX9 yX9_clear yX9_clear ∈ gWs := gWs_in (gT_3 (List.mem_of_getElem? (i := 168) rfl)) rfl
theorem mC_X9_clear : Cond.code yX9_clear cX9_clear 1 none ∈ gWs := gWs_in (gT_3 (List.mem_of_getElem? (i := 169) rfl)) rfl
theorem mM_X9_21 : Cond.methodLink RX9 21 yJ7_fill_53178 ∈ gWs := gWs_in (gT_3 (List.mem_of_getElem? (i := 170) rfl)) rfl
theorem mM_X10_120 : Cond.methodLink RX10 120 yX10_answer ∈ gWs := gWs_in (gT_3 (List.mem_of_getElem? (i := 171) rfl)) rfl
theorem mI_X10_answer : Cond.instanceMethod yX10_answer ∈ gWs := gWs_in (gT_3 (List.mem_of_getElem? (i := 173) rfl)) rfl
theorem mC_X10_answer : Cond.code yX10_answer cX10_answer 2 (some .int) ∈ gWs := gWs_in (gT_3 (List.mem_of_getElem? (i := 174) rfl)) rfl
theorem mA_byte : Cond.arrayClass .byte ∈ gWs := gWs_in (gT_3 (List.mem_of_getElem? (i := 175) rfl)) rfl
theorem mM_L_28 : Cond.methodLink RL 28 yX10_fault ∈ gWs := gWs_in (gT_3 (List.mem_of_getElem? (i := 176) rfl)) rfl
theorem mI_X10_fault : Cond.instanceMethod yX10_fault ∈ gWs := gWs_in (gT_3 (List.mem_of_getElem? (i := 177) rfl)) rfl
theorem mE_X10_fault : Cond.selects RX10 yX10_fault yX10_fault ∈ gWs := gWs_in (gT_3 (List.mem_of_getElem? (i := 178) rfl)) rfl
theorem mC_X10_fault : Cond.code yX10_fault cX10_fault 2 (some .int) ∈ gWs := gWs_in (gT_3 (List.mem_of_getElem? (i := 179) rfl)) rfl
theorem mM_L_32 : Cond.methodLink RL 32 yX10_climber ∈ gWs := gWs_in (gT_3 (List.mem_of_getElem? (i := 180) rfl)) rfl
theorem mI_X10_climber : Cond.instanceMethod yX10_climber ∈ gWs := gWs_in (gT_3 (List.mem_of_getElem? (i := 181) rfl)) rfl
theorem mE_X10_climber : Cond.selects RX10 yX10_climber yX10_climber ∈ gWs := gWs_in (gT_3 (List.mem_of_getElem? (i := 182) rfl)) rfl
theorem mC_X10_climber : Cond.code yX10_climber cX10_climber 1 (some .int) ∈ gWs := gWs_in (gT_3 (List.mem_of_getElem? (i := 183) rfl)) rfl
theorem mM_X10_132 : Cond.methodLink RX10 132 yX2_enter ∈ gWs := gWs_in (gT_3 (List.mem_of_getElem? (i := 184) rfl)) rfl
theorem mI_X2_enter : Cond.instanceMethod yX2_enter ∈ gWs := gWs_in (gT_3 (List.mem_of_getElem? (i := 185) rfl)) rfl
theorem mE_X2_enter : Cond.selects RX2 yX2_enter yX2_enter ∈ gWs := gWs_in (gT_3 (List.mem_of_getElem? (i := 186) rfl)) rfl
theorem mC_X2_enter : Cond.code yX2_enter cX2_enter 1 (some .int) ∈ gWs := gWs_in (gT_3 (List.mem_of_getElem? (i := 187) rfl)) rfl
theorem mM_L_36 : Cond.methodLink RL 36 yX10_route ∈ gWs := gWs_in (gT_3 (List.mem_of_getElem? (i := 188) rfl)) rfl
theorem mI_X10_route : Cond.instanceMethod yX10_route ∈ gWs := gWs_in (gT_3 (List.mem_of_getElem? (i := 189) rfl)) rfl
theorem mE_X10_route : Cond.selects RX10 yX10_route yX10_route ∈ gWs := gWs_in (gT_3 (List.mem_of_getElem? (i := 190) rfl)) rfl
theorem mC_X10_route : Cond.code yX10_route cX10_route 7 (some .boolean) ∈ gWs := gWs_in (gT_3 (List.mem_of_getElem? (i := 191) rfl)) rfl
theorem mM_X10_136 : Cond.methodLink RX10 136 yX4_hasRoute ∈ gWs := gWs_in (gT_3 (List.mem_of_getElem? (i := 192) rfl)) rfl
theorem mI_X4_hasRoute : Cond.instanceMethod yX4_hasRoute ∈ gWs := gWs_in (gT_3 (List.mem_of_getElem? (i := 193) rfl)) rfl
theorem mE_X4_hasRoute : Cond.selects RX4 yX4_hasRoute yX4_hasRoute ∈ gWs := gWs_in (gT_3 (List.mem_of_getElem? (i := 194) rfl)) rfl
theorem mC_X4_hasRoute : Cond.code yX4_hasRoute cX4_hasRoute 3 (some .boolean) ∈ gWs := gWs_in (gT_3 (List.mem_of_getElem? (i := 195) rfl)) rfl
theorem mM_X4_59 : Cond.methodLink RX4 59 yX4_hasRound ∈ gWs := gWs_in (gT_3 (List.mem_of_getElem? (i := 196) rfl)) rfl
theorem mI_X4_hasRound : Cond.instanceMethod yX4_hasRound ∈ gWs := gWs_in (gT_3 (List.mem_of_getElem? (i := 197) rfl)) rfl
theorem mE_X4_hasRound : Cond.selects RX4 yX4_hasRound yX4_hasRound ∈ gWs := gWs_in (gT_3 (List.mem_of_getElem? (i := 198) rfl)) rfl
theorem mC_X4_hasRound : Cond.code yX4_hasRound cX4_hasRound 2 (some .boolean) ∈ gWs := gWs_in (gT_3 (List.mem_of_getElem? (i := 199) rfl)) rfl
theorem mM_X10_140 : Cond.methodLink RX10 140 yX10_deny ∈ gWs := gWs_in (gT_3 (List.mem_of_getElem? (i := 200) rfl)) rfl
theorem mI_X10_deny : Cond.instanceMethod yX10_deny ∈ gWs := gWs_in (gT_3 (List.mem_of_getElem? (i := 202) rfl)) rfl
theorem mC_X10_deny : Cond.code yX10_deny cX10_deny 2 (some .boolean) ∈ gWs := gWs_in (gT_3 (List.mem_of_getElem? (i := 203) rfl)) rfl
theorem mM_X10_144 : Cond.methodLink RX10 144 yX10_zonesCanBe ∈ gWs := gWs_in (gT_3 (List.mem_of_getElem? (i := 204) rfl)) rfl
theorem mS_X10_zonesCanBe : Cond.static yX10_zonesCanBe ∈ gWs := gWs_in (gT_3 (List.mem_of_getElem? (i := 205) rfl)) rfl
theorem mC_X10_zonesCanBe : Cond.code yX10_zonesCanBe cX10_zonesCanBe 4 (some .boolean) ∈ gWs := gWs_in (gT_3 (List.mem_of_getElem? (i := 206) rfl)) rfl
theorem mM_X10_309 : Cond.methodLink RX10 309 yX10_zoneCanBe ∈ gWs := gWs_in (gT_3 (List.mem_of_getElem? (i := 207) rfl)) rfl
theorem mS_X10_zoneCanBe : Cond.static yX10_zoneCanBe ∈ gWs := gWs_in (gT_3 (List.mem_of_getElem? (i := 208) rfl)) rfl
theorem mC_X10_zoneCanBe : Cond.code yX10_zoneCanBe cX10_zoneCanBe 4 (some .boolean) ∈ gWs := gWs_in (gT_3 (List.mem_of_getElem? (i := 209) rfl)) rfl
theorem mM_X10_148 : Cond.methodLink RX10 148 yX8_begunOn ∈ gWs := gWs_in (gT_3 (List.mem_of_getElem? (i := 210) rfl)) rfl
theorem mI_X8_begunOn : Cond.instanceMethod yX8_begunOn ∈ gWs := gWs_in (gT_3 (List.mem_of_getElem? (i := 211) rfl)) rfl
theorem mE_X8_begunOn : Cond.selects RX8 yX8_begunOn yX8_begunOn ∈ gWs := gWs_in (gT_3 (List.mem_of_getElem? (i := 212) rfl)) rfl
theorem mC_X8_begunOn : Cond.code yX8_begunOn cX8_begunOn 3 (some .int) ∈ gWs := gWs_in (gT_3 (List.mem_of_getElem? (i := 213) rfl)) rfl
theorem mM_X10_152 : Cond.methodLink RX10 152 yX8_set ∈ gWs := gWs_in (gT_3 (List.mem_of_getElem? (i := 214) rfl)) rfl
theorem mI_X8_set : Cond.instanceMethod yX8_set ∈ gWs := gWs_in (gT_3 (List.mem_of_getElem? (i := 215) rfl)) rfl
theorem mE_X8_set : Cond.selects RX8 yX8_set yX8_set ∈ gWs := gWs_in (gT_3 (List.mem_of_getElem? (i := 216) rfl)) rfl
theorem mC_X8_set : Cond.code yX8_set cX8_set 4 none ∈ gWs := gWs_in (gT_3 (List.mem_of_getElem? (i := 217) rfl)) rfl
theorem mM_X10_156 : Cond.methodLink RX10 156 yX8_setZone ∈ gWs := gWs_in (gT_3 (List.mem_of_getElem? (i := 218) rfl)) rfl
theorem mI_X8_setZone : Cond.instanceMethod yX8_setZone ∈ gWs := gWs_in (gT_3 (List.mem_of_getElem? (i := 219) rfl)) rfl
theorem mE_X8_setZone : Cond.selects RX8 yX8_setZone yX8_setZone ∈ gWs := gWs_in (gT_3 (List.mem_of_getElem? (i := 220) rfl)) rfl
theorem mC_X8_setZone : Cond.code yX8_setZone cX8_setZone 5 none ∈ gWs := gWs_in (gT_3 (List.mem_of_getElem? (i := 221) rfl)) rfl
theorem mM_X10_160 : Cond.methodLink RX10 160 yX10_grant ∈ gWs := gWs_in (gT_3 (List.mem_of_getElem? (i := 222) rfl)) rfl
theorem mI_X10_grant : Cond.instanceMethod yX10_grant ∈ gWs := gWs_in (gT_3 (List.mem_of_getElem? (i := 224) rfl)) rfl
theorem mC_X10_grant : Cond.code yX10_grant cX10_grant 1 (some .boolean) ∈ gWs := gWs_in (gT_3 (List.mem_of_getElem? (i := 225) rfl)) rfl
theorem mM_L_41 : Cond.methodLink RL 41 yX10_told ∈ gWs := gWs_in (gT_3 (List.mem_of_getElem? (i := 226) rfl)) rfl
theorem mI_X10_told : Cond.instanceMethod yX10_told ∈ gWs := gWs_in (gT_3 (List.mem_of_getElem? (i := 227) rfl)) rfl
theorem mE_X10_told : Cond.selects RX10 yX10_told yX10_told ∈ gWs := gWs_in (gT_3 (List.mem_of_getElem? (i := 228) rfl)) rfl
theorem mC_X10_told : Cond.code yX10_told cX10_told 5 (some .int) ∈ gWs := gWs_in (gT_3 (List.mem_of_getElem? (i := 229) rfl)) rfl
theorem mM_X10_164 : Cond.methodLink RX10 164 yX4_hasRound ∈ gWs := gWs_in (gT_3 (List.mem_of_getElem? (i := 230) rfl)) rfl
theorem mM_X10_167 : Cond.methodLink RX10 167 yX2_manyIn ∈ gWs := gWs_in (gT_3 (List.mem_of_getElem? (i := 231) rfl)) rfl
theorem mI_X2_manyIn : Cond.instanceMethod yX2_manyIn ∈ gWs := gWs_in (gT_3 (List.mem_of_getElem? (i := 232) rfl)) rfl
theorem mE_X2_manyIn : Cond.selects RX2 yX2_manyIn yX2_manyIn ∈ gWs := gWs_in (gT_3 (List.mem_of_getElem? (i := 233) rfl)) rfl
theorem mC_X2_manyIn : Cond.code yX2_manyIn cX2_manyIn 4 (some .int) ∈ gWs := gWs_in (gT_3 (List.mem_of_getElem? (i := 234) rfl)) rfl
theorem mM_X10_170 : Cond.methodLink RX10 170 yX4_shapeOf ∈ gWs := gWs_in (gT_3 (List.mem_of_getElem? (i := 235) rfl)) rfl
theorem mI_X4_shapeOf : Cond.instanceMethod yX4_shapeOf ∈ gWs := gWs_in (gT_3 (List.mem_of_getElem? (i := 236) rfl)) rfl
theorem mE_X4_shapeOf : Cond.selects RX4 yX4_shapeOf yX4_shapeOf ∈ gWs := gWs_in (gT_3 (List.mem_of_getElem? (i := 237) rfl)) rfl
theorem mC_X4_shapeOf : Cond.code yX4_shapeOf cX4_shapeOf 3 (some .int) ∈ gWs := gWs_in (gT_3 (List.mem_of_getElem? (i := 238) rfl)) rfl
theorem mM_X10_173 : Cond.methodLink RX10 173 yX8_holdsOf ∈ gWs := gWs_in (gT_3 (List.mem_of_getElem? (i := 239) rfl)) rfl
theorem mI_X8_holdsOf : Cond.instanceMethod yX8_holdsOf ∈ gWs := gWs_in (gT_4 (List.mem_of_getElem? (i := 0) rfl)) rfl
theorem mE_X8_holdsOf : Cond.selects RX8 yX8_holdsOf yX8_holdsOf ∈ gWs := gWs_in (gT_4 (List.mem_of_getElem? (i := 1) rfl)) rfl
theorem mC_X8_holdsOf : Cond.code yX8_holdsOf cX8_holdsOf 3 (some .int) ∈ gWs := gWs_in (gT_4 (List.mem_of_getElem? (i := 2) rfl)) rfl
theorem mM_X10_176 : Cond.methodLink RX10 176 yX8_zoneOf ∈ gWs := gWs_in (gT_4 (List.mem_of_getElem? (i := 3) rfl)) rfl
theorem mI_X8_zoneOf : Cond.instanceMethod yX8_zoneOf ∈ gWs := gWs_in (gT_4 (List.mem_of_getElem? (i := 4) rfl)) rfl
theorem mE_X8_zoneOf : Cond.selects RX8 yX8_zoneOf yX8_zoneOf ∈ gWs := gWs_in (gT_4 (List.mem_of_getElem? (i := 5) rfl)) rfl
theorem mC_X8_zoneOf : Cond.code yX8_zoneOf cX8_zoneOf 4 (some .int) ∈ gWs := gWs_in (gT_4 (List.mem_of_getElem? (i := 6) rfl)) rfl
theorem mM_L_46 : Cond.methodLink RL 46 yX10_begin ∈ gWs := gWs_in (gT_4 (List.mem_of_getElem? (i := 7) rfl)) rfl
theorem mI_X10_begin : Cond.instanceMethod yX10_begin ∈ gWs := gWs_in (gT_4 (List.mem_of_getElem? (i := 8) rfl)) rfl
theorem mE_X10_begin : Cond.selects RX10 yX10_begin yX10_begin ∈ gWs := gWs_in (gT_4 (List.mem_of_getElem? (i := 9) rfl)) rfl
theorem mC_X10_begin : Cond.code yX10_begin cX10_begin 5 (some .int) ∈ gWs := gWs_in (gT_4 (List.mem_of_getElem? (i := 10) rfl)) rfl
theorem mM_X10_180 : Cond.methodLink RX10 180 yX2_knows ∈ gWs := gWs_in (gT_4 (List.mem_of_getElem? (i := 11) rfl)) rfl
theorem mI_X2_knows : Cond.instanceMethod yX2_knows ∈ gWs := gWs_in (gT_4 (List.mem_of_getElem? (i := 12) rfl)) rfl
theorem mE_X2_knows : Cond.selects RX2 yX2_knows yX2_knows ∈ gWs := gWs_in (gT_4 (List.mem_of_getElem? (i := 13) rfl)) rfl
theorem mC_X2_knows : Cond.code yX2_knows cX2_knows 2 (some .boolean) ∈ gWs := gWs_in (gT_4 (List.mem_of_getElem? (i := 14) rfl)) rfl
theorem mM_X10_183 : Cond.methodLink RX10 183 yX10_passTo ∈ gWs := gWs_in (gT_4 (List.mem_of_getElem? (i := 15) rfl)) rfl
theorem mI_X10_passTo : Cond.instanceMethod yX10_passTo ∈ gWs := gWs_in (gT_4 (List.mem_of_getElem? (i := 17) rfl)) rfl
theorem mC_X10_passTo : Cond.code yX10_passTo cX10_passTo 2 (some .int) ∈ gWs := gWs_in (gT_4 (List.mem_of_getElem? (i := 18) rfl)) rfl
theorem mD_X10_313 : Cond.constant RX10 313 (1000000) ∈ gWs := gWs_in (gT_4 (List.mem_of_getElem? (i := 19) rfl)) rfl
theorem mM_X10_314 : Cond.methodLink RX10 314 yX7_endOverdue ∈ gWs := gWs_in (gT_4 (List.mem_of_getElem? (i := 20) rfl)) rfl
theorem mI_X7_endOverdue : Cond.instanceMethod yX7_endOverdue ∈ gWs := gWs_in (gT_4 (List.mem_of_getElem? (i := 21) rfl)) rfl
theorem mE_X7_endOverdue : Cond.selects RX7 yX7_endOverdue yX7_endOverdue ∈ gWs := gWs_in (gT_4 (List.mem_of_getElem? (i := 22) rfl)) rfl
theorem mC_X7_endOverdue : Cond.code yX7_endOverdue cX7_endOverdue 5 none ∈ gWs := gWs_in (gT_4 (List.mem_of_getElem? (i := 23) rfl)) rfl
theorem mM_X7_46 : Cond.methodLink RX7 46 yX7_openOf ∈ gWs := gWs_in (gT_4 (List.mem_of_getElem? (i := 24) rfl)) rfl
theorem mI_X7_openOf : Cond.instanceMethod yX7_openOf ∈ gWs := gWs_in (gT_4 (List.mem_of_getElem? (i := 25) rfl)) rfl
theorem mE_X7_openOf : Cond.selects RX7 yX7_openOf yX7_openOf ∈ gWs := gWs_in (gT_4 (List.mem_of_getElem? (i := 26) rfl)) rfl
theorem mC_X7_openOf : Cond.code yX7_openOf cX7_openOf 2 (some .int) ∈ gWs := gWs_in (gT_4 (List.mem_of_getElem? (i := 27) rfl)) rfl
theorem mM_X7_50 : Cond.methodLink RX7 50 yX7_finish ∈ gWs := gWs_in (gT_4 (List.mem_of_getElem? (i := 28) rfl)) rfl
theorem mI_X7_finish : Cond.instanceMethod yX7_finish ∈ gWs := gWs_in (gT_4 (List.mem_of_getElem? (i := 29) rfl)) rfl
theorem mE_X7_finish : Cond.selects RX7 yX7_finish yX7_finish ∈ gWs := gWs_in (gT_4 (List.mem_of_getElem? (i := 30) rfl)) rfl
theorem mC_X7_finish : Cond.code yX7_finish cX7_finish 4 none ∈ gWs := gWs_in (gT_4 (List.mem_of_getElem? (i := 31) rfl)) rfl
theorem mM_X10_186 : Cond.methodLink RX10 186 yX10_whyNotBegin ∈ gWs := gWs_in (gT_4 (List.mem_of_getElem? (i := 32) rfl)) rfl
theorem mI_X10_whyNotBegin : Cond.instanceMethod yX10_whyNotBegin ∈ gWs := gWs_in (gT_4 (List.mem_of_getElem? (i := 34) rfl)) rfl
theorem mC_X10_whyNotBegin : Cond.code yX10_whyNotBegin cX10_whyNotBegin 4 (some .int) ∈ gWs := gWs_in (gT_4 (List.mem_of_getElem? (i := 35) rfl)) rfl
theorem mM_X10_268 : Cond.methodLink RX10 268 yX2_isIn ∈ gWs := gWs_in (gT_4 (List.mem_of_getElem? (i := 36) rfl)) rfl
theorem mI_X2_isIn : Cond.instanceMethod yX2_isIn ∈ gWs := gWs_in (gT_4 (List.mem_of_getElem? (i := 37) rfl)) rfl
theorem mE_X2_isIn : Cond.selects RX2 yX2_isIn yX2_isIn ∈ gWs := gWs_in (gT_4 (List.mem_of_getElem? (i := 38) rfl)) rfl
theorem mC_X2_isIn : Cond.code yX2_isIn cX2_isIn 3 (some .boolean) ∈ gWs := gWs_in (gT_4 (List.mem_of_getElem? (i := 39) rfl)) rfl
theorem mM_X2_25 : Cond.methodLink RX2 25 yX2_knows ∈ gWs := gWs_in (gT_4 (List.mem_of_getElem? (i := 40) rfl)) rfl
theorem mM_X10_197 : Cond.methodLink RX10 197 yX7_openOf ∈ gWs := gWs_in (gT_4 (List.mem_of_getElem? (i := 41) rfl)) rfl
theorem mM_X10_317 : Cond.methodLink RX10 317 yX7_mayNotTry ∈ gWs := gWs_in (gT_4 (List.mem_of_getElem? (i := 42) rfl)) rfl
theorem mI_X7_mayNotTry : Cond.instanceMethod yX7_mayNotTry ∈ gWs := gWs_in (gT_4 (List.mem_of_getElem? (i := 43) rfl)) rfl
theorem mE_X7_mayNotTry : Cond.selects RX7 yX7_mayNotTry yX7_mayNotTry ∈ gWs := gWs_in (gT_4 (List.mem_of_getElem? (i := 44) rfl)) rfl
theorem mC_X7_mayNotTry : Cond.code yX7_mayNotTry cX7_mayNotTry 7 (some .boolean) ∈ gWs := gWs_in (gT_4 (List.mem_of_getElem? (i := 45) rfl)) rfl
theorem mM_X7_54 : Cond.methodLink RX7 54 yX7_isOf ∈ gWs := gWs_in (gT_4 (List.mem_of_getElem? (i := 46) rfl)) rfl
theorem mI_X7_isOf : Cond.instanceMethod yX7_isOf ∈ gWs := gWs_in (gT_4 (List.mem_of_getElem? (i := 47) rfl)) rfl
theorem mE_X7_isOf : Cond.selects RX7 yX7_isOf yX7_isOf ∈ gWs := gWs_in (gT_4 (List.mem_of_getElem? (i := 48) rfl)) rfl
theorem mC_X7_isOf : Cond.code yX7_isOf cX7_isOf 5 (some .boolean) ∈ gWs := gWs_in (gT_4 (List.mem_of_getElem? (i := 49) rfl)) rfl
theorem mM_X10_237 : Cond.methodLink RX10 237 yX10_hasSeen ∈ gWs := gWs_in (gT_4 (List.mem_of_getElem? (i := 50) rfl)) rfl
theorem mI_X10_hasSeen : Cond.instanceMethod yX10_hasSeen ∈ gWs := gWs_in (gT_4 (List.mem_of_getElem? (i := 52) rfl)) rfl
theorem mC_X10_hasSeen : Cond.code yX10_hasSeen cX10_hasSeen 3 (some .boolean) ∈ gWs := gWs_in (gT_4 (List.mem_of_getElem? (i := 53) rfl)) rfl
theorem mM_X10_320 : Cond.methodLink RX10 320 yX9_hasSeen ∈ gWs := gWs_in (gT_4 (List.mem_of_getElem? (i := 54) rfl)) rfl
theorem mI_X9_hasSeen : Cond.instanceMethod yX9_hasSeen ∈ gWs := gWs_in (gT_4 (List.mem_of_getElem? (i := 55) rfl)) rfl
theorem mE_X9_hasSeen : Cond.selects RX9 yX9_hasSeen yX9_hasSeen ∈ gWs := gWs_in (gT_4 (List.mem_of_getElem? (i := 56) rfl)) rfl
theorem mC_X9_hasSeen : Cond.code yX9_hasSeen cX9_hasSeen 7 (some .boolean) ∈ gWs := gWs_in (gT_4 (List.mem_of_getElem? (i := 57) rfl)) rfl
theorem mM_X9_52 : Cond.methodLink RX9 52 yX9_wasOut ∈ gWs := gWs_in (gT_4 (List.mem_of_getElem? (i := 58) rfl)) rfl
theorem mI_X9_wasOut : Cond.instanceMethod yX9_wasOut ∈ gWs := gWs_in (gT_4 (List.mem_of_getElem? (i := 60) rfl)) rfl
theorem mC_X9_wasOut : Cond.code yX9_wasOut cX9_wasOut 7 (some .boolean) ∈ gWs := gWs_in (gT_4 (List.mem_of_getElem? (i := 61) rfl)) rfl
theorem mM_X9_27 : Cond.methodLink RX9 27 yX9_latest ∈ gWs := gWs_in (gT_4 (List.mem_of_getElem? (i := 62) rfl)) rfl
theorem mI_X9_latest : Cond.instanceMethod yX9_latest ∈ gWs := gWs_in (gT_4 (List.mem_of_getElem? (i := 64) rfl)) rfl
theorem mC_X9_latest : Cond.code yX9_latest cX9_latest 2 (some .int) ∈ gWs := gWs_in (gT_4 (List.mem_of_getElem? (i := 65) rfl)) rfl
theorem mM_X10_240 : Cond.methodLink RX10 240 yX10_restOver ∈ gWs := gWs_in (gT_4 (List.mem_of_getElem? (i := 66) rfl)) rfl
theorem mI_X10_restOver : Cond.instanceMethod yX10_restOver ∈ gWs := gWs_in (gT_4 (List.mem_of_getElem? (i := 68) rfl)) rfl
theorem mC_X10_restOver : Cond.code yX10_restOver cX10_restOver 3 (some .int) ∈ gWs := gWs_in (gT_4 (List.mem_of_getElem? (i := 69) rfl)) rfl
theorem mM_X10_323 : Cond.methodLink RX10 323 yX7_lastEnd ∈ gWs := gWs_in (gT_4 (List.mem_of_getElem? (i := 70) rfl)) rfl
theorem mI_X7_lastEnd : Cond.instanceMethod yX7_lastEnd ∈ gWs := gWs_in (gT_4 (List.mem_of_getElem? (i := 71) rfl)) rfl
theorem mE_X7_lastEnd : Cond.selects RX7 yX7_lastEnd yX7_lastEnd ∈ gWs := gWs_in (gT_4 (List.mem_of_getElem? (i := 72) rfl)) rfl
theorem mC_X7_lastEnd : Cond.code yX7_lastEnd cX7_lastEnd 5 (some .int) ∈ gWs := gWs_in (gT_4 (List.mem_of_getElem? (i := 73) rfl)) rfl
theorem mM_X7_58 : Cond.methodLink RX7 58 yJ9_max_7cf53 ∈ gWs := gWs_in (gT_4 (List.mem_of_getElem? (i := 74) rfl)) rfl
theorem mM_X10_189 : Cond.methodLink RX10 189 yX8_countBegun ∈ gWs := gWs_in (gT_4 (List.mem_of_getElem? (i := 75) rfl)) rfl
theorem mI_X8_countBegun : Cond.instanceMethod yX8_countBegun ∈ gWs := gWs_in (gT_4 (List.mem_of_getElem? (i := 76) rfl)) rfl
theorem mE_X8_countBegun : Cond.selects RX8 yX8_countBegun yX8_countBegun ∈ gWs := gWs_in (gT_4 (List.mem_of_getElem? (i := 77) rfl)) rfl
theorem mC_X8_countBegun : Cond.code yX8_countBegun cX8_countBegun 3 none ∈ gWs := gWs_in (gT_4 (List.mem_of_getElem? (i := 78) rfl)) rfl
theorem mM_X10_193 : Cond.methodLink RX10 193 yX7_start ∈ gWs := gWs_in (gT_4 (List.mem_of_getElem? (i := 79) rfl)) rfl
theorem mI_X7_start : Cond.instanceMethod yX7_start ∈ gWs := gWs_in (gT_4 (List.mem_of_getElem? (i := 80) rfl)) rfl
theorem mE_X7_start : Cond.selects RX7 yX7_start yX7_start ∈ gWs := gWs_in (gT_4 (List.mem_of_getElem? (i := 81) rfl)) rfl
theorem mC_X7_start : Cond.code yX7_start cX7_start 6 (some .int) ∈ gWs := gWs_in (gT_4 (List.mem_of_getElem? (i := 82) rfl)) rfl
theorem mM_L_50 : Cond.methodLink RL 50 yX10_reach ∈ gWs := gWs_in (gT_4 (List.mem_of_getElem? (i := 83) rfl)) rfl
theorem mI_X10_reach : Cond.instanceMethod yX10_reach ∈ gWs := gWs_in (gT_4 (List.mem_of_getElem? (i := 84) rfl)) rfl
theorem mE_X10_reach : Cond.selects RX10 yX10_reach yX10_reach ∈ gWs := gWs_in (gT_4 (List.mem_of_getElem? (i := 85) rfl)) rfl
theorem mC_X10_reach : Cond.code yX10_reach cX10_reach 7 (some .int) ∈ gWs := gWs_in (gT_4 (List.mem_of_getElem? (i := 86) rfl)) rfl
theorem mM_X10_209 : Cond.methodLink RX10 209 yX7_finish ∈ gWs := gWs_in (gT_4 (List.mem_of_getElem? (i := 87) rfl)) rfl
theorem mM_L_54 : Cond.methodLink RL 54 yX10_fall ∈ gWs := gWs_in (gT_4 (List.mem_of_getElem? (i := 88) rfl)) rfl
theorem mI_X10_fall : Cond.instanceMethod yX10_fall ∈ gWs := gWs_in (gT_4 (List.mem_of_getElem? (i := 89) rfl)) rfl
theorem mE_X10_fall : Cond.selects RX10 yX10_fall yX10_fall ∈ gWs := gWs_in (gT_4 (List.mem_of_getElem? (i := 90) rfl)) rfl
theorem mC_X10_fall : Cond.code yX10_fall cX10_fall 6 (some .boolean) ∈ gWs := gWs_in (gT_4 (List.mem_of_getElem? (i := 91) rfl)) rfl
theorem mM_L_59 : Cond.methodLink RL 59 yX10_out ∈ gWs := gWs_in (gT_4 (List.mem_of_getElem? (i := 92) rfl)) rfl
theorem mI_X10_out : Cond.instanceMethod yX10_out ∈ gWs := gWs_in (gT_4 (List.mem_of_getElem? (i := 93) rfl)) rfl
theorem mE_X10_out : Cond.selects RX10 yX10_out yX10_out ∈ gWs := gWs_in (gT_4 (List.mem_of_getElem? (i := 94) rfl)) rfl
theorem mC_X10_out : Cond.code yX10_out cX10_out 5 (some .boolean) ∈ gWs := gWs_in (gT_4 (List.mem_of_getElem? (i := 95) rfl)) rfl
theorem mM_X10_212 : Cond.methodLink RX10 212 yX9_isOut ∈ gWs := gWs_in (gT_4 (List.mem_of_getElem? (i := 96) rfl)) rfl
theorem mI_X9_isOut : Cond.instanceMethod yX9_isOut ∈ gWs := gWs_in (gT_4 (List.mem_of_getElem? (i := 97) rfl)) rfl
theorem mE_X9_isOut : Cond.selects RX9 yX9_isOut yX9_isOut ∈ gWs := gWs_in (gT_4 (List.mem_of_getElem? (i := 98) rfl)) rfl
theorem mC_X9_isOut : Cond.code yX9_isOut cX9_isOut 2 (some .boolean) ∈ gWs := gWs_in (gT_4 (List.mem_of_getElem? (i := 99) rfl)) rfl
theorem mM_X10_215 : Cond.methodLink RX10 215 yX9_comeIn ∈ gWs := gWs_in (gT_4 (List.mem_of_getElem? (i := 100) rfl)) rfl
theorem mI_X9_comeIn : Cond.instanceMethod yX9_comeIn ∈ gWs := gWs_in (gT_4 (List.mem_of_getElem? (i := 101) rfl)) rfl
theorem mE_X9_comeIn : Cond.selects RX9 yX9_comeIn yX9_comeIn ∈ gWs := gWs_in (gT_4 (List.mem_of_getElem? (i := 102) rfl)) rfl
theorem mC_X9_comeIn : Cond.code yX9_comeIn cX9_comeIn 3 none ∈ gWs := gWs_in (gT_4 (List.mem_of_getElem? (i := 103) rfl)) rfl
theorem mM_X10_221 : Cond.methodLink RX10 221 yX9_goOut ∈ gWs := gWs_in (gT_4 (List.mem_of_getElem? (i := 104) rfl)) rfl
theorem mI_X9_goOut : Cond.instanceMethod yX9_goOut ∈ gWs := gWs_in (gT_4 (List.mem_of_getElem? (i := 105) rfl)) rfl
theorem mE_X9_goOut : Cond.selects RX9 yX9_goOut yX9_goOut ∈ gWs := gWs_in (gT_4 (List.mem_of_getElem? (i := 106) rfl)) rfl
theorem mC_X9_goOut : Cond.code yX9_goOut cX9_goOut 3 none ∈ gWs := gWs_in (gT_4 (List.mem_of_getElem? (i := 107) rfl)) rfl
theorem mM_L_63 : Cond.methodLink RL 63 yX10_clock ∈ gWs := gWs_in (gT_4 (List.mem_of_getElem? (i := 108) rfl)) rfl
theorem mI_X10_clock : Cond.instanceMethod yX10_clock ∈ gWs := gWs_in (gT_4 (List.mem_of_getElem? (i := 109) rfl)) rfl
theorem mE_X10_clock : Cond.selects RX10 yX10_clock yX10_clock ∈ gWs := gWs_in (gT_4 (List.mem_of_getElem? (i := 110) rfl)) rfl
theorem mC_X10_clock : Cond.code yX10_clock cX10_clock 3 (some .boolean) ∈ gWs := gWs_in (gT_4 (List.mem_of_getElem? (i := 111) rfl)) rfl
theorem mM_L_68 : Cond.methodLink RL 68 yX10_now ∈ gWs := gWs_in (gT_4 (List.mem_of_getElem? (i := 112) rfl)) rfl
theorem mI_X10_now : Cond.instanceMethod yX10_now ∈ gWs := gWs_in (gT_4 (List.mem_of_getElem? (i := 113) rfl)) rfl
theorem mE_X10_now : Cond.selects RX10 yX10_now yX10_now ∈ gWs := gWs_in (gT_4 (List.mem_of_getElem? (i := 114) rfl)) rfl
theorem mC_X10_now : Cond.code yX10_now cX10_now 1 (some .int) ∈ gWs := gWs_in (gT_4 (List.mem_of_getElem? (i := 115) rfl)) rfl
theorem mM_L_72 : Cond.methodLink RL 72 yX10_tried ∈ gWs := gWs_in (gT_4 (List.mem_of_getElem? (i := 116) rfl)) rfl
theorem mI_X10_tried : Cond.instanceMethod yX10_tried ∈ gWs := gWs_in (gT_4 (List.mem_of_getElem? (i := 117) rfl)) rfl
theorem mE_X10_tried : Cond.selects RX10 yX10_tried yX10_tried ∈ gWs := gWs_in (gT_4 (List.mem_of_getElem? (i := 118) rfl)) rfl
theorem mC_X10_tried : Cond.code yX10_tried cX10_tried 3 (some .int) ∈ gWs := gWs_in (gT_4 (List.mem_of_getElem? (i := 119) rfl)) rfl
theorem mM_X10_224 : Cond.methodLink RX10 224 yX7_knows ∈ gWs := gWs_in (gT_4 (List.mem_of_getElem? (i := 120) rfl)) rfl
theorem mI_X7_knows : Cond.instanceMethod yX7_knows ∈ gWs := gWs_in (gT_4 (List.mem_of_getElem? (i := 121) rfl)) rfl
theorem mE_X7_knows : Cond.selects RX7 yX7_knows yX7_knows ∈ gWs := gWs_in (gT_4 (List.mem_of_getElem? (i := 122) rfl)) rfl
theorem mC_X7_knows : Cond.code yX7_knows cX7_knows 2 (some .boolean) ∈ gWs := gWs_in (gT_4 (List.mem_of_getElem? (i := 123) rfl)) rfl
theorem mM_L_77 : Cond.methodLink RL 77 yX10_seen ∈ gWs := gWs_in (gT_4 (List.mem_of_getElem? (i := 124) rfl)) rfl
theorem mI_X10_seen : Cond.instanceMethod yX10_seen ∈ gWs := gWs_in (gT_4 (List.mem_of_getElem? (i := 125) rfl)) rfl
theorem mE_X10_seen : Cond.selects RX10 yX10_seen yX10_seen ∈ gWs := gWs_in (gT_4 (List.mem_of_getElem? (i := 126) rfl)) rfl
theorem mC_X10_seen : Cond.code yX10_seen cX10_seen 3 (some .int) ∈ gWs := gWs_in (gT_4 (List.mem_of_getElem? (i := 127) rfl)) rfl
theorem mM_L_81 : Cond.methodLink RL 81 yX10_ready ∈ gWs := gWs_in (gT_4 (List.mem_of_getElem? (i := 128) rfl)) rfl
theorem mI_X10_ready : Cond.instanceMethod yX10_ready ∈ gWs := gWs_in (gT_4 (List.mem_of_getElem? (i := 129) rfl)) rfl
theorem mE_X10_ready : Cond.selects RX10 yX10_ready yX10_ready ∈ gWs := gWs_in (gT_4 (List.mem_of_getElem? (i := 130) rfl)) rfl
theorem mC_X10_ready : Cond.code yX10_ready cX10_ready 2 (some .int) ∈ gWs := gWs_in (gT_4 (List.mem_of_getElem? (i := 131) rfl)) rfl
theorem mM_X10_243 : Cond.methodLink RX10 243 yJ9_max_7cf53 ∈ gWs := gWs_in (gT_4 (List.mem_of_getElem? (i := 132) rfl)) rfl
theorem mM_L_85 : Cond.methodLink RL 85 yX10_appeal ∈ gWs := gWs_in (gT_4 (List.mem_of_getElem? (i := 133) rfl)) rfl
theorem mI_X10_appeal : Cond.instanceMethod yX10_appeal ∈ gWs := gWs_in (gT_4 (List.mem_of_getElem? (i := 134) rfl)) rfl
theorem mE_X10_appeal : Cond.selects RX10 yX10_appeal yX10_appeal ∈ gWs := gWs_in (gT_4 (List.mem_of_getElem? (i := 135) rfl)) rfl
theorem mC_X10_appeal : Cond.code yX10_appeal cX10_appeal 5 (some .boolean) ∈ gWs := gWs_in (gT_4 (List.mem_of_getElem? (i := 136) rfl)) rfl
theorem mM_X10_248 : Cond.methodLink RX10 248 yX10_isDay ∈ gWs := gWs_in (gT_4 (List.mem_of_getElem? (i := 137) rfl)) rfl
theorem mS_X10_isDay : Cond.static yX10_isDay ∈ gWs := gWs_in (gT_4 (List.mem_of_getElem? (i := 138) rfl)) rfl
theorem mC_X10_isDay : Cond.code yX10_isDay cX10_isDay 1 (some .boolean) ∈ gWs := gWs_in (gT_4 (List.mem_of_getElem? (i := 139) rfl)) rfl
theorem mM_X10_252 : Cond.methodLink RX10 252 yX0_put ∈ gWs := gWs_in (gT_4 (List.mem_of_getElem? (i := 140) rfl)) rfl
theorem mI_X0_put : Cond.instanceMethod yX0_put ∈ gWs := gWs_in (gT_4 (List.mem_of_getElem? (i := 141) rfl)) rfl
theorem mE_X0_put : Cond.selects RX0 yX0_put yX0_put ∈ gWs := gWs_in (gT_4 (List.mem_of_getElem? (i := 142) rfl)) rfl
theorem mC_X0_put : Cond.code yX0_put cX0_put 4 none ∈ gWs := gWs_in (gT_4 (List.mem_of_getElem? (i := 143) rfl)) rfl
theorem mM_L_90 : Cond.methodLink RL 90 yX10_of ∈ gWs := gWs_in (gT_4 (List.mem_of_getElem? (i := 144) rfl)) rfl
theorem mI_X10_of : Cond.instanceMethod yX10_of ∈ gWs := gWs_in (gT_4 (List.mem_of_getElem? (i := 145) rfl)) rfl
theorem mE_X10_of : Cond.selects RX10 yX10_of yX10_of ∈ gWs := gWs_in (gT_4 (List.mem_of_getElem? (i := 146) rfl)) rfl
theorem mC_X10_of : Cond.code yX10_of cX10_of 6 (some .int) ∈ gWs := gWs_in (gT_4 (List.mem_of_getElem? (i := 147) rfl)) rfl
theorem mM_X10_255 : Cond.methodLink RX10 255 yX5_survey ∈ gWs := gWs_in (gT_4 (List.mem_of_getElem? (i := 148) rfl)) rfl
theorem mI_X5_survey : Cond.instanceMethod yX5_survey ∈ gWs := gWs_in (gT_4 (List.mem_of_getElem? (i := 149) rfl)) rfl
theorem mE_X5_survey : Cond.selects RX5 yX5_survey yX5_survey ∈ gWs := gWs_in (gT_4 (List.mem_of_getElem? (i := 150) rfl)) rfl
theorem mC_X5_survey : Cond.code yX5_survey cX5_survey 4 none ∈ gWs := gWs_in (gT_4 (List.mem_of_getElem? (i := 151) rfl)) rfl
theorem mM_X5_63 : Cond.methodLink RX5 63 yX5_hearAppeals ∈ gWs := gWs_in (gT_4 (List.mem_of_getElem? (i := 152) rfl)) rfl
theorem mI_X5_hearAppeals : Cond.instanceMethod yX5_hearAppeals ∈ gWs := gWs_in (gT_4 (List.mem_of_getElem? (i := 154) rfl)) rfl
theorem mC_X5_hearAppeals : Cond.code yX5_hearAppeals cX5_hearAppeals 4 none ∈ gWs := gWs_in (gT_4 (List.mem_of_getElem? (i := 155) rfl)) rfl
theorem mM_X5_67 : Cond.methodLink RX5 67 yJ7_fill_53178 ∈ gWs := gWs_in (gT_4 (List.mem_of_getElem? (i := 156) rfl)) rfl
theorem mM_X5_91 : Cond.methodLink RX5 91 yX5_cellOf ∈ gWs := gWs_in (gT_4 (List.mem_of_getElem? (i := 157) rfl)) rfl
theorem mS_X5_cellOf : Cond.static yX5_cellOf ∈ gWs := gWs_in (gT_4 (List.mem_of_getElem? (i := 158) rfl)) rfl
theorem mC_X5_cellOf : Cond.code yX5_cellOf cX5_cellOf 3 (some .int) ∈ gWs := gWs_in (gT_4 (List.mem_of_getElem? (i := 159) rfl)) rfl
theorem mM_X10_258 : Cond.methodLink RX10 258 yX5_workFacts ∈ gWs := gWs_in (gT_4 (List.mem_of_getElem? (i := 160) rfl)) rfl
theorem mI_X5_workFacts : Cond.instanceMethod yX5_workFacts ∈ gWs := gWs_in (gT_4 (List.mem_of_getElem? (i := 161) rfl)) rfl
theorem mE_X5_workFacts : Cond.selects RX5 yX5_workFacts yX5_workFacts ∈ gWs := gWs_in (gT_4 (List.mem_of_getElem? (i := 162) rfl)) rfl
theorem mC_X5_workFacts : Cond.code yX5_workFacts cX5_workFacts 8 none ∈ gWs := gWs_in (gT_4 (List.mem_of_getElem? (i := 163) rfl)) rfl
theorem mM_X5_108 : Cond.methodLink RX5 108 yX8_holdsOf ∈ gWs := gWs_in (gT_4 (List.mem_of_getElem? (i := 164) rfl)) rfl
theorem mM_X5_114 : Cond.methodLink RX5 114 yX8_zonesUpTo ∈ gWs := gWs_in (gT_4 (List.mem_of_getElem? (i := 165) rfl)) rfl
theorem mI_X8_zonesUpTo : Cond.instanceMethod yX8_zonesUpTo ∈ gWs := gWs_in (gT_4 (List.mem_of_getElem? (i := 166) rfl)) rfl
theorem mE_X8_zonesUpTo : Cond.selects RX8 yX8_zonesUpTo yX8_zonesUpTo ∈ gWs := gWs_in (gT_4 (List.mem_of_getElem? (i := 167) rfl)) rfl
theorem mC_X8_zonesUpTo : Cond.code yX8_zonesUpTo cX8_zonesUpTo 7 (some .int) ∈ gWs := gWs_in (gT_4 (List.mem_of_getElem? (i := 168) rfl)) rfl
theorem mM_X8_27 : Cond.methodLink RX8 27 yX8_zoneOf ∈ gWs := gWs_in (gT_4 (List.mem_of_getElem? (i := 169) rfl)) rfl
theorem mM_X10_264 : Cond.methodLink RX10 264 yX4_pointsFor ∈ gWs := gWs_in (gT_4 (List.mem_of_getElem? (i := 170) rfl)) rfl
theorem mI_X4_pointsFor : Cond.instanceMethod yX4_pointsFor ∈ gWs := gWs_in (gT_4 (List.mem_of_getElem? (i := 171) rfl)) rfl
theorem mE_X4_pointsFor : Cond.selects RX4 yX4_pointsFor yX4_pointsFor ∈ gWs := gWs_in (gT_4 (List.mem_of_getElem? (i := 172) rfl)) rfl
theorem mC_X4_pointsFor : Cond.code yX4_pointsFor cX4_pointsFor 5 (some .int) ∈ gWs := gWs_in (gT_4 (List.mem_of_getElem? (i := 173) rfl)) rfl
theorem mM_X4_63 : Cond.methodLink RX4 63 yX4_worked ∈ gWs := gWs_in (gT_4 (List.mem_of_getElem? (i := 174) rfl)) rfl
theorem mS_X4_worked : Cond.static yX4_worked ∈ gWs := gWs_in (gT_4 (List.mem_of_getElem? (i := 175) rfl)) rfl
theorem mC_X4_worked : Cond.code yX4_worked cX4_worked 5 (some .long) ∈ gWs := gWs_in (gT_4 (List.mem_of_getElem? (i := 176) rfl)) rfl
theorem mM_X4_67 : Cond.methodLink RX4 67 yX4_bounded ∈ gWs := gWs_in (gT_4 (List.mem_of_getElem? (i := 177) rfl)) rfl
theorem mS_X4_bounded : Cond.static yX4_bounded ∈ gWs := gWs_in (gT_4 (List.mem_of_getElem? (i := 178) rfl)) rfl
theorem mC_X4_bounded : Cond.code yX4_bounded cX4_bounded 2 (some .long) ∈ gWs := gWs_in (gT_4 (List.mem_of_getElem? (i := 179) rfl)) rfl
theorem mD_X4_71 : Cond.constantLong RX4 71 (-1000000000) ∈ gWs := gWs_in (gT_4 (List.mem_of_getElem? (i := 180) rfl)) rfl
theorem mD_X4_73 : Cond.constantLong RX4 73 (1000000000) ∈ gWs := gWs_in (gT_4 (List.mem_of_getElem? (i := 181) rfl)) rfl
theorem mM_X4_75 : Cond.methodLink RX4 75 yJ9_min_f86c9 ∈ gWs := gWs_in (gT_4 (List.mem_of_getElem? (i := 182) rfl)) rfl
theorem mS_J9_min_f86c9 : Cond.static yJ9_min_f86c9 ∈ gWs := gWs_in (gT_4 (List.mem_of_getElem? (i := 183) rfl)) rfl
theorem mC_J9_min_f86c9 : Cond.code yJ9_min_f86c9 cJ9_min_f86c9 4 (some .long) ∈ gWs := gWs_in (gT_4 (List.mem_of_getElem? (i := 184) rfl)) rfl
theorem mM_X4_81 : Cond.methodLink RX4 81 yJ9_max_f86c9 ∈ gWs := gWs_in (gT_4 (List.mem_of_getElem? (i := 185) rfl)) rfl
theorem mS_J9_max_f86c9 : Cond.static yJ9_max_f86c9 ∈ gWs := gWs_in (gT_4 (List.mem_of_getElem? (i := 186) rfl)) rfl
theorem mC_J9_max_f86c9 : Cond.code yJ9_max_f86c9 cJ9_max_f86c9 4 (some .long) ∈ gWs := gWs_in (gT_4 (List.mem_of_getElem? (i := 187) rfl)) rfl
theorem mM_L_94 : Cond.methodLink RL 94 yX10_key ∈ gWs := gWs_in (gT_4 (List.mem_of_getElem? (i := 188) rfl)) rfl
theorem mI_X10_key : Cond.instanceMethod yX10_key ∈ gWs := gWs_in (gT_4 (List.mem_of_getElem? (i := 189) rfl)) rfl
theorem mE_X10_key : Cond.selects RX10 yX10_key yX10_key ∈ gWs := gWs_in (gT_4 (List.mem_of_getElem? (i := 190) rfl)) rfl
theorem mC_X10_key : Cond.code yX10_key cX10_key 5 (some .long) ∈ gWs := gWs_in (gT_4 (List.mem_of_getElem? (i := 191) rfl)) rfl
theorem mM_X10_274 : Cond.methodLink RX10 274 yX5_workKeys ∈ gWs := gWs_in (gT_4 (List.mem_of_getElem? (i := 192) rfl)) rfl
theorem mI_X5_workKeys : Cond.instanceMethod yX5_workKeys ∈ gWs := gWs_in (gT_4 (List.mem_of_getElem? (i := 193) rfl)) rfl
theorem mE_X5_workKeys : Cond.selects RX5 yX5_workKeys yX5_workKeys ∈ gWs := gWs_in (gT_4 (List.mem_of_getElem? (i := 194) rfl)) rfl
theorem mC_X5_workKeys : Cond.code yX5_workKeys cX5_workKeys 5 none ∈ gWs := gWs_in (gT_4 (List.mem_of_getElem? (i := 195) rfl)) rfl
theorem mM_X5_123 : Cond.methodLink RX5 123 yJ7_fill_d0a16 ∈ gWs := gWs_in (gT_4 (List.mem_of_getElem? (i := 196) rfl)) rfl
theorem mS_J7_fill_d0a16 : Cond.static yJ7_fill_d0a16 ∈ gWs := gWs_in (gT_4 (List.mem_of_getElem? (i := 197) rfl)) rfl
theorem mC_J7_fill_d0a16 : Cond.code yJ7_fill_d0a16 cJ7_fill_d0a16 5 none ∈ gWs := gWs_in (gT_4 (List.mem_of_getElem? (i := 198) rfl)) rfl
theorem mM_X5_126 : Cond.methodLink RX5 126 yX4_shapeOf ∈ gWs := gWs_in (gT_4 (List.mem_of_getElem? (i := 199) rfl)) rfl
theorem mM_X5_131 : Cond.methodLink RX5 131 yX5_workFacts ∈ gWs := gWs_in (gT_4 (List.mem_of_getElem? (i := 200) rfl)) rfl
theorem mM_X5_135 : Cond.methodLink RX5 135 yX4_pointsFor ∈ gWs := gWs_in (gT_4 (List.mem_of_getElem? (i := 201) rfl)) rfl
theorem mM_X5_139 : Cond.methodLink RX5 139 yJ9_max_f86c9 ∈ gWs := gWs_in (gT_4 (List.mem_of_getElem? (i := 202) rfl)) rfl
theorem mM_X5_148 : Cond.methodLink RX5 148 yX5_keyRow ∈ gWs := gWs_in (gT_4 (List.mem_of_getElem? (i := 203) rfl)) rfl
theorem mS_X5_keyRow : Cond.static yX5_keyRow ∈ gWs := gWs_in (gT_4 (List.mem_of_getElem? (i := 204) rfl)) rfl
theorem mC_X5_keyRow : Cond.code yX5_keyRow cX5_keyRow 2 (some .int) ∈ gWs := gWs_in (gT_4 (List.mem_of_getElem? (i := 205) rfl)) rfl
theorem mM_X10_277 : Cond.methodLink RX10 277 yX5_keyOf ∈ gWs := gWs_in (gT_4 (List.mem_of_getElem? (i := 206) rfl)) rfl
theorem mI_X5_keyOf : Cond.instanceMethod yX5_keyOf ∈ gWs := gWs_in (gT_4 (List.mem_of_getElem? (i := 207) rfl)) rfl
theorem mE_X5_keyOf : Cond.selects RX5 yX5_keyOf yX5_keyOf ∈ gWs := gWs_in (gT_4 (List.mem_of_getElem? (i := 208) rfl)) rfl
theorem mC_X5_keyOf : Cond.code yX5_keyOf cX5_keyOf 4 (some .long) ∈ gWs := gWs_in (gT_4 (List.mem_of_getElem? (i := 209) rfl)) rfl
theorem mM_L_99 : Cond.methodLink RL 99 yX10_rank ∈ gWs := gWs_in (gT_4 (List.mem_of_getElem? (i := 210) rfl)) rfl
theorem mI_X10_rank : Cond.instanceMethod yX10_rank ∈ gWs := gWs_in (gT_4 (List.mem_of_getElem? (i := 211) rfl)) rfl
theorem mE_X10_rank : Cond.selects RX10 yX10_rank yX10_rank ∈ gWs := gWs_in (gT_4 (List.mem_of_getElem? (i := 212) rfl)) rfl
theorem mC_X10_rank : Cond.code yX10_rank cX10_rank 4 (some .int) ∈ gWs := gWs_in (gT_4 (List.mem_of_getElem? (i := 213) rfl)) rfl
theorem mM_X10_281 : Cond.methodLink RX10 281 yX5_workRanks ∈ gWs := gWs_in (gT_4 (List.mem_of_getElem? (i := 214) rfl)) rfl
theorem mI_X5_workRanks : Cond.instanceMethod yX5_workRanks ∈ gWs := gWs_in (gT_4 (List.mem_of_getElem? (i := 215) rfl)) rfl
theorem mE_X5_workRanks : Cond.selects RX5 yX5_workRanks yX5_workRanks ∈ gWs := gWs_in (gT_4 (List.mem_of_getElem? (i := 216) rfl)) rfl
theorem mC_X5_workRanks : Cond.code yX5_workRanks cX5_workRanks 5 none ∈ gWs := gWs_in (gT_4 (List.mem_of_getElem? (i := 217) rfl)) rfl
theorem mM_X5_154 : Cond.methodLink RX5 154 yX5_survey ∈ gWs := gWs_in (gT_4 (List.mem_of_getElem? (i := 218) rfl)) rfl
theorem mM_X5_162 : Cond.methodLink RX5 162 yX5_lowestAsked ∈ gWs := gWs_in (gT_4 (List.mem_of_getElem? (i := 219) rfl)) rfl
theorem mI_X5_lowestAsked : Cond.instanceMethod yX5_lowestAsked ∈ gWs := gWs_in (gT_4 (List.mem_of_getElem? (i := 221) rfl)) rfl
theorem mC_X5_lowestAsked : Cond.code yX5_lowestAsked cX5_lowestAsked 2 (some .int) ∈ gWs := gWs_in (gT_4 (List.mem_of_getElem? (i := 222) rfl)) rfl
theorem mM_X5_166 : Cond.methodLink RX5 166 yX2_isIn ∈ gWs := gWs_in (gT_4 (List.mem_of_getElem? (i := 223) rfl)) rfl
theorem mM_X5_170 : Cond.methodLink RX5 170 yX5_workKeys ∈ gWs := gWs_in (gT_4 (List.mem_of_getElem? (i := 224) rfl)) rfl
theorem mM_X5_174 : Cond.methodLink RX5 174 yX5_manyAhead ∈ gWs := gWs_in (gT_4 (List.mem_of_getElem? (i := 225) rfl)) rfl
theorem mI_X5_manyAhead : Cond.instanceMethod yX5_manyAhead ∈ gWs := gWs_in (gT_4 (List.mem_of_getElem? (i := 227) rfl)) rfl
theorem mC_X5_manyAhead : Cond.code yX5_manyAhead cX5_manyAhead 5 (some .int) ∈ gWs := gWs_in (gT_4 (List.mem_of_getElem? (i := 228) rfl)) rfl
theorem mM_X5_177 : Cond.methodLink RX5 177 yX5_isAhead ∈ gWs := gWs_in (gT_4 (List.mem_of_getElem? (i := 229) rfl)) rfl
theorem mI_X5_isAhead : Cond.instanceMethod yX5_isAhead ∈ gWs := gWs_in (gT_4 (List.mem_of_getElem? (i := 231) rfl)) rfl
theorem mC_X5_isAhead : Cond.code yX5_isAhead cX5_isAhead 10 (some .boolean) ∈ gWs := gWs_in (gT_4 (List.mem_of_getElem? (i := 232) rfl)) rfl
theorem mM_X5_185 : Cond.methodLink RX5 185 yX5_keyOf ∈ gWs := gWs_in (gT_4 (List.mem_of_getElem? (i := 233) rfl)) rfl
theorem mM_L_103 : Cond.methodLink RL 103 yX10_advance ∈ gWs := gWs_in (gT_4 (List.mem_of_getElem? (i := 234) rfl)) rfl
theorem mI_X10_advance : Cond.instanceMethod yX10_advance ∈ gWs := gWs_in (gT_4 (List.mem_of_getElem? (i := 235) rfl)) rfl
theorem mE_X10_advance : Cond.selects RX10 yX10_advance yX10_advance ∈ gWs := gWs_in (gT_4 (List.mem_of_getElem? (i := 236) rfl)) rfl
theorem mC_X10_advance : Cond.code yX10_advance cX10_advance 4 (some .int) ∈ gWs := gWs_in (gT_4 (List.mem_of_getElem? (i := 237) rfl)) rfl
theorem mM_X10_287 : Cond.methodLink RX10 287 yX7_anyOpen ∈ gWs := gWs_in (gT_4 (List.mem_of_getElem? (i := 238) rfl)) rfl
theorem mI_X7_anyOpen : Cond.instanceMethod yX7_anyOpen ∈ gWs := gWs_in (gT_4 (List.mem_of_getElem? (i := 239) rfl)) rfl
theorem mE_X7_anyOpen : Cond.selects RX7 yX7_anyOpen yX7_anyOpen ∈ gWs := gWs_in (gT_5 (List.mem_of_getElem? (i := 0) rfl)) rfl
theorem mC_X7_anyOpen : Cond.code yX7_anyOpen cX7_anyOpen 2 (some .boolean) ∈ gWs := gWs_in (gT_5 (List.mem_of_getElem? (i := 1) rfl)) rfl
theorem mM_X10_290 : Cond.methodLink RX10 290 yX2_letCome ∈ gWs := gWs_in (gT_5 (List.mem_of_getElem? (i := 2) rfl)) rfl
theorem mI_X2_letCome : Cond.instanceMethod yX2_letCome ∈ gWs := gWs_in (gT_5 (List.mem_of_getElem? (i := 3) rfl)) rfl
theorem mE_X2_letCome : Cond.selects RX2 yX2_letCome yX2_letCome ∈ gWs := gWs_in (gT_5 (List.mem_of_getElem? (i := 4) rfl)) rfl
theorem mC_X2_letCome : Cond.code yX2_letCome cX2_letCome 6 (some .int) ∈ gWs := gWs_in (gT_5 (List.mem_of_getElem? (i := 5) rfl)) rfl
theorem mM_L_107 : Cond.methodLink RL 107 yX10_order ∈ gWs := gWs_in (gT_5 (List.mem_of_getElem? (i := 6) rfl)) rfl
theorem mI_X10_order : Cond.instanceMethod yX10_order ∈ gWs := gWs_in (gT_5 (List.mem_of_getElem? (i := 7) rfl)) rfl
theorem mE_X10_order : Cond.selects RX10 yX10_order yX10_order ∈ gWs := gWs_in (gT_5 (List.mem_of_getElem? (i := 8) rfl)) rfl
theorem mC_X10_order : Cond.code yX10_order cX10_order 3 (some .int) ∈ gWs := gWs_in (gT_5 (List.mem_of_getElem? (i := 9) rfl)) rfl
theorem mM_X10_294 : Cond.methodLink RX10 294 yX2_dayOf ∈ gWs := gWs_in (gT_5 (List.mem_of_getElem? (i := 10) rfl)) rfl
theorem mI_X2_dayOf : Cond.instanceMethod yX2_dayOf ∈ gWs := gWs_in (gT_5 (List.mem_of_getElem? (i := 11) rfl)) rfl
theorem mE_X2_dayOf : Cond.selects RX2 yX2_dayOf yX2_dayOf ∈ gWs := gWs_in (gT_5 (List.mem_of_getElem? (i := 12) rfl)) rfl
theorem mC_X2_dayOf : Cond.code yX2_dayOf cX2_dayOf 2 (some .int) ∈ gWs := gWs_in (gT_5 (List.mem_of_getElem? (i := 13) rfl)) rfl
theorem mM_X10_297 : Cond.methodLink RX10 297 yX5_starter ∈ gWs := gWs_in (gT_5 (List.mem_of_getElem? (i := 14) rfl)) rfl
theorem mI_X5_starter : Cond.instanceMethod yX5_starter ∈ gWs := gWs_in (gT_5 (List.mem_of_getElem? (i := 15) rfl)) rfl
theorem mE_X5_starter : Cond.selects RX5 yX5_starter yX5_starter ∈ gWs := gWs_in (gT_5 (List.mem_of_getElem? (i := 16) rfl)) rfl
theorem mC_X5_starter : Cond.code yX5_starter cX5_starter 4 (some .int) ∈ gWs := gWs_in (gT_5 (List.mem_of_getElem? (i := 17) rfl)) rfl
theorem mM_X5_192 : Cond.methodLink RX5 192 yX5_manyStartAhead ∈ gWs := gWs_in (gT_5 (List.mem_of_getElem? (i := 18) rfl)) rfl
theorem mI_X5_manyStartAhead : Cond.instanceMethod yX5_manyStartAhead ∈ gWs := gWs_in (gT_5 (List.mem_of_getElem? (i := 20) rfl)) rfl
theorem mC_X5_manyStartAhead : Cond.code yX5_manyStartAhead cX5_manyStartAhead 5 (some .int) ∈ gWs := gWs_in (gT_5 (List.mem_of_getElem? (i := 21) rfl)) rfl
theorem mM_L_111 : Cond.methodLink RL 111 yX10_parts ∈ gWs := gWs_in (gT_5 (List.mem_of_getElem? (i := 22) rfl)) rfl
theorem mI_X10_parts : Cond.instanceMethod yX10_parts ∈ gWs := gWs_in (gT_5 (List.mem_of_getElem? (i := 23) rfl)) rfl
theorem mE_X10_parts : Cond.selects RX10 yX10_parts yX10_parts ∈ gWs := gWs_in (gT_5 (List.mem_of_getElem? (i := 24) rfl)) rfl
theorem mC_X10_parts : Cond.code yX10_parts cX10_parts 4 (some .int) ∈ gWs := gWs_in (gT_5 (List.mem_of_getElem? (i := 25) rfl)) rfl
theorem mM_X10_300 : Cond.methodLink RX10 300 yX5_workPoints ∈ gWs := gWs_in (gT_5 (List.mem_of_getElem? (i := 26) rfl)) rfl
theorem mI_X5_workPoints : Cond.instanceMethod yX5_workPoints ∈ gWs := gWs_in (gT_5 (List.mem_of_getElem? (i := 27) rfl)) rfl
theorem mE_X5_workPoints : Cond.selects RX5 yX5_workPoints yX5_workPoints ∈ gWs := gWs_in (gT_5 (List.mem_of_getElem? (i := 28) rfl)) rfl
theorem mC_X5_workPoints : Cond.code yX5_workPoints cX5_workPoints 5 none ∈ gWs := gWs_in (gT_5 (List.mem_of_getElem? (i := 29) rfl)) rfl
theorem mM_X10_303 : Cond.methodLink RX10 303 yX5_pairsParted ∈ gWs := gWs_in (gT_5 (List.mem_of_getElem? (i := 30) rfl)) rfl
theorem mI_X5_pairsParted : Cond.instanceMethod yX5_pairsParted ∈ gWs := gWs_in (gT_5 (List.mem_of_getElem? (i := 31) rfl)) rfl
theorem mE_X5_pairsParted : Cond.selects RX5 yX5_pairsParted yX5_pairsParted ∈ gWs := gWs_in (gT_5 (List.mem_of_getElem? (i := 32) rfl)) rfl
theorem mC_X5_pairsParted : Cond.code yX5_pairsParted cX5_pairsParted 6 (some .int) ∈ gWs := gWs_in (gT_5 (List.mem_of_getElem? (i := 33) rfl)) rfl
theorem mM_X5_195 : Cond.methodLink RX5 195 yX5_together ∈ gWs := gWs_in (gT_5 (List.mem_of_getElem? (i := 34) rfl)) rfl
theorem mI_X5_together : Cond.instanceMethod yX5_together ∈ gWs := gWs_in (gT_5 (List.mem_of_getElem? (i := 36) rfl)) rfl
theorem mC_X5_together : Cond.code yX5_together cX5_together 6 (some .long) ∈ gWs := gWs_in (gT_5 (List.mem_of_getElem? (i := 37) rfl)) rfl
theorem mM_L_115 : Cond.methodLink RL 115 yX10_choose ∈ gWs := gWs_in (gT_5 (List.mem_of_getElem? (i := 38) rfl)) rfl
theorem mI_X10_choose : Cond.instanceMethod yX10_choose ∈ gWs := gWs_in (gT_5 (List.mem_of_getElem? (i := 39) rfl)) rfl
theorem mE_X10_choose : Cond.selects RX10 yX10_choose yX10_choose ∈ gWs := gWs_in (gT_5 (List.mem_of_getElem? (i := 40) rfl)) rfl
theorem mC_X10_choose : Cond.code yX10_choose cX10_choose 5 (some .int) ∈ gWs := gWs_in (gT_5 (List.mem_of_getElem? (i := 41) rfl)) rfl
theorem mM_X10_306 : Cond.methodLink RX10 306 yX5_bestSet ∈ gWs := gWs_in (gT_5 (List.mem_of_getElem? (i := 42) rfl)) rfl
theorem mI_X5_bestSet : Cond.instanceMethod yX5_bestSet ∈ gWs := gWs_in (gT_5 (List.mem_of_getElem? (i := 43) rfl)) rfl
theorem mE_X5_bestSet : Cond.selects RX5 yX5_bestSet yX5_bestSet ∈ gWs := gWs_in (gT_5 (List.mem_of_getElem? (i := 44) rfl)) rfl
theorem mC_X5_bestSet : Cond.code yX5_bestSet cX5_bestSet 8 (some .int) ∈ gWs := gWs_in (gT_5 (List.mem_of_getElem? (i := 45) rfl)) rfl
theorem mM_X5_199 : Cond.methodLink RX5 199 yJ6_bitCount_0f7a4 ∈ gWs := gWs_in (gT_5 (List.mem_of_getElem? (i := 46) rfl)) rfl
theorem mS_J6_bitCount_0f7a4 : Cond.static yJ6_bitCount_0f7a4 ∈ gWs := gWs_in (gT_5 (List.mem_of_getElem? (i := 47) rfl)) rfl
theorem mC_J6_bitCount_0f7a4 : Cond.code yJ6_bitCount_0f7a4 cJ6_bitCount_0f7a4 1 (some .int) ∈ gWs := gWs_in (gT_5 (List.mem_of_getElem? (i := 48) rfl)) rfl
theorem mD_J6_265 : Cond.constant RJ6 265 (1431655765) ∈ gWs := gWs_in (gT_5 (List.mem_of_getElem? (i := 49) rfl)) rfl
theorem mD_J6_266 : Cond.constant RJ6 266 (858993459) ∈ gWs := gWs_in (gT_5 (List.mem_of_getElem? (i := 50) rfl)) rfl
theorem mD_J6_267 : Cond.constant RJ6 267 (252645135) ∈ gWs := gWs_in (gT_5 (List.mem_of_getElem? (i := 51) rfl)) rfl
theorem mM_X5_204 : Cond.methodLink RX5 204 yX5_pairsParted ∈ gWs := gWs_in (gT_5 (List.mem_of_getElem? (i := 52) rfl)) rfl
theorem mK_L_10 : Cond.classLink RL 10 RX11 ∈ gWs := gWs_in (gT_5 (List.mem_of_getElem? (i := 53) rfl)) rfl
theorem mT_X11 : Cond.instantiable RX11 70 ∈ gWs := gWs_in (gT_5 (List.mem_of_getElem? (i := 54) rfl)) rfl
theorem mM_L_12 : Cond.methodLink RL 12 yX11_init ∈ gWs := gWs_in (gT_5 (List.mem_of_getElem? (i := 55) rfl)) rfl
theorem mI_X11_init : Cond.instanceMethod yX11_init ∈ gWs := gWs_in (gT_5 (List.mem_of_getElem? (i := 56) rfl)) rfl
theorem mC_X11_init : Cond.code yX11_init cX11_init 1 none ∈ gWs := gWs_in (gT_5 (List.mem_of_getElem? (i := 57) rfl)) rfl
theorem mM_X11_1 : Cond.methodLink RX11 1 objectInit ∈ gWs := gWs_in (gT_5 (List.mem_of_getElem? (i := 58) rfl)) rfl
theorem mF_X11_149 : Cond.fieldLink RX11 149 "RouteWallModel" "status" "I" ∈ gWs := gWs_in (gT_5 (List.mem_of_getElem? (i := 59) rfl)) rfl
theorem mF_X11_146 : Cond.fieldLink RX11 146 "RouteWallModel" "thrown" "I" ∈ gWs := gWs_in (gT_5 (List.mem_of_getElem? (i := 60) rfl)) rfl
theorem mF_X11_7 : Cond.fieldLink RX11 7 "RouteWallModel" "tape" "[B" ∈ gWs := gWs_in (gT_5 (List.mem_of_getElem? (i := 61) rfl)) rfl
theorem mF_X11_289 : Cond.fieldLink RX11 289 "RouteWallModel" "taped" "I" ∈ gWs := gWs_in (gT_5 (List.mem_of_getElem? (i := 62) rfl)) rfl
theorem mF_X11_152 : Cond.fieldLink RX11 152 "RouteWallModel" "end" "I" ∈ gWs := gWs_in (gT_5 (List.mem_of_getElem? (i := 63) rfl)) rfl
theorem mF_X11_13 : Cond.fieldLink RX11 13 "RouteWallModel" "faultKind" "I" ∈ gWs := gWs_in (gT_5 (List.mem_of_getElem? (i := 64) rfl)) rfl
theorem mF_X11_17 : Cond.fieldLink RX11 17 "RouteWallModel" "faultAt" "I" ∈ gWs := gWs_in (gT_5 (List.mem_of_getElem? (i := 65) rfl)) rfl
theorem mF_X11_188 : Cond.fieldLink RX11 188 "RouteWallModel" "bad" "I" ∈ gWs := gWs_in (gT_5 (List.mem_of_getElem? (i := 66) rfl)) rfl
theorem mF_X11_191 : Cond.fieldLink RX11 191 "RouteWallModel" "badAt" "I" ∈ gWs := gWs_in (gT_5 (List.mem_of_getElem? (i := 67) rfl)) rfl
theorem mF_X11_165 : Cond.fieldLink RX11 165 "RouteWallModel" "sort" "I" ∈ gWs := gWs_in (gT_5 (List.mem_of_getElem? (i := 68) rfl)) rfl
theorem mF_X11_158 : Cond.fieldLink RX11 158 "RouteWallModel" "at" "I" ∈ gWs := gWs_in (gT_5 (List.mem_of_getElem? (i := 69) rfl)) rfl
theorem mF_X11_155 : Cond.fieldLink RX11 155 "RouteWallModel" "behind" "I" ∈ gWs := gWs_in (gT_5 (List.mem_of_getElem? (i := 70) rfl)) rfl
theorem mF_X11_185 : Cond.fieldLink RX11 185 "RouteWallModel" "number" "I" ∈ gWs := gWs_in (gT_5 (List.mem_of_getElem? (i := 71) rfl)) rfl
theorem mF_X11_172 : Cond.fieldLink RX11 172 "RouteWallModel" "word" "J" ∈ gWs := gWs_in (gT_5 (List.mem_of_getElem? (i := 72) rfl)) rfl
theorem mF_X11_301 : Cond.fieldLink RX11 301 "RouteWallModel" "rounds" "I" ∈ gWs := gWs_in (gT_5 (List.mem_of_getElem? (i := 73) rfl)) rfl
theorem mF_X11_304 : Cond.fieldLink RX11 304 "RouteWallModel" "parts" "I" ∈ gWs := gWs_in (gT_5 (List.mem_of_getElem? (i := 74) rfl)) rfl
theorem mF_X11_307 : Cond.fieldLink RX11 307 "RouteWallModel" "keys" "I" ∈ gWs := gWs_in (gT_5 (List.mem_of_getElem? (i := 75) rfl)) rfl
theorem mF_X11_207 : Cond.fieldLink RX11 207 "RouteWallModel" "newRounds" "I" ∈ gWs := gWs_in (gT_5 (List.mem_of_getElem? (i := 76) rfl)) rfl
theorem mF_X11_217 : Cond.fieldLink RX11 217 "RouteWallModel" "newParts" "I" ∈ gWs := gWs_in (gT_5 (List.mem_of_getElem? (i := 77) rfl)) rfl
theorem mF_X11_214 : Cond.fieldLink RX11 214 "RouteWallModel" "newKeys" "I" ∈ gWs := gWs_in (gT_5 (List.mem_of_getElem? (i := 78) rfl)) rfl
theorem mF_X11_310 : Cond.fieldLink RX11 310 "RouteWallModel" "goesBack" "Z" ∈ gWs := gWs_in (gT_5 (List.mem_of_getElem? (i := 79) rfl)) rfl
theorem mF_X11_210 : Cond.fieldLink RX11 210 "RouteWallModel" "newBack" "Z" ∈ gWs := gWs_in (gT_5 (List.mem_of_getElem? (i := 80) rfl)) rfl
theorem mF_X11_20 : Cond.fieldLink RX11 20 "RouteWallModel" "routes" "[I" ∈ gWs := gWs_in (gT_5 (List.mem_of_getElem? (i := 81) rfl)) rfl
theorem mF_X11_24 : Cond.fieldLink RX11 24 "RouteWallModel" "tries" "[I" ∈ gWs := gWs_in (gT_5 (List.mem_of_getElem? (i := 82) rfl)) rfl
theorem mF_X11_27 : Cond.fieldLink RX11 27 "RouteWallModel" "seconds" "[I" ∈ gWs := gWs_in (gT_5 (List.mem_of_getElem? (i := 83) rfl)) rfl
theorem mF_X11_30 : Cond.fieldLink RX11 30 "RouteWallModel" "rest" "[I" ∈ gWs := gWs_in (gT_5 (List.mem_of_getElem? (i := 84) rfl)) rfl
theorem mF_X11_33 : Cond.fieldLink RX11 33 "RouteWallModel" "newRoutes" "[I" ∈ gWs := gWs_in (gT_5 (List.mem_of_getElem? (i := 85) rfl)) rfl
theorem mF_X11_36 : Cond.fieldLink RX11 36 "RouteWallModel" "newTries" "[I" ∈ gWs := gWs_in (gT_5 (List.mem_of_getElem? (i := 86) rfl)) rfl
theorem mF_X11_39 : Cond.fieldLink RX11 39 "RouteWallModel" "newSeconds" "[I" ∈ gWs := gWs_in (gT_5 (List.mem_of_getElem? (i := 87) rfl)) rfl
theorem mF_X11_42 : Cond.fieldLink RX11 42 "RouteWallModel" "newRest" "[I" ∈ gWs := gWs_in (gT_5 (List.mem_of_getElem? (i := 88) rfl)) rfl
theorem mF_X11_45 : Cond.fieldLink RX11 45 "RouteWallModel" "part" "[I" ∈ gWs := gWs_in (gT_5 (List.mem_of_getElem? (i := 89) rfl)) rfl
theorem mF_X11_48 : Cond.fieldLink RX11 48 "RouteWallModel" "partNumber" "[I" ∈ gWs := gWs_in (gT_5 (List.mem_of_getElem? (i := 90) rfl)) rfl
theorem mF_X11_51 : Cond.fieldLink RX11 51 "RouteWallModel" "newPart" "[I" ∈ gWs := gWs_in (gT_5 (List.mem_of_getElem? (i := 91) rfl)) rfl
theorem mF_X11_54 : Cond.fieldLink RX11 54 "RouteWallModel" "newNumber" "[I" ∈ gWs := gWs_in (gT_5 (List.mem_of_getElem? (i := 92) rfl)) rfl
theorem mF_X11_57 : Cond.fieldLink RX11 57 "RouteWallModel" "key" "[I" ∈ gWs := gWs_in (gT_5 (List.mem_of_getElem? (i := 93) rfl)) rfl
theorem mF_X11_60 : Cond.fieldLink RX11 60 "RouteWallModel" "newKey" "[I" ∈ gWs := gWs_in (gT_5 (List.mem_of_getElem? (i := 94) rfl)) rfl
theorem mF_X11_63 : Cond.fieldLink RX11 63 "RouteWallModel" "isUp" "[Z" ∈ gWs := gWs_in (gT_5 (List.mem_of_getElem? (i := 95) rfl)) rfl
theorem mF_X11_67 : Cond.fieldLink RX11 67 "RouteWallModel" "newUp" "[Z" ∈ gWs := gWs_in (gT_5 (List.mem_of_getElem? (i := 96) rfl)) rfl
theorem mF_X11_70 : Cond.fieldLink RX11 70 "RouteWallModel" "waits" "[I" ∈ gWs := gWs_in (gT_5 (List.mem_of_getElem? (i := 97) rfl)) rfl
theorem mF_X11_255 : Cond.fieldLink RX11 255 "RouteWallModel" "waiting" "I" ∈ gWs := gWs_in (gT_5 (List.mem_of_getElem? (i := 98) rfl)) rfl
theorem mF_X11_252 : Cond.fieldLink RX11 252 "RouteWallModel" "deep" "I" ∈ gWs := gWs_in (gT_5 (List.mem_of_getElem? (i := 99) rfl)) rfl
theorem mF_X11_73 : Cond.fieldLink RX11 73 "RouteWallModel" "holds" "[I" ∈ gWs := gWs_in (gT_5 (List.mem_of_getElem? (i := 100) rfl)) rfl
theorem mF_X11_76 : Cond.fieldLink RX11 76 "RouteWallModel" "zones" "[I" ∈ gWs := gWs_in (gT_5 (List.mem_of_getElem? (i := 101) rfl)) rfl
theorem mF_X11_79 : Cond.fieldLink RX11 79 "RouteWallModel" "begun" "[I" ∈ gWs := gWs_in (gT_5 (List.mem_of_getElem? (i := 102) rfl)) rfl
theorem mF_X11_313 : Cond.fieldLink RX11 313 "RouteWallModel" "climbers" "I" ∈ gWs := gWs_in (gT_5 (List.mem_of_getElem? (i := 103) rfl)) rfl
theorem mF_X11_82 : Cond.fieldLink RX11 82 "RouteWallModel" "open" "I" ∈ gWs := gWs_in (gT_5 (List.mem_of_getElem? (i := 104) rfl)) rfl
theorem mF_X11_316 : Cond.fieldLink RX11 316 "RouteWallModel" "now" "I" ∈ gWs := gWs_in (gT_5 (List.mem_of_getElem? (i := 105) rfl)) rfl
theorem mF_X11_85 : Cond.fieldLink RX11 85 "RouteWallModel" "isIn" "[Z" ∈ gWs := gWs_in (gT_5 (List.mem_of_getElem? (i := 106) rfl)) rfl
theorem mF_X11_88 : Cond.fieldLink RX11 88 "RouteWallModel" "order" "[I" ∈ gWs := gWs_in (gT_5 (List.mem_of_getElem? (i := 107) rfl)) rfl
theorem mF_X11_91 : Cond.fieldLink RX11 91 "RouteWallModel" "orderMany" "[I" ∈ gWs := gWs_in (gT_5 (List.mem_of_getElem? (i := 108) rfl)) rfl
theorem mF_X11_319 : Cond.fieldLink RX11 319 "RouteWallModel" "tried" "I" ∈ gWs := gWs_in (gT_5 (List.mem_of_getElem? (i := 109) rfl)) rfl
theorem mF_X11_94 : Cond.fieldLink RX11 94 "RouteWallModel" "who" "[I" ∈ gWs := gWs_in (gT_5 (List.mem_of_getElem? (i := 110) rfl)) rfl
theorem mF_X11_97 : Cond.fieldLink RX11 97 "RouteWallModel" "where" "[I" ∈ gWs := gWs_in (gT_5 (List.mem_of_getElem? (i := 111) rfl)) rfl
theorem mF_X11_100 : Cond.fieldLink RX11 100 "RouteWallModel" "which" "[I" ∈ gWs := gWs_in (gT_5 (List.mem_of_getElem? (i := 112) rfl)) rfl
theorem mF_X11_103 : Cond.fieldLink RX11 103 "RouteWallModel" "from" "[I" ∈ gWs := gWs_in (gT_5 (List.mem_of_getElem? (i := 113) rfl)) rfl
theorem mF_X11_106 : Cond.fieldLink RX11 106 "RouteWallModel" "to" "[I" ∈ gWs := gWs_in (gT_5 (List.mem_of_getElem? (i := 114) rfl)) rfl
theorem mF_X11_109 : Cond.fieldLink RX11 109 "RouteWallModel" "hold" "[I" ∈ gWs := gWs_in (gT_5 (List.mem_of_getElem? (i := 115) rfl)) rfl
theorem mF_X11_112 : Cond.fieldLink RX11 112 "RouteWallModel" "how" "[I" ∈ gWs := gWs_in (gT_5 (List.mem_of_getElem? (i := 116) rfl)) rfl
theorem mF_X11_322 : Cond.fieldLink RX11 322 "RouteWallModel" "appeals" "I" ∈ gWs := gWs_in (gT_5 (List.mem_of_getElem? (i := 117) rfl)) rfl
theorem mF_X11_115 : Cond.fieldLink RX11 115 "RouteWallModel" "appealTry" "[I" ∈ gWs := gWs_in (gT_5 (List.mem_of_getElem? (i := 118) rfl)) rfl
theorem mF_X11_118 : Cond.fieldLink RX11 118 "RouteWallModel" "appealHold" "[I" ∈ gWs := gWs_in (gT_5 (List.mem_of_getElem? (i := 119) rfl)) rfl
theorem mF_X11_121 : Cond.fieldLink RX11 121 "RouteWallModel" "appealDay" "[I" ∈ gWs := gWs_in (gT_5 (List.mem_of_getElem? (i := 120) rfl)) rfl
theorem mF_X11_124 : Cond.fieldLink RX11 124 "RouteWallModel" "outs" "[I" ∈ gWs := gWs_in (gT_5 (List.mem_of_getElem? (i := 121) rfl)) rfl
theorem mF_X11_127 : Cond.fieldLink RX11 127 "RouteWallModel" "outFrom" "[I" ∈ gWs := gWs_in (gT_5 (List.mem_of_getElem? (i := 122) rfl)) rfl
theorem mF_X11_130 : Cond.fieldLink RX11 130 "RouteWallModel" "outTo" "[I" ∈ gWs := gWs_in (gT_5 (List.mem_of_getElem? (i := 123) rfl)) rfl
theorem mF_X11_249 : Cond.fieldLink RX11 249 "RouteWallModel" "counted" "I" ∈ gWs := gWs_in (gT_5 (List.mem_of_getElem? (i := 124) rfl)) rfl
theorem mF_X11_133 : Cond.fieldLink RX11 133 "RouteWallModel" "facts" "[I" ∈ gWs := gWs_in (gT_5 (List.mem_of_getElem? (i := 125) rfl)) rfl
theorem mF_X11_136 : Cond.fieldLink RX11 136 "RouteWallModel" "pile" "[J" ∈ gWs := gWs_in (gT_5 (List.mem_of_getElem? (i := 126) rfl)) rfl
theorem mF_X11_140 : Cond.fieldLink RX11 140 "RouteWallModel" "ranks" "[I" ∈ gWs := gWs_in (gT_5 (List.mem_of_getElem? (i := 127) rfl)) rfl
theorem mF_X11_143 : Cond.fieldLink RX11 143 "RouteWallModel" "sums" "[J" ∈ gWs := gWs_in (gT_5 (List.mem_of_getElem? (i := 128) rfl)) rfl
theorem mA_boolean : Cond.arrayClass .boolean ∈ gWs := gWs_in (gT_6 (List.mem_of_getElem? (i := 30) rfl)) rfl
theorem mM_L_17 : Cond.methodLink RL 17 yX11_status ∈ gWs := gWs_in (gT_6 (List.mem_of_getElem? (i := 31) rfl)) rfl
theorem mI_X11_status : Cond.instanceMethod yX11_status ∈ gWs := gWs_in (gT_6 (List.mem_of_getElem? (i := 32) rfl)) rfl
theorem mE_X11_status : Cond.selects RX11 yX11_status yX11_status ∈ gWs := gWs_in (gT_6 (List.mem_of_getElem? (i := 33) rfl)) rfl
theorem mC_X11_status : Cond.code yX11_status cX11_status 1 (some .int) ∈ gWs := gWs_in (gT_6 (List.mem_of_getElem? (i := 34) rfl)) rfl
theorem mM_L_22 : Cond.methodLink RL 22 yX11_feed ∈ gWs := gWs_in (gT_6 (List.mem_of_getElem? (i := 35) rfl)) rfl
theorem mI_X11_feed : Cond.instanceMethod yX11_feed ∈ gWs := gWs_in (gT_6 (List.mem_of_getElem? (i := 36) rfl)) rfl
theorem mE_X11_feed : Cond.selects RX11 yX11_feed yX11_feed ∈ gWs := gWs_in (gT_6 (List.mem_of_getElem? (i := 37) rfl)) rfl
theorem mC_X11_feed : Cond.code yX11_feed cX11_feed 6 (some .int) ∈ gWs := gWs_in (gT_6 (List.mem_of_getElem? (i := 38) rfl)) rfl
theorem mM_X11_292 : Cond.methodLink RX11 292 yX11_lay ∈ gWs := gWs_in (gT_6 (List.mem_of_getElem? (i := 39) rfl)) rfl
theorem mI_X11_lay : Cond.instanceMethod yX11_lay ∈ gWs := gWs_in (gT_6 (List.mem_of_getElem? (i := 41) rfl)) rfl
theorem mC_X11_lay : Cond.code yX11_lay cX11_lay 3 none ∈ gWs := gWs_in (gT_6 (List.mem_of_getElem? (i := 42) rfl)) rfl
theorem mM_L_27 : Cond.methodLink RL 27 yX11_load ∈ gWs := gWs_in (gT_6 (List.mem_of_getElem? (i := 43) rfl)) rfl
theorem mI_X11_load : Cond.instanceMethod yX11_load ∈ gWs := gWs_in (gT_6 (List.mem_of_getElem? (i := 44) rfl)) rfl
theorem mE_X11_load : Cond.selects RX11 yX11_load yX11_load ∈ gWs := gWs_in (gT_6 (List.mem_of_getElem? (i := 45) rfl)) rfl
theorem mC_X11_load : Cond.code yX11_load cX11_load 4 (some .int) ∈ gWs := gWs_in (gT_6 (List.mem_of_getElem? (i := 46) rfl)) rfl
theorem mM_X11_295 : Cond.methodLink RX11 295 yX11_refuse ∈ gWs := gWs_in (gT_6 (List.mem_of_getElem? (i := 47) rfl)) rfl
theorem mI_X11_refuse : Cond.instanceMethod yX11_refuse ∈ gWs := gWs_in (gT_6 (List.mem_of_getElem? (i := 49) rfl)) rfl
theorem mC_X11_refuse : Cond.code yX11_refuse cX11_refuse 2 (some .int) ∈ gWs := gWs_in (gT_6 (List.mem_of_getElem? (i := 50) rfl)) rfl
theorem mM_X11_298 : Cond.methodLink RX11 298 yX11_readText ∈ gWs := gWs_in (gT_6 (List.mem_of_getElem? (i := 51) rfl)) rfl
theorem mI_X11_readText : Cond.instanceMethod yX11_readText ∈ gWs := gWs_in (gT_6 (List.mem_of_getElem? (i := 53) rfl)) rfl
theorem mC_X11_readText : Cond.code yX11_readText cX11_readText 3 none ∈ gWs := gWs_in (gT_6 (List.mem_of_getElem? (i := 54) rfl)) rfl
theorem mM_X11_201 : Cond.methodLink RX11 201 yX11_next ∈ gWs := gWs_in (gT_6 (List.mem_of_getElem? (i := 55) rfl)) rfl
theorem mI_X11_next : Cond.instanceMethod yX11_next ∈ gWs := gWs_in (gT_6 (List.mem_of_getElem? (i := 57) rfl)) rfl
theorem mC_X11_next : Cond.code yX11_next cX11_next 2 none ∈ gWs := gWs_in (gT_6 (List.mem_of_getElem? (i := 58) rfl)) rfl
theorem mM_X11_161 : Cond.methodLink RX11 161 yX11_look ∈ gWs := gWs_in (gT_6 (List.mem_of_getElem? (i := 59) rfl)) rfl
theorem mI_X11_look : Cond.instanceMethod yX11_look ∈ gWs := gWs_in (gT_6 (List.mem_of_getElem? (i := 61) rfl)) rfl
theorem mC_X11_look : Cond.code yX11_look cX11_look 2 (some .int) ∈ gWs := gWs_in (gT_6 (List.mem_of_getElem? (i := 62) rfl)) rfl
theorem mM_X11_168 : Cond.methodLink RX11 168 yX11_isLetter ∈ gWs := gWs_in (gT_6 (List.mem_of_getElem? (i := 63) rfl)) rfl
theorem mS_X11_isLetter : Cond.static yX11_isLetter ∈ gWs := gWs_in (gT_6 (List.mem_of_getElem? (i := 64) rfl)) rfl
theorem mC_X11_isLetter : Cond.code yX11_isLetter cX11_isLetter 1 (some .boolean) ∈ gWs := gWs_in (gT_6 (List.mem_of_getElem? (i := 65) rfl)) rfl
theorem mD_X11_176 : Cond.constantLong RX11 176 (32) ∈ gWs := gWs_in (gT_6 (List.mem_of_getElem? (i := 66) rfl)) rfl
theorem mD_X11_178 : Cond.constantLong RX11 178 (96) ∈ gWs := gWs_in (gT_6 (List.mem_of_getElem? (i := 67) rfl)) rfl
theorem mD_X11_180 : Cond.constantLong RX11 180 (-1) ∈ gWs := gWs_in (gT_6 (List.mem_of_getElem? (i := 68) rfl)) rfl
theorem mM_X11_182 : Cond.methodLink RX11 182 yX11_isDigit ∈ gWs := gWs_in (gT_6 (List.mem_of_getElem? (i := 69) rfl)) rfl
theorem mS_X11_isDigit : Cond.static yX11_isDigit ∈ gWs := gWs_in (gT_6 (List.mem_of_getElem? (i := 70) rfl)) rfl
theorem mC_X11_isDigit : Cond.code yX11_isDigit cX11_isDigit 1 (some .boolean) ∈ gWs := gWs_in (gT_6 (List.mem_of_getElem? (i := 71) rfl)) rfl
theorem mM_X11_220 : Cond.methodLink RX11 220 yX11_lawOf ∈ gWs := gWs_in (gT_6 (List.mem_of_getElem? (i := 72) rfl)) rfl
theorem mI_X11_lawOf : Cond.instanceMethod yX11_lawOf ∈ gWs := gWs_in (gT_6 (List.mem_of_getElem? (i := 74) rfl)) rfl
theorem mC_X11_lawOf : Cond.code yX11_lawOf cX11_lawOf 1 (some .int) ∈ gWs := gWs_in (gT_6 (List.mem_of_getElem? (i := 75) rfl)) rfl
theorem mM_X11_228 : Cond.methodLink RX11 228 yX11_spelled ∈ gWs := gWs_in (gT_6 (List.mem_of_getElem? (i := 76) rfl)) rfl
theorem mS_X11_spelled : Cond.static yX11_spelled ∈ gWs := gWs_in (gT_6 (List.mem_of_getElem? (i := 77) rfl)) rfl
theorem mC_X11_spelled : Cond.code yX11_spelled cX11_spelled 9 (some .long) ∈ gWs := gWs_in (gT_6 (List.mem_of_getElem? (i := 78) rfl)) rfl
theorem mM_X11_232 : Cond.methodLink RX11 232 yX11_isWord ∈ gWs := gWs_in (gT_6 (List.mem_of_getElem? (i := 79) rfl)) rfl
theorem mI_X11_isWord : Cond.instanceMethod yX11_isWord ∈ gWs := gWs_in (gT_6 (List.mem_of_getElem? (i := 81) rfl)) rfl
theorem mC_X11_isWord : Cond.code yX11_isWord cX11_isWord 3 (some .boolean) ∈ gWs := gWs_in (gT_6 (List.mem_of_getElem? (i := 82) rfl)) rfl
theorem mM_X11_198 : Cond.methodLink RX11 198 yX11_wrong ∈ gWs := gWs_in (gT_6 (List.mem_of_getElem? (i := 83) rfl)) rfl
theorem mI_X11_wrong : Cond.instanceMethod yX11_wrong ∈ gWs := gWs_in (gT_6 (List.mem_of_getElem? (i := 85) rfl)) rfl
theorem mC_X11_wrong : Cond.code yX11_wrong cX11_wrong 1 none ∈ gWs := gWs_in (gT_6 (List.mem_of_getElem? (i := 86) rfl)) rfl
theorem mM_X11_194 : Cond.methodLink RX11 194 yX11_fail ∈ gWs := gWs_in (gT_6 (List.mem_of_getElem? (i := 87) rfl)) rfl
theorem mI_X11_fail : Cond.instanceMethod yX11_fail ∈ gWs := gWs_in (gT_6 (List.mem_of_getElem? (i := 89) rfl)) rfl
theorem mC_X11_fail : Cond.code yX11_fail cX11_fail 3 none ∈ gWs := gWs_in (gT_6 (List.mem_of_getElem? (i := 90) rfl)) rfl
theorem mM_X11_224 : Cond.methodLink RX11 224 yX11_readLaw ∈ gWs := gWs_in (gT_6 (List.mem_of_getElem? (i := 91) rfl)) rfl
theorem mI_X11_readLaw : Cond.instanceMethod yX11_readLaw ∈ gWs := gWs_in (gT_6 (List.mem_of_getElem? (i := 93) rfl)) rfl
theorem mC_X11_readLaw : Cond.code yX11_readLaw cX11_readLaw 2 none ∈ gWs := gWs_in (gT_6 (List.mem_of_getElem? (i := 94) rfl)) rfl
theorem mM_X11_236 : Cond.methodLink RX11 236 yX11_numberOf ∈ gWs := gWs_in (gT_6 (List.mem_of_getElem? (i := 95) rfl)) rfl
theorem mI_X11_numberOf : Cond.instanceMethod yX11_numberOf ∈ gWs := gWs_in (gT_6 (List.mem_of_getElem? (i := 97) rfl)) rfl
theorem mC_X11_numberOf : Cond.code yX11_numberOf cX11_numberOf 4 (some .int) ∈ gWs := gWs_in (gT_6 (List.mem_of_getElem? (i := 98) rfl)) rfl
theorem mM_X11_240 : Cond.methodLink RX11 240 yX11_readExpression ∈ gWs := gWs_in (gT_6 (List.mem_of_getElem? (i := 99) rfl)) rfl
theorem mI_X11_readExpression : Cond.instanceMethod yX11_readExpression ∈ gWs := gWs_in (gT_6 (List.mem_of_getElem? (i := 101) rfl)) rfl
theorem mC_X11_readExpression : Cond.code yX11_readExpression cX11_readExpression 4 none ∈ gWs := gWs_in (gT_6 (List.mem_of_getElem? (i := 102) rfl)) rfl
theorem mM_X11_264 : Cond.methodLink RX11 264 yX11_readFactor ∈ gWs := gWs_in (gT_6 (List.mem_of_getElem? (i := 103) rfl)) rfl
theorem mI_X11_readFactor : Cond.instanceMethod yX11_readFactor ∈ gWs := gWs_in (gT_6 (List.mem_of_getElem? (i := 105) rfl)) rfl
theorem mC_X11_readFactor : Cond.code yX11_readFactor cX11_readFactor 2 (some .boolean) ∈ gWs := gWs_in (gT_6 (List.mem_of_getElem? (i := 106) rfl)) rfl
theorem mM_X11_283 : Cond.methodLink RX11 283 yX11_nameOf ∈ gWs := gWs_in (gT_6 (List.mem_of_getElem? (i := 107) rfl)) rfl
theorem mI_X11_nameOf : Cond.instanceMethod yX11_nameOf ∈ gWs := gWs_in (gT_6 (List.mem_of_getElem? (i := 109) rfl)) rfl
theorem mC_X11_nameOf : Cond.code yX11_nameOf cX11_nameOf 1 (some .int) ∈ gWs := gWs_in (gT_6 (List.mem_of_getElem? (i := 110) rfl)) rfl
theorem mM_X11_271 : Cond.methodLink RX11 271 yX11_counts ∈ gWs := gWs_in (gT_6 (List.mem_of_getElem? (i := 111) rfl)) rfl
theorem mI_X11_counts : Cond.instanceMethod yX11_counts ∈ gWs := gWs_in (gT_6 (List.mem_of_getElem? (i := 113) rfl)) rfl
theorem mC_X11_counts : Cond.code yX11_counts cX11_counts 1 none ∈ gWs := gWs_in (gT_6 (List.mem_of_getElem? (i := 114) rfl)) rfl
theorem mM_X11_261 : Cond.methodLink RX11 261 yX11_puts ∈ gWs := gWs_in (gT_6 (List.mem_of_getElem? (i := 115) rfl)) rfl
theorem mI_X11_puts : Cond.instanceMethod yX11_puts ∈ gWs := gWs_in (gT_6 (List.mem_of_getElem? (i := 117) rfl)) rfl
theorem mC_X11_puts : Cond.code yX11_puts cX11_puts 3 none ∈ gWs := gWs_in (gT_6 (List.mem_of_getElem? (i := 118) rfl)) rfl
theorem mM_X11_204 : Cond.methodLink RX11 204 yX11_isSign ∈ gWs := gWs_in (gT_6 (List.mem_of_getElem? (i := 119) rfl)) rfl
theorem mI_X11_isSign : Cond.instanceMethod yX11_isSign ∈ gWs := gWs_in (gT_6 (List.mem_of_getElem? (i := 121) rfl)) rfl
theorem mC_X11_isSign : Cond.code yX11_isSign cX11_isSign 2 (some .boolean) ∈ gWs := gWs_in (gT_6 (List.mem_of_getElem? (i := 122) rfl)) rfl
theorem mM_X11_286 : Cond.methodLink RX11 286 yX11_deeper ∈ gWs := gWs_in (gT_6 (List.mem_of_getElem? (i := 123) rfl)) rfl
theorem mI_X11_deeper : Cond.instanceMethod yX11_deeper ∈ gWs := gWs_in (gT_6 (List.mem_of_getElem? (i := 125) rfl)) rfl
theorem mC_X11_deeper : Cond.code yX11_deeper cX11_deeper 1 none ∈ gWs := gWs_in (gT_6 (List.mem_of_getElem? (i := 126) rfl)) rfl
theorem mM_X11_277 : Cond.methodLink RX11 277 yX11_waitFor ∈ gWs := gWs_in (gT_6 (List.mem_of_getElem? (i := 127) rfl)) rfl
theorem mI_X11_waitFor : Cond.instanceMethod yX11_waitFor ∈ gWs := gWs_in (gT_6 (List.mem_of_getElem? (i := 129) rfl)) rfl
theorem mC_X11_waitFor : Cond.code yX11_waitFor cX11_waitFor 2 none ∈ gWs := gWs_in (gT_6 (List.mem_of_getElem? (i := 130) rfl)) rfl
theorem mM_X11_268 : Cond.methodLink RX11 268 yX11_wholes ∈ gWs := gWs_in (gT_6 (List.mem_of_getElem? (i := 131) rfl)) rfl
theorem mI_X11_wholes : Cond.instanceMethod yX11_wholes ∈ gWs := gWs_in (gT_6 (List.mem_of_getElem? (i := 133) rfl)) rfl
theorem mC_X11_wholes : Cond.code yX11_wholes cX11_wholes 1 none ∈ gWs := gWs_in (gT_6 (List.mem_of_getElem? (i := 134) rfl)) rfl
theorem mM_X11_258 : Cond.methodLink RX11 258 yX11_strong ∈ gWs := gWs_in (gT_6 (List.mem_of_getElem? (i := 135) rfl)) rfl
theorem mS_X11_strong : Cond.static yX11_strong ∈ gWs := gWs_in (gT_6 (List.mem_of_getElem? (i := 136) rfl)) rfl
theorem mC_X11_strong : Cond.code yX11_strong cX11_strong 1 (some .int) ∈ gWs := gWs_in (gT_6 (List.mem_of_getElem? (i := 137) rfl)) rfl
theorem mM_X11_274 : Cond.methodLink RX11 274 yX11_reduce ∈ gWs := gWs_in (gT_6 (List.mem_of_getElem? (i := 138) rfl)) rfl
theorem mI_X11_reduce : Cond.instanceMethod yX11_reduce ∈ gWs := gWs_in (gT_6 (List.mem_of_getElem? (i := 140) rfl)) rfl
theorem mC_X11_reduce : Cond.code yX11_reduce cX11_reduce 2 none ∈ gWs := gWs_in (gT_6 (List.mem_of_getElem? (i := 141) rfl)) rfl
theorem mM_X11_280 : Cond.methodLink RX11 280 yX11_isOpen ∈ gWs := gWs_in (gT_6 (List.mem_of_getElem? (i := 142) rfl)) rfl
theorem mI_X11_isOpen : Cond.instanceMethod yX11_isOpen ∈ gWs := gWs_in (gT_6 (List.mem_of_getElem? (i := 144) rfl)) rfl
theorem mC_X11_isOpen : Cond.code yX11_isOpen cX11_isOpen 2 (some .boolean) ∈ gWs := gWs_in (gT_6 (List.mem_of_getElem? (i := 145) rfl)) rfl
theorem mM_X11_243 : Cond.methodLink RX11 243 yX11_readKeys ∈ gWs := gWs_in (gT_6 (List.mem_of_getElem? (i := 146) rfl)) rfl
theorem mI_X11_readKeys : Cond.instanceMethod yX11_readKeys ∈ gWs := gWs_in (gT_6 (List.mem_of_getElem? (i := 148) rfl)) rfl
theorem mC_X11_readKeys : Cond.code yX11_readKeys cX11_readKeys 4 none ∈ gWs := gWs_in (gT_6 (List.mem_of_getElem? (i := 149) rfl)) rfl
theorem mM_X11_246 : Cond.methodLink RX11 246 yX11_ends ∈ gWs := gWs_in (gT_6 (List.mem_of_getElem? (i := 150) rfl)) rfl
theorem mI_X11_ends : Cond.instanceMethod yX11_ends ∈ gWs := gWs_in (gT_6 (List.mem_of_getElem? (i := 152) rfl)) rfl
theorem mC_X11_ends : Cond.code yX11_ends cX11_ends 1 none ∈ gWs := gWs_in (gT_6 (List.mem_of_getElem? (i := 153) rfl)) rfl
theorem mM_L_31 : Cond.methodLink RL 31 yX11_fault ∈ gWs := gWs_in (gT_6 (List.mem_of_getElem? (i := 154) rfl)) rfl
theorem mI_X11_fault : Cond.instanceMethod yX11_fault ∈ gWs := gWs_in (gT_6 (List.mem_of_getElem? (i := 155) rfl)) rfl
theorem mE_X11_fault : Cond.selects RX11 yX11_fault yX11_fault ∈ gWs := gWs_in (gT_6 (List.mem_of_getElem? (i := 156) rfl)) rfl
theorem mC_X11_fault : Cond.code yX11_fault cX11_fault 2 (some .int) ∈ gWs := gWs_in (gT_6 (List.mem_of_getElem? (i := 157) rfl)) rfl
theorem mM_L_35 : Cond.methodLink RL 35 yX11_climber ∈ gWs := gWs_in (gT_6 (List.mem_of_getElem? (i := 158) rfl)) rfl
theorem mI_X11_climber : Cond.instanceMethod yX11_climber ∈ gWs := gWs_in (gT_6 (List.mem_of_getElem? (i := 159) rfl)) rfl
theorem mE_X11_climber : Cond.selects RX11 yX11_climber yX11_climber ∈ gWs := gWs_in (gT_6 (List.mem_of_getElem? (i := 160) rfl)) rfl
theorem mC_X11_climber : Cond.code yX11_climber cX11_climber 1 (some .int) ∈ gWs := gWs_in (gT_6 (List.mem_of_getElem? (i := 161) rfl)) rfl
theorem mM_L_40 : Cond.methodLink RL 40 yX11_route ∈ gWs := gWs_in (gT_6 (List.mem_of_getElem? (i := 162) rfl)) rfl
theorem mI_X11_route : Cond.instanceMethod yX11_route ∈ gWs := gWs_in (gT_6 (List.mem_of_getElem? (i := 163) rfl)) rfl
theorem mE_X11_route : Cond.selects RX11 yX11_route yX11_route ∈ gWs := gWs_in (gT_6 (List.mem_of_getElem? (i := 164) rfl)) rfl
theorem mC_X11_route : Cond.code yX11_route cX11_route 9 (some .boolean) ∈ gWs := gWs_in (gT_6 (List.mem_of_getElem? (i := 165) rfl)) rfl
theorem mM_X11_328 : Cond.methodLink RX11 328 yX11_isRoute ∈ gWs := gWs_in (gT_6 (List.mem_of_getElem? (i := 166) rfl)) rfl
theorem mI_X11_isRoute : Cond.instanceMethod yX11_isRoute ∈ gWs := gWs_in (gT_6 (List.mem_of_getElem? (i := 168) rfl)) rfl
theorem mC_X11_isRoute : Cond.code yX11_isRoute cX11_isRoute 3 (some .boolean) ∈ gWs := gWs_in (gT_6 (List.mem_of_getElem? (i := 169) rfl)) rfl
theorem mM_X11_325 : Cond.methodLink RX11 325 yX11_isRound ∈ gWs := gWs_in (gT_6 (List.mem_of_getElem? (i := 170) rfl)) rfl
theorem mI_X11_isRound : Cond.instanceMethod yX11_isRound ∈ gWs := gWs_in (gT_6 (List.mem_of_getElem? (i := 172) rfl)) rfl
theorem mC_X11_isRound : Cond.code yX11_isRound cX11_isRound 2 (some .boolean) ∈ gWs := gWs_in (gT_6 (List.mem_of_getElem? (i := 173) rfl)) rfl
theorem mM_X11_332 : Cond.methodLink RX11 332 yX11_no ∈ gWs := gWs_in (gT_6 (List.mem_of_getElem? (i := 174) rfl)) rfl
theorem mI_X11_no : Cond.instanceMethod yX11_no ∈ gWs := gWs_in (gT_6 (List.mem_of_getElem? (i := 176) rfl)) rfl
theorem mC_X11_no : Cond.code yX11_no cX11_no 2 (some .boolean) ∈ gWs := gWs_in (gT_6 (List.mem_of_getElem? (i := 177) rfl)) rfl
theorem mM_X11_335 : Cond.methodLink RX11 335 yX11_at ∈ gWs := gWs_in (gT_6 (List.mem_of_getElem? (i := 178) rfl)) rfl
theorem mS_X11_at : Cond.static yX11_at ∈ gWs := gWs_in (gT_6 (List.mem_of_getElem? (i := 179) rfl)) rfl
theorem mC_X11_at : Cond.code yX11_at cX11_at 2 (some .int) ∈ gWs := gWs_in (gT_6 (List.mem_of_getElem? (i := 180) rfl)) rfl
theorem mM_L_45 : Cond.methodLink RL 45 yX11_told ∈ gWs := gWs_in (gT_6 (List.mem_of_getElem? (i := 181) rfl)) rfl
theorem mI_X11_told : Cond.instanceMethod yX11_told ∈ gWs := gWs_in (gT_6 (List.mem_of_getElem? (i := 182) rfl)) rfl
theorem mE_X11_told : Cond.selects RX11 yX11_told yX11_told ∈ gWs := gWs_in (gT_6 (List.mem_of_getElem? (i := 183) rfl)) rfl
theorem mC_X11_told : Cond.code yX11_told cX11_told 5 (some .int) ∈ gWs := gWs_in (gT_6 (List.mem_of_getElem? (i := 184) rfl)) rfl
theorem mM_L_49 : Cond.methodLink RL 49 yX11_begin ∈ gWs := gWs_in (gT_6 (List.mem_of_getElem? (i := 185) rfl)) rfl
theorem mI_X11_begin : Cond.instanceMethod yX11_begin ∈ gWs := gWs_in (gT_6 (List.mem_of_getElem? (i := 186) rfl)) rfl
theorem mE_X11_begin : Cond.selects RX11 yX11_begin yX11_begin ∈ gWs := gWs_in (gT_6 (List.mem_of_getElem? (i := 187) rfl)) rfl
theorem mC_X11_begin : Cond.code yX11_begin cX11_begin 8 (some .int) ∈ gWs := gWs_in (gT_6 (List.mem_of_getElem? (i := 188) rfl)) rfl
theorem mM_X11_349 : Cond.methodLink RX11 349 yX11_isClimber ∈ gWs := gWs_in (gT_6 (List.mem_of_getElem? (i := 189) rfl)) rfl
theorem mI_X11_isClimber : Cond.instanceMethod yX11_isClimber ∈ gWs := gWs_in (gT_6 (List.mem_of_getElem? (i := 191) rfl)) rfl
theorem mC_X11_isClimber : Cond.code yX11_isClimber cX11_isClimber 2 (some .boolean) ∈ gWs := gWs_in (gT_6 (List.mem_of_getElem? (i := 192) rfl)) rfl
theorem mM_X11_352 : Cond.methodLink RX11 352 yX11_clocked ∈ gWs := gWs_in (gT_6 (List.mem_of_getElem? (i := 193) rfl)) rfl
theorem mI_X11_clocked : Cond.instanceMethod yX11_clocked ∈ gWs := gWs_in (gT_6 (List.mem_of_getElem? (i := 195) rfl)) rfl
theorem mC_X11_clocked : Cond.code yX11_clocked cX11_clocked 2 (some .int) ∈ gWs := gWs_in (gT_6 (List.mem_of_getElem? (i := 196) rfl)) rfl
theorem mD_X11_337 : Cond.constant RX11 337 (1000000) ∈ gWs := gWs_in (gT_6 (List.mem_of_getElem? (i := 197) rfl)) rfl
theorem mM_X11_338 : Cond.methodLink RX11 338 yX11_goesTo ∈ gWs := gWs_in (gT_6 (List.mem_of_getElem? (i := 198) rfl)) rfl
theorem mI_X11_goesTo : Cond.instanceMethod yX11_goesTo ∈ gWs := gWs_in (gT_6 (List.mem_of_getElem? (i := 200) rfl)) rfl
theorem mC_X11_goesTo : Cond.code yX11_goesTo cX11_goesTo 3 none ∈ gWs := gWs_in (gT_6 (List.mem_of_getElem? (i := 201) rfl)) rfl
theorem mM_X11_355 : Cond.methodLink RX11 355 yX11_openTry ∈ gWs := gWs_in (gT_6 (List.mem_of_getElem? (i := 202) rfl)) rfl
theorem mI_X11_openTry : Cond.instanceMethod yX11_openTry ∈ gWs := gWs_in (gT_6 (List.mem_of_getElem? (i := 204) rfl)) rfl
theorem mC_X11_openTry : Cond.code yX11_openTry cX11_openTry 3 (some .int) ∈ gWs := gWs_in (gT_6 (List.mem_of_getElem? (i := 205) rfl)) rfl
theorem mM_X11_358 : Cond.methodLink RX11 358 yX11_hasSeen ∈ gWs := gWs_in (gT_6 (List.mem_of_getElem? (i := 206) rfl)) rfl
theorem mI_X11_hasSeen : Cond.instanceMethod yX11_hasSeen ∈ gWs := gWs_in (gT_6 (List.mem_of_getElem? (i := 208) rfl)) rfl
theorem mC_X11_hasSeen : Cond.code yX11_hasSeen cX11_hasSeen 7 (some .boolean) ∈ gWs := gWs_in (gT_6 (List.mem_of_getElem? (i := 209) rfl)) rfl
theorem mM_X11_341 : Cond.methodLink RX11 341 yJ9_max_7cf53 ∈ gWs := gWs_in (gT_6 (List.mem_of_getElem? (i := 210) rfl)) rfl
theorem mM_X11_346 : Cond.methodLink RX11 346 yJ9_min_7cf53 ∈ gWs := gWs_in (gT_6 (List.mem_of_getElem? (i := 211) rfl)) rfl
theorem mS_J9_min_7cf53 : Cond.static yJ9_min_7cf53 ∈ gWs := gWs_in (gT_6 (List.mem_of_getElem? (i := 212) rfl)) rfl
theorem mC_J9_min_7cf53 : Cond.code yJ9_min_7cf53 cJ9_min_7cf53 2 (some .int) ∈ gWs := gWs_in (gT_6 (List.mem_of_getElem? (i := 213) rfl)) rfl
theorem mM_X11_361 : Cond.methodLink RX11 361 yX11_readyAt ∈ gWs := gWs_in (gT_6 (List.mem_of_getElem? (i := 214) rfl)) rfl
theorem mI_X11_readyAt : Cond.instanceMethod yX11_readyAt ∈ gWs := gWs_in (gT_6 (List.mem_of_getElem? (i := 216) rfl)) rfl
theorem mC_X11_readyAt : Cond.code yX11_readyAt cX11_readyAt 4 (some .int) ∈ gWs := gWs_in (gT_6 (List.mem_of_getElem? (i := 217) rfl)) rfl
theorem mM_L_53 : Cond.methodLink RL 53 yX11_reach ∈ gWs := gWs_in (gT_6 (List.mem_of_getElem? (i := 218) rfl)) rfl
theorem mI_X11_reach : Cond.instanceMethod yX11_reach ∈ gWs := gWs_in (gT_6 (List.mem_of_getElem? (i := 219) rfl)) rfl
theorem mE_X11_reach : Cond.selects RX11 yX11_reach yX11_reach ∈ gWs := gWs_in (gT_6 (List.mem_of_getElem? (i := 220) rfl)) rfl
theorem mC_X11_reach : Cond.code yX11_reach cX11_reach 7 (some .int) ∈ gWs := gWs_in (gT_6 (List.mem_of_getElem? (i := 221) rfl)) rfl
theorem mM_L_58 : Cond.methodLink RL 58 yX11_fall ∈ gWs := gWs_in (gT_6 (List.mem_of_getElem? (i := 222) rfl)) rfl
theorem mI_X11_fall : Cond.instanceMethod yX11_fall ∈ gWs := gWs_in (gT_6 (List.mem_of_getElem? (i := 223) rfl)) rfl
theorem mE_X11_fall : Cond.selects RX11 yX11_fall yX11_fall ∈ gWs := gWs_in (gT_6 (List.mem_of_getElem? (i := 224) rfl)) rfl
theorem mC_X11_fall : Cond.code yX11_fall cX11_fall 6 (some .boolean) ∈ gWs := gWs_in (gT_6 (List.mem_of_getElem? (i := 225) rfl)) rfl
theorem mM_L_62 : Cond.methodLink RL 62 yX11_out ∈ gWs := gWs_in (gT_6 (List.mem_of_getElem? (i := 226) rfl)) rfl
theorem mI_X11_out : Cond.instanceMethod yX11_out ∈ gWs := gWs_in (gT_6 (List.mem_of_getElem? (i := 227) rfl)) rfl
theorem mE_X11_out : Cond.selects RX11 yX11_out yX11_out ∈ gWs := gWs_in (gT_6 (List.mem_of_getElem? (i := 228) rfl)) rfl
theorem mC_X11_out : Cond.code yX11_out cX11_out 7 (some .boolean) ∈ gWs := gWs_in (gT_6 (List.mem_of_getElem? (i := 229) rfl)) rfl
theorem mM_L_67 : Cond.methodLink RL 67 yX11_clock ∈ gWs := gWs_in (gT_6 (List.mem_of_getElem? (i := 230) rfl)) rfl
theorem mI_X11_clock : Cond.instanceMethod yX11_clock ∈ gWs := gWs_in (gT_6 (List.mem_of_getElem? (i := 231) rfl)) rfl
theorem mE_X11_clock : Cond.selects RX11 yX11_clock yX11_clock ∈ gWs := gWs_in (gT_6 (List.mem_of_getElem? (i := 232) rfl)) rfl
theorem mC_X11_clock : Cond.code yX11_clock cX11_clock 2 (some .boolean) ∈ gWs := gWs_in (gT_6 (List.mem_of_getElem? (i := 233) rfl)) rfl
theorem mM_L_71 : Cond.methodLink RL 71 yX11_now ∈ gWs := gWs_in (gT_6 (List.mem_of_getElem? (i := 234) rfl)) rfl
theorem mI_X11_now : Cond.instanceMethod yX11_now ∈ gWs := gWs_in (gT_6 (List.mem_of_getElem? (i := 235) rfl)) rfl
theorem mE_X11_now : Cond.selects RX11 yX11_now yX11_now ∈ gWs := gWs_in (gT_6 (List.mem_of_getElem? (i := 236) rfl)) rfl
theorem mC_X11_now : Cond.code yX11_now cX11_now 1 (some .int) ∈ gWs := gWs_in (gT_6 (List.mem_of_getElem? (i := 237) rfl)) rfl
theorem mM_L_76 : Cond.methodLink RL 76 yX11_tried ∈ gWs := gWs_in (gT_6 (List.mem_of_getElem? (i := 238) rfl)) rfl
theorem mI_X11_tried : Cond.instanceMethod yX11_tried ∈ gWs := gWs_in (gT_6 (List.mem_of_getElem? (i := 239) rfl)) rfl
theorem mE_X11_tried : Cond.selects RX11 yX11_tried yX11_tried ∈ gWs := gWs_in (gT_7 (List.mem_of_getElem? (i := 0) rfl)) rfl
theorem mC_X11_tried : Cond.code yX11_tried cX11_tried 3 (some .int) ∈ gWs := gWs_in (gT_7 (List.mem_of_getElem? (i := 1) rfl)) rfl
theorem mM_L_80 : Cond.methodLink RL 80 yX11_seen ∈ gWs := gWs_in (gT_7 (List.mem_of_getElem? (i := 2) rfl)) rfl
theorem mI_X11_seen : Cond.instanceMethod yX11_seen ∈ gWs := gWs_in (gT_7 (List.mem_of_getElem? (i := 3) rfl)) rfl
theorem mE_X11_seen : Cond.selects RX11 yX11_seen yX11_seen ∈ gWs := gWs_in (gT_7 (List.mem_of_getElem? (i := 4) rfl)) rfl
theorem mC_X11_seen : Cond.code yX11_seen cX11_seen 3 (some .int) ∈ gWs := gWs_in (gT_7 (List.mem_of_getElem? (i := 5) rfl)) rfl
theorem mM_L_84 : Cond.methodLink RL 84 yX11_ready ∈ gWs := gWs_in (gT_7 (List.mem_of_getElem? (i := 6) rfl)) rfl
theorem mI_X11_ready : Cond.instanceMethod yX11_ready ∈ gWs := gWs_in (gT_7 (List.mem_of_getElem? (i := 7) rfl)) rfl
theorem mE_X11_ready : Cond.selects RX11 yX11_ready yX11_ready ∈ gWs := gWs_in (gT_7 (List.mem_of_getElem? (i := 8) rfl)) rfl
theorem mC_X11_ready : Cond.code yX11_ready cX11_ready 2 (some .int) ∈ gWs := gWs_in (gT_7 (List.mem_of_getElem? (i := 9) rfl)) rfl
theorem mM_L_89 : Cond.methodLink RL 89 yX11_appeal ∈ gWs := gWs_in (gT_7 (List.mem_of_getElem? (i := 10) rfl)) rfl
theorem mI_X11_appeal : Cond.instanceMethod yX11_appeal ∈ gWs := gWs_in (gT_7 (List.mem_of_getElem? (i := 11) rfl)) rfl
theorem mE_X11_appeal : Cond.selects RX11 yX11_appeal yX11_appeal ∈ gWs := gWs_in (gT_7 (List.mem_of_getElem? (i := 12) rfl)) rfl
theorem mC_X11_appeal : Cond.code yX11_appeal cX11_appeal 4 (some .boolean) ∈ gWs := gWs_in (gT_7 (List.mem_of_getElem? (i := 13) rfl)) rfl
theorem mM_X11_364 : Cond.methodLink RX11 364 yX11_isDay ∈ gWs := gWs_in (gT_7 (List.mem_of_getElem? (i := 14) rfl)) rfl
theorem mS_X11_isDay : Cond.static yX11_isDay ∈ gWs := gWs_in (gT_7 (List.mem_of_getElem? (i := 15) rfl)) rfl
theorem mC_X11_isDay : Cond.code yX11_isDay cX11_isDay 1 (some .boolean) ∈ gWs := gWs_in (gT_7 (List.mem_of_getElem? (i := 16) rfl)) rfl
theorem mM_L_93 : Cond.methodLink RL 93 yX11_of ∈ gWs := gWs_in (gT_7 (List.mem_of_getElem? (i := 17) rfl)) rfl
theorem mI_X11_of : Cond.instanceMethod yX11_of ∈ gWs := gWs_in (gT_7 (List.mem_of_getElem? (i := 18) rfl)) rfl
theorem mE_X11_of : Cond.selects RX11 yX11_of yX11_of ∈ gWs := gWs_in (gT_7 (List.mem_of_getElem? (i := 19) rfl)) rfl
theorem mC_X11_of : Cond.code yX11_of cX11_of 7 (some .int) ∈ gWs := gWs_in (gT_7 (List.mem_of_getElem? (i := 20) rfl)) rfl
theorem mM_X11_387 : Cond.methodLink RX11 387 yX11_pointsOf ∈ gWs := gWs_in (gT_7 (List.mem_of_getElem? (i := 21) rfl)) rfl
theorem mI_X11_pointsOf : Cond.instanceMethod yX11_pointsOf ∈ gWs := gWs_in (gT_7 (List.mem_of_getElem? (i := 23) rfl)) rfl
theorem mC_X11_pointsOf : Cond.code yX11_pointsOf cX11_pointsOf 7 (some .int) ∈ gWs := gWs_in (gT_7 (List.mem_of_getElem? (i := 24) rfl)) rfl
theorem mM_X11_379 : Cond.methodLink RX11 379 yX11_factsOf ∈ gWs := gWs_in (gT_7 (List.mem_of_getElem? (i := 25) rfl)) rfl
theorem mI_X11_factsOf : Cond.instanceMethod yX11_factsOf ∈ gWs := gWs_in (gT_7 (List.mem_of_getElem? (i := 27) rfl)) rfl
theorem mC_X11_factsOf : Cond.code yX11_factsOf cX11_factsOf 11 none ∈ gWs := gWs_in (gT_7 (List.mem_of_getElem? (i := 28) rfl)) rfl
theorem mM_X11_367 : Cond.methodLink RX11 367 yX11_holdOf ∈ gWs := gWs_in (gT_7 (List.mem_of_getElem? (i := 29) rfl)) rfl
theorem mI_X11_holdOf : Cond.instanceMethod yX11_holdOf ∈ gWs := gWs_in (gT_7 (List.mem_of_getElem? (i := 31) rfl)) rfl
theorem mC_X11_holdOf : Cond.code yX11_holdOf cX11_holdOf 5 (some .int) ∈ gWs := gWs_in (gT_7 (List.mem_of_getElem? (i := 32) rfl)) rfl
theorem mM_X11_383 : Cond.methodLink RX11 383 yX11_cut ∈ gWs := gWs_in (gT_7 (List.mem_of_getElem? (i := 33) rfl)) rfl
theorem mS_X11_cut : Cond.static yX11_cut ∈ gWs := gWs_in (gT_7 (List.mem_of_getElem? (i := 34) rfl)) rfl
theorem mC_X11_cut : Cond.code yX11_cut cX11_cut 2 (some .long) ∈ gWs := gWs_in (gT_7 (List.mem_of_getElem? (i := 35) rfl)) rfl
theorem mD_X11_370 : Cond.constantLong RX11 370 (-1000000000) ∈ gWs := gWs_in (gT_7 (List.mem_of_getElem? (i := 36) rfl)) rfl
theorem mD_X11_372 : Cond.constantLong RX11 372 (1000000000) ∈ gWs := gWs_in (gT_7 (List.mem_of_getElem? (i := 37) rfl)) rfl
theorem mM_X11_374 : Cond.methodLink RX11 374 yJ9_min_f86c9 ∈ gWs := gWs_in (gT_7 (List.mem_of_getElem? (i := 38) rfl)) rfl
theorem mM_X11_377 : Cond.methodLink RX11 377 yJ9_max_f86c9 ∈ gWs := gWs_in (gT_7 (List.mem_of_getElem? (i := 39) rfl)) rfl
theorem mM_L_98 : Cond.methodLink RL 98 yX11_key ∈ gWs := gWs_in (gT_7 (List.mem_of_getElem? (i := 40) rfl)) rfl
theorem mI_X11_key : Cond.instanceMethod yX11_key ∈ gWs := gWs_in (gT_7 (List.mem_of_getElem? (i := 41) rfl)) rfl
theorem mE_X11_key : Cond.selects RX11 yX11_key yX11_key ∈ gWs := gWs_in (gT_7 (List.mem_of_getElem? (i := 42) rfl)) rfl
theorem mC_X11_key : Cond.code yX11_key cX11_key 5 (some .long) ∈ gWs := gWs_in (gT_7 (List.mem_of_getElem? (i := 43) rfl)) rfl
theorem mM_X11_391 : Cond.methodLink RX11 391 yX11_isIn ∈ gWs := gWs_in (gT_7 (List.mem_of_getElem? (i := 44) rfl)) rfl
theorem mI_X11_isIn : Cond.instanceMethod yX11_isIn ∈ gWs := gWs_in (gT_7 (List.mem_of_getElem? (i := 46) rfl)) rfl
theorem mC_X11_isIn : Cond.code yX11_isIn cX11_isIn 3 (some .boolean) ∈ gWs := gWs_in (gT_7 (List.mem_of_getElem? (i := 47) rfl)) rfl
theorem mM_X11_393 : Cond.methodLink RX11 393 yX11_keyOf ∈ gWs := gWs_in (gT_7 (List.mem_of_getElem? (i := 48) rfl)) rfl
theorem mI_X11_keyOf : Cond.instanceMethod yX11_keyOf ∈ gWs := gWs_in (gT_7 (List.mem_of_getElem? (i := 50) rfl)) rfl
theorem mC_X11_keyOf : Cond.code yX11_keyOf cX11_keyOf 11 (some .long) ∈ gWs := gWs_in (gT_7 (List.mem_of_getElem? (i := 51) rfl)) rfl
theorem mM_L_102 : Cond.methodLink RL 102 yX11_rank ∈ gWs := gWs_in (gT_7 (List.mem_of_getElem? (i := 52) rfl)) rfl
theorem mI_X11_rank : Cond.instanceMethod yX11_rank ∈ gWs := gWs_in (gT_7 (List.mem_of_getElem? (i := 53) rfl)) rfl
theorem mE_X11_rank : Cond.selects RX11 yX11_rank yX11_rank ∈ gWs := gWs_in (gT_7 (List.mem_of_getElem? (i := 54) rfl)) rfl
theorem mC_X11_rank : Cond.code yX11_rank cX11_rank 4 (some .int) ∈ gWs := gWs_in (gT_7 (List.mem_of_getElem? (i := 55) rfl)) rfl
theorem mM_X11_401 : Cond.methodLink RX11 401 yX11_rankOf ∈ gWs := gWs_in (gT_7 (List.mem_of_getElem? (i := 56) rfl)) rfl
theorem mI_X11_rankOf : Cond.instanceMethod yX11_rankOf ∈ gWs := gWs_in (gT_7 (List.mem_of_getElem? (i := 58) rfl)) rfl
theorem mC_X11_rankOf : Cond.code yX11_rankOf cX11_rankOf 6 (some .int) ∈ gWs := gWs_in (gT_7 (List.mem_of_getElem? (i := 59) rfl)) rfl
theorem mM_X11_397 : Cond.methodLink RX11 397 yX11_isAhead ∈ gWs := gWs_in (gT_7 (List.mem_of_getElem? (i := 60) rfl)) rfl
theorem mI_X11_isAhead : Cond.instanceMethod yX11_isAhead ∈ gWs := gWs_in (gT_7 (List.mem_of_getElem? (i := 62) rfl)) rfl
theorem mC_X11_isAhead : Cond.code yX11_isAhead cX11_isAhead 11 (some .boolean) ∈ gWs := gWs_in (gT_7 (List.mem_of_getElem? (i := 63) rfl)) rfl
theorem mM_L_106 : Cond.methodLink RL 106 yX11_advance ∈ gWs := gWs_in (gT_7 (List.mem_of_getElem? (i := 64) rfl)) rfl
theorem mI_X11_advance : Cond.instanceMethod yX11_advance ∈ gWs := gWs_in (gT_7 (List.mem_of_getElem? (i := 65) rfl)) rfl
theorem mE_X11_advance : Cond.selects RX11 yX11_advance yX11_advance ∈ gWs := gWs_in (gT_7 (List.mem_of_getElem? (i := 66) rfl)) rfl
theorem mC_X11_advance : Cond.code yX11_advance cX11_advance 7 (some .int) ∈ gWs := gWs_in (gT_7 (List.mem_of_getElem? (i := 67) rfl)) rfl
theorem mM_L_110 : Cond.methodLink RL 110 yX11_order ∈ gWs := gWs_in (gT_7 (List.mem_of_getElem? (i := 68) rfl)) rfl
theorem mI_X11_order : Cond.instanceMethod yX11_order ∈ gWs := gWs_in (gT_7 (List.mem_of_getElem? (i := 69) rfl)) rfl
theorem mE_X11_order : Cond.selects RX11 yX11_order yX11_order ∈ gWs := gWs_in (gT_7 (List.mem_of_getElem? (i := 70) rfl)) rfl
theorem mC_X11_order : Cond.code yX11_order cX11_order 3 (some .int) ∈ gWs := gWs_in (gT_7 (List.mem_of_getElem? (i := 71) rfl)) rfl
theorem mM_L_114 : Cond.methodLink RL 114 yX11_parts ∈ gWs := gWs_in (gT_7 (List.mem_of_getElem? (i := 72) rfl)) rfl
theorem mI_X11_parts : Cond.instanceMethod yX11_parts ∈ gWs := gWs_in (gT_7 (List.mem_of_getElem? (i := 73) rfl)) rfl
theorem mE_X11_parts : Cond.selects RX11 yX11_parts yX11_parts ∈ gWs := gWs_in (gT_7 (List.mem_of_getElem? (i := 74) rfl)) rfl
theorem mC_X11_parts : Cond.code yX11_parts cX11_parts 4 (some .int) ∈ gWs := gWs_in (gT_7 (List.mem_of_getElem? (i := 75) rfl)) rfl
theorem mM_X11_405 : Cond.methodLink RX11 405 yX11_partsOf ∈ gWs := gWs_in (gT_7 (List.mem_of_getElem? (i := 76) rfl)) rfl
theorem mI_X11_partsOf : Cond.instanceMethod yX11_partsOf ∈ gWs := gWs_in (gT_7 (List.mem_of_getElem? (i := 78) rfl)) rfl
theorem mC_X11_partsOf : Cond.code yX11_partsOf cX11_partsOf 7 (some .int) ∈ gWs := gWs_in (gT_7 (List.mem_of_getElem? (i := 79) rfl)) rfl
theorem mM_L_118 : Cond.methodLink RL 118 yX11_choose ∈ gWs := gWs_in (gT_7 (List.mem_of_getElem? (i := 80) rfl)) rfl
theorem mI_X11_choose : Cond.instanceMethod yX11_choose ∈ gWs := gWs_in (gT_7 (List.mem_of_getElem? (i := 81) rfl)) rfl
theorem mE_X11_choose : Cond.selects RX11 yX11_choose yX11_choose ∈ gWs := gWs_in (gT_7 (List.mem_of_getElem? (i := 82) rfl)) rfl
theorem mC_X11_choose : Cond.code yX11_choose cX11_choose 8 (some .int) ∈ gWs := gWs_in (gT_7 (List.mem_of_getElem? (i := 83) rfl)) rfl
theorem mM_X11_408 : Cond.methodLink RX11 408 yJ6_bitCount_0f7a4 ∈ gWs := gWs_in (gT_7 (List.mem_of_getElem? (i := 84) rfl)) rfl
theorem mF_J0_9 : Cond.fieldLink RJ0 9 "java/lang/String" "value" "[B" ∈ gWs := gWs_in (gT_7 (List.mem_of_getElem? (i := 85) rfl)) rfl
theorem mF_J0_15 : Cond.fieldLink RJ0 15 "java/lang/String" "coder" "B" ∈ gWs := gWs_in (gT_7 (List.mem_of_getElem? (i := 86) rfl)) rfl
theorem mE_X10_putOnTape : Cond.selects RX10 yX10_putOnTape yX10_putOnTape ∈ gWs := gWs_in (gT_0 (List.mem_of_getElem? (i := 0) rfl)) rfl
theorem mE_X10_refuse : Cond.selects RX10 yX10_refuse yX10_refuse ∈ gWs := gWs_in (gT_0 (List.mem_of_getElem? (i := 1) rfl)) rfl
theorem mE_X6_putWord : Cond.selects RX6 yX6_putWord yX6_putWord ∈ gWs := gWs_in (gT_0 (List.mem_of_getElem? (i := 2) rfl)) rfl
theorem mE_X6_put : Cond.selects RX6 yX6_put yX6_put ∈ gWs := gWs_in (gT_0 (List.mem_of_getElem? (i := 3) rfl)) rfl
theorem mE_X6_putNumber : Cond.selects RX6 yX6_putNumber yX6_putNumber ∈ gWs := gWs_in (gT_0 (List.mem_of_getElem? (i := 4) rfl)) rfl
theorem mE_X3_readLaw : Cond.selects RX3 yX3_readLaw yX3_readLaw ∈ gWs := gWs_in (gT_0 (List.mem_of_getElem? (i := 5) rfl)) rfl
theorem mE_X3_readRound : Cond.selects RX3 yX3_readRound yX3_readRound ∈ gWs := gWs_in (gT_0 (List.mem_of_getElem? (i := 6) rfl)) rfl
theorem mE_X3_refuseIf : Cond.selects RX3 yX3_refuseIf yX3_refuseIf ∈ gWs := gWs_in (gT_0 (List.mem_of_getElem? (i := 7) rfl)) rfl
theorem mE_X3_note : Cond.selects RX3 yX3_note yX3_note ∈ gWs := gWs_in (gT_0 (List.mem_of_getElem? (i := 8) rfl)) rfl
theorem mE_X3_goOn : Cond.selects RX3 yX3_goOn yX3_goOn ∈ gWs := gWs_in (gT_0 (List.mem_of_getElem? (i := 9) rfl)) rfl
theorem mE_X3_pass : Cond.selects RX3 yX3_pass yX3_pass ∈ gWs := gWs_in (gT_0 (List.mem_of_getElem? (i := 10) rfl)) rfl
theorem mE_X3_refuseToken : Cond.selects RX3 yX3_refuseToken yX3_refuseToken ∈ gWs := gWs_in (gT_0 (List.mem_of_getElem? (i := 11) rfl)) rfl
theorem mE_X1_release : Cond.selects RX1 yX1_release yX1_release ∈ gWs := gWs_in (gT_0 (List.mem_of_getElem? (i := 12) rfl)) rfl
theorem mE_X1_readBehindFactor : Cond.selects RX1 yX1_readBehindFactor yX1_readBehindFactor ∈ gWs := gWs_in (gT_0 (List.mem_of_getElem? (i := 13) rfl)) rfl
theorem mE_X1_putSign : Cond.selects RX1 yX1_putSign yX1_putSign ∈ gWs := gWs_in (gT_0 (List.mem_of_getElem? (i := 14) rfl)) rfl
theorem mE_X1_countItem : Cond.selects RX1 yX1_countItem yX1_countItem ∈ gWs := gWs_in (gT_0 (List.mem_of_getElem? (i := 15) rfl)) rfl
theorem mE_X1_await : Cond.selects RX1 yX1_await yX1_await ∈ gWs := gWs_in (gT_0 (List.mem_of_getElem? (i := 16) rfl)) rfl
theorem mE_X1_closeParen : Cond.selects RX1 yX1_closeParen yX1_closeParen ∈ gWs := gWs_in (gT_0 (List.mem_of_getElem? (i := 17) rfl)) rfl
theorem mE_X1_refuseToken : Cond.selects RX1 yX1_refuseToken yX1_refuseToken ∈ gWs := gWs_in (gT_0 (List.mem_of_getElem? (i := 18) rfl)) rfl
theorem mE_X1_releaseNegations : Cond.selects RX1 yX1_releaseNegations yX1_releaseNegations ∈ gWs := gWs_in (gT_0 (List.mem_of_getElem? (i := 19) rfl)) rfl
theorem mE_X1_readFactor : Cond.selects RX1 yX1_readFactor yX1_readFactor ∈ gWs := gWs_in (gT_0 (List.mem_of_getElem? (i := 20) rfl)) rfl
theorem mE_X1_nest : Cond.selects RX1 yX1_nest yX1_nest ∈ gWs := gWs_in (gT_0 (List.mem_of_getElem? (i := 21) rfl)) rfl
theorem mE_X3_readKeys : Cond.selects RX3 yX3_readKeys yX3_readKeys ∈ gWs := gWs_in (gT_0 (List.mem_of_getElem? (i := 22) rfl)) rfl
theorem mE_X3_readKey : Cond.selects RX3 yX3_readKey yX3_readKey ∈ gWs := gWs_in (gT_0 (List.mem_of_getElem? (i := 23) rfl)) rfl
theorem mE_X3_readTies : Cond.selects RX3 yX3_readTies yX3_readTies ∈ gWs := gWs_in (gT_0 (List.mem_of_getElem? (i := 24) rfl)) rfl
theorem mE_X10_answer : Cond.selects RX10 yX10_answer yX10_answer ∈ gWs := gWs_in (gT_0 (List.mem_of_getElem? (i := 25) rfl)) rfl
theorem mE_X10_deny : Cond.selects RX10 yX10_deny yX10_deny ∈ gWs := gWs_in (gT_0 (List.mem_of_getElem? (i := 26) rfl)) rfl
theorem mE_X10_grant : Cond.selects RX10 yX10_grant yX10_grant ∈ gWs := gWs_in (gT_0 (List.mem_of_getElem? (i := 27) rfl)) rfl
theorem mE_X10_passTo : Cond.selects RX10 yX10_passTo yX10_passTo ∈ gWs := gWs_in (gT_0 (List.mem_of_getElem? (i := 28) rfl)) rfl
theorem mE_X10_whyNotBegin : Cond.selects RX10 yX10_whyNotBegin yX10_whyNotBegin ∈ gWs := gWs_in (gT_0 (List.mem_of_getElem? (i := 29) rfl)) rfl
theorem mE_X10_hasSeen : Cond.selects RX10 yX10_hasSeen yX10_hasSeen ∈ gWs := gWs_in (gT_0 (List.mem_of_getElem? (i := 30) rfl)) rfl
theorem mE_X9_wasOut : Cond.selects RX9 yX9_wasOut yX9_wasOut ∈ gWs := gWs_in (gT_0 (List.mem_of_getElem? (i := 31) rfl)) rfl
theorem mE_X9_latest : Cond.selects RX9 yX9_latest yX9_latest ∈ gWs := gWs_in (gT_0 (List.mem_of_getElem? (i := 32) rfl)) rfl
theorem mE_X10_restOver : Cond.selects RX10 yX10_restOver yX10_restOver ∈ gWs := gWs_in (gT_0 (List.mem_of_getElem? (i := 33) rfl)) rfl
theorem mE_X5_hearAppeals : Cond.selects RX5 yX5_hearAppeals yX5_hearAppeals ∈ gWs := gWs_in (gT_0 (List.mem_of_getElem? (i := 34) rfl)) rfl
theorem mE_X5_lowestAsked : Cond.selects RX5 yX5_lowestAsked yX5_lowestAsked ∈ gWs := gWs_in (gT_0 (List.mem_of_getElem? (i := 35) rfl)) rfl
theorem mE_X5_manyAhead : Cond.selects RX5 yX5_manyAhead yX5_manyAhead ∈ gWs := gWs_in (gT_0 (List.mem_of_getElem? (i := 36) rfl)) rfl
theorem mE_X5_isAhead : Cond.selects RX5 yX5_isAhead yX5_isAhead ∈ gWs := gWs_in (gT_0 (List.mem_of_getElem? (i := 37) rfl)) rfl
theorem mE_X5_manyStartAhead : Cond.selects RX5 yX5_manyStartAhead yX5_manyStartAhead ∈ gWs := gWs_in (gT_0 (List.mem_of_getElem? (i := 38) rfl)) rfl
theorem mE_X5_together : Cond.selects RX5 yX5_together yX5_together ∈ gWs := gWs_in (gT_0 (List.mem_of_getElem? (i := 39) rfl)) rfl
theorem mE_X11_lay : Cond.selects RX11 yX11_lay yX11_lay ∈ gWs := gWs_in (gT_0 (List.mem_of_getElem? (i := 40) rfl)) rfl
theorem mE_X11_refuse : Cond.selects RX11 yX11_refuse yX11_refuse ∈ gWs := gWs_in (gT_0 (List.mem_of_getElem? (i := 41) rfl)) rfl
theorem mE_X11_readText : Cond.selects RX11 yX11_readText yX11_readText ∈ gWs := gWs_in (gT_0 (List.mem_of_getElem? (i := 42) rfl)) rfl
theorem mE_X11_next : Cond.selects RX11 yX11_next yX11_next ∈ gWs := gWs_in (gT_0 (List.mem_of_getElem? (i := 43) rfl)) rfl
theorem mE_X11_look : Cond.selects RX11 yX11_look yX11_look ∈ gWs := gWs_in (gT_0 (List.mem_of_getElem? (i := 44) rfl)) rfl
theorem mE_X11_lawOf : Cond.selects RX11 yX11_lawOf yX11_lawOf ∈ gWs := gWs_in (gT_0 (List.mem_of_getElem? (i := 45) rfl)) rfl
theorem mE_X11_isWord : Cond.selects RX11 yX11_isWord yX11_isWord ∈ gWs := gWs_in (gT_0 (List.mem_of_getElem? (i := 46) rfl)) rfl
theorem mE_X11_wrong : Cond.selects RX11 yX11_wrong yX11_wrong ∈ gWs := gWs_in (gT_0 (List.mem_of_getElem? (i := 47) rfl)) rfl
theorem mE_X11_fail : Cond.selects RX11 yX11_fail yX11_fail ∈ gWs := gWs_in (gT_0 (List.mem_of_getElem? (i := 48) rfl)) rfl
theorem mE_X11_readLaw : Cond.selects RX11 yX11_readLaw yX11_readLaw ∈ gWs := gWs_in (gT_0 (List.mem_of_getElem? (i := 49) rfl)) rfl
theorem mE_X11_numberOf : Cond.selects RX11 yX11_numberOf yX11_numberOf ∈ gWs := gWs_in (gT_0 (List.mem_of_getElem? (i := 50) rfl)) rfl
theorem mE_X11_readExpression : Cond.selects RX11 yX11_readExpression yX11_readExpression ∈ gWs := gWs_in (gT_0 (List.mem_of_getElem? (i := 51) rfl)) rfl
theorem mE_X11_readFactor : Cond.selects RX11 yX11_readFactor yX11_readFactor ∈ gWs := gWs_in (gT_0 (List.mem_of_getElem? (i := 52) rfl)) rfl
theorem mE_X11_nameOf : Cond.selects RX11 yX11_nameOf yX11_nameOf ∈ gWs := gWs_in (gT_0 (List.mem_of_getElem? (i := 53) rfl)) rfl
theorem mE_X11_counts : Cond.selects RX11 yX11_counts yX11_counts ∈ gWs := gWs_in (gT_0 (List.mem_of_getElem? (i := 54) rfl)) rfl
theorem mE_X11_puts : Cond.selects RX11 yX11_puts yX11_puts ∈ gWs := gWs_in (gT_0 (List.mem_of_getElem? (i := 55) rfl)) rfl
theorem mE_X11_isSign : Cond.selects RX11 yX11_isSign yX11_isSign ∈ gWs := gWs_in (gT_0 (List.mem_of_getElem? (i := 56) rfl)) rfl
theorem mE_X11_deeper : Cond.selects RX11 yX11_deeper yX11_deeper ∈ gWs := gWs_in (gT_0 (List.mem_of_getElem? (i := 57) rfl)) rfl
theorem mE_X11_waitFor : Cond.selects RX11 yX11_waitFor yX11_waitFor ∈ gWs := gWs_in (gT_0 (List.mem_of_getElem? (i := 58) rfl)) rfl
theorem mE_X11_wholes : Cond.selects RX11 yX11_wholes yX11_wholes ∈ gWs := gWs_in (gT_0 (List.mem_of_getElem? (i := 59) rfl)) rfl
theorem mE_X11_reduce : Cond.selects RX11 yX11_reduce yX11_reduce ∈ gWs := gWs_in (gT_0 (List.mem_of_getElem? (i := 60) rfl)) rfl
theorem mE_X11_isOpen : Cond.selects RX11 yX11_isOpen yX11_isOpen ∈ gWs := gWs_in (gT_0 (List.mem_of_getElem? (i := 61) rfl)) rfl
theorem mE_X11_readKeys : Cond.selects RX11 yX11_readKeys yX11_readKeys ∈ gWs := gWs_in (gT_0 (List.mem_of_getElem? (i := 62) rfl)) rfl
theorem mE_X11_ends : Cond.selects RX11 yX11_ends yX11_ends ∈ gWs := gWs_in (gT_0 (List.mem_of_getElem? (i := 63) rfl)) rfl
theorem mE_X11_isRoute : Cond.selects RX11 yX11_isRoute yX11_isRoute ∈ gWs := gWs_in (gT_0 (List.mem_of_getElem? (i := 64) rfl)) rfl
theorem mE_X11_isRound : Cond.selects RX11 yX11_isRound yX11_isRound ∈ gWs := gWs_in (gT_0 (List.mem_of_getElem? (i := 65) rfl)) rfl
theorem mE_X11_no : Cond.selects RX11 yX11_no yX11_no ∈ gWs := gWs_in (gT_0 (List.mem_of_getElem? (i := 66) rfl)) rfl
theorem mE_X11_isClimber : Cond.selects RX11 yX11_isClimber yX11_isClimber ∈ gWs := gWs_in (gT_0 (List.mem_of_getElem? (i := 67) rfl)) rfl
theorem mE_X11_clocked : Cond.selects RX11 yX11_clocked yX11_clocked ∈ gWs := gWs_in (gT_0 (List.mem_of_getElem? (i := 68) rfl)) rfl
theorem mE_X11_goesTo : Cond.selects RX11 yX11_goesTo yX11_goesTo ∈ gWs := gWs_in (gT_0 (List.mem_of_getElem? (i := 69) rfl)) rfl
theorem mE_X11_openTry : Cond.selects RX11 yX11_openTry yX11_openTry ∈ gWs := gWs_in (gT_0 (List.mem_of_getElem? (i := 70) rfl)) rfl
theorem mE_X11_hasSeen : Cond.selects RX11 yX11_hasSeen yX11_hasSeen ∈ gWs := gWs_in (gT_0 (List.mem_of_getElem? (i := 71) rfl)) rfl
theorem mE_X11_readyAt : Cond.selects RX11 yX11_readyAt yX11_readyAt ∈ gWs := gWs_in (gT_0 (List.mem_of_getElem? (i := 72) rfl)) rfl
theorem mE_X11_pointsOf : Cond.selects RX11 yX11_pointsOf yX11_pointsOf ∈ gWs := gWs_in (gT_0 (List.mem_of_getElem? (i := 73) rfl)) rfl
theorem mE_X11_factsOf : Cond.selects RX11 yX11_factsOf yX11_factsOf ∈ gWs := gWs_in (gT_0 (List.mem_of_getElem? (i := 74) rfl)) rfl
theorem mE_X11_holdOf : Cond.selects RX11 yX11_holdOf yX11_holdOf ∈ gWs := gWs_in (gT_0 (List.mem_of_getElem? (i := 75) rfl)) rfl
theorem mE_X11_isIn : Cond.selects RX11 yX11_isIn yX11_isIn ∈ gWs := gWs_in (gT_0 (List.mem_of_getElem? (i := 76) rfl)) rfl
theorem mE_X11_keyOf : Cond.selects RX11 yX11_keyOf yX11_keyOf ∈ gWs := gWs_in (gT_0 (List.mem_of_getElem? (i := 77) rfl)) rfl
theorem mE_X11_rankOf : Cond.selects RX11 yX11_rankOf yX11_rankOf ∈ gWs := gWs_in (gT_0 (List.mem_of_getElem? (i := 78) rfl)) rfl
theorem mE_X11_isAhead : Cond.selects RX11 yX11_isAhead yX11_isAhead ∈ gWs := gWs_in (gT_0 (List.mem_of_getElem? (i := 79) rfl)) rfl
theorem mE_X11_partsOf : Cond.selects RX11 yX11_partsOf yX11_partsOf ∈ gWs := gWs_in (gT_0 (List.mem_of_getElem? (i := 80) rfl)) rfl
set_option maxRecDepth 100000 in
theorem gLx0 : ∀ w ∈ u_ws RX0 TX0 4, w ∈ gWs := fun w h => have q := goodIn_r (big := lw_tbl) (u_ws RX0 TX0 4) [352, 354, 356, 358] rfl rfl w h; gWs_in q.1 (by have h2 := List.all_eq_true.mp (show (u_ws RX0 TX0 4).all goodWord = true from rfl) w h; exact h2)
set_option maxRecDepth 100000 in
theorem gLx1 : ∀ w ∈ u_ws RX1 TX1 6, w ∈ gWs := fun w h => have q := goodIn_r (big := lw_tbl) (u_ws RX1 TX1 6) [202, 204, 206, 208, 210, 212] rfl rfl w h; gWs_in q.1 (by have h2 := List.all_eq_true.mp (show (u_ws RX1 TX1 6).all goodWord = true from rfl) w h; exact h2)
set_option maxRecDepth 100000 in
theorem gLx2 : ∀ w ∈ u_ws RX2 TX2 4, w ∈ gWs := fun w h => have q := goodIn_r (big := lw_tbl) (u_ws RX2 TX2 4) [272, 274, 276, 278] rfl rfl w h; gWs_in q.1 (by have h2 := List.all_eq_true.mp (show (u_ws RX2 TX2 4).all goodWord = true from rfl) w h; exact h2)
set_option maxRecDepth 100000 in
theorem gLx3 : ∀ w ∈ u_ws RX3 TX3 8, w ∈ gWs := fun w h => have q := goodIn_r (big := lw_tbl) (u_ws RX3 TX3 8) [226, 228, 230, 232, 234, 236, 238, 240] rfl rfl w h; gWs_in q.1 (by have h2 := List.all_eq_true.mp (show (u_ws RX3 TX3 8).all goodWord = true from rfl) w h; exact h2)
set_option maxRecDepth 100000 in
theorem gLx4 : ∀ w ∈ u_ws RX4 TX4 10, w ∈ gWs := fun w h => have q := goodIn_r (big := lw_tbl) (u_ws RX4 TX4 10) [137, 139, 141, 143, 145, 147, 149, 151, 153, 155] rfl rfl w h; gWs_in q.1 (by have h2 := List.all_eq_true.mp (show (u_ws RX4 TX4 10).all goodWord = true from rfl) w h; exact h2)
set_option maxRecDepth 100000 in
theorem gLx5 : ∀ w ∈ u_ws RX5 TX5 15, w ∈ gWs := fun w h => have q := goodIn_r (big := lw_tbl) (u_ws RX5 TX5 15) [401, 403, 405, 407, 409, 411, 413, 415, 417, 419, 421, 423, 425, 427, 429] rfl rfl w h; gWs_in q.1 (by have h2 := List.all_eq_true.mp (show (u_ws RX5 TX5 15).all goodWord = true from rfl) w h; exact h2)
set_option maxRecDepth 100000 in
theorem gLx6 : ∀ w ∈ u_ws RX6 TX6 5, w ∈ gWs := fun w h => have q := goodIn_r (big := lw_tbl) (u_ws RX6 TX6 5) [177, 179, 181, 183, 185] rfl rfl w h; gWs_in q.1 (by have h2 := List.all_eq_true.mp (show (u_ws RX6 TX6 5).all goodWord = true from rfl) w h; exact h2)
set_option maxRecDepth 100000 in
theorem gLx7 : ∀ w ∈ u_ws RX7 TX7 9, w ∈ gWs := fun w h => have q := goodIn_r (big := lw_tbl) (u_ws RX7 TX7 9) [318, 320, 322, 324, 326, 328, 330, 332, 334] rfl rfl w h; gWs_in q.1 (by have h2 := List.all_eq_true.mp (show (u_ws RX7 TX7 9).all goodWord = true from rfl) w h; exact h2)
set_option maxRecDepth 100000 in
theorem gLx8 : ∀ w ∈ u_ws RX8 TX8 3, w ∈ gWs := fun w h => have q := goodIn_r (big := lw_tbl) (u_ws RX8 TX8 3) [252, 254, 256] rfl rfl w h; gWs_in q.1 (by have h2 := List.all_eq_true.mp (show (u_ws RX8 TX8 3).all goodWord = true from rfl) w h; exact h2)
set_option maxRecDepth 100000 in
theorem gLx9 : ∀ w ∈ u_ws RX9 TX9 3, w ∈ gWs := fun w h => have q := goodIn_r (big := lw_tbl) (u_ws RX9 TX9 3) [371, 373, 375] rfl rfl w h; gWs_in q.1 (by have h2 := List.all_eq_true.mp (show (u_ws RX9 TX9 3).all goodWord = true from rfl) w h; exact h2)
set_option maxRecDepth 100000 in
theorem gLx10 : ∀ w ∈ u_ws RX10 TX10 14, w ∈ gWs := fun w h => have q := goodIn_r (big := lw_tbl) (u_ws RX10 TX10 14) [446, 448, 450, 452, 454, 456, 458, 460, 462, 464, 466, 468, 470, 472] rfl rfl w h; gWs_in q.1 (by have h2 := List.all_eq_true.mp (show (u_ws RX10 TX10 14).all goodWord = true from rfl) w h; exact h2)
set_option maxRecDepth 100000 in
theorem gLx11 : ∀ w ∈ u_ws RX11 TX11 70, w ∈ gWs := fun w h => have q := goodIn_r (big := lw_tbl) (u_ws RX11 TX11 70) [1170, 1172, 1174, 1176, 1178, 1180, 1182, 1184, 1186, 1188, 1190, 1192, 1194, 1196, 1198, 1200, 1202, 1204, 1206, 1208, 1210, 1212, 1214, 1216, 1218, 1220, 1222, 1224, 1226, 1228, 1230, 1232, 1234, 1236, 1238, 1240, 1242, 1244, 1246, 1248, 1250, 1252, 1254, 1256, 1258, 1260, 1262, 1264, 1266, 1268, 1270, 1272, 1274, 1276, 1278, 1280, 1282, 1284, 1286, 1288, 1290, 1292, 1294, 1296, 1298, 1300, 1302, 1304, 1306, 1308] rfl rfl w h; gWs_in q.1 (by have h2 := List.all_eq_true.mp (show (u_ws RX11 TX11 70).all goodWord = true from rfl) w h; exact h2)
end
section
/-! ===== my rows: ints by their values, worlds by functions ===== -/
def iI (a : Int) : Int32 := Int32.ofInt a
def iL (a : Int) : Int64 := Int64.ofInt a
abbrev inR (a : Int) : Prop := -2147483648 ≤ a ∧ a ≤ 2147483647
theorem iI_toInt {a : Int} (h : inR a) : (iI a).toInt = a := Int32.toInt_ofInt_of_le (by have := h.1; omega) (by have := h.2; omega)
theorem iI_of (x : Int32) : iI x.toInt = x := Int32.ofInt_toInt x
theorem iI_rng (x : Int32) : inR x.toInt := by
  have h1 := Int32.le_toInt x
  have h2 := Int32.toInt_lt x
  constructor <;> omega
theorem iI_add (a b : Int) : iI a + iI b = iI (a + b) := (Int32.ofInt_add a b).symm
theorem iI_sub (a b : Int) : iI a - iI b = iI (a - b) := (Int32.ofInt_sub a b).symm
theorem iI_mul (a b : Int) : iI a * iI b = iI (a * b) := (Int32.ofInt_mul a b).symm
theorem iI_neg (a : Int) : -iI a = iI (-a) := (Int32.ofInt_neg a).symm
theorem iI_lt {a b : Int} (ha : inR a) (hb : inR b) : iI a < iI b ↔ a < b := by rw [Int32.lt_iff_toInt_lt, iI_toInt ha, iI_toInt hb]
theorem iI_le {a b : Int} (ha : inR a) (hb : inR b) : iI a ≤ iI b ↔ a ≤ b := by rw [Int32.le_iff_toInt_le, iI_toInt ha, iI_toInt hb]
theorem iI_eq {a b : Int} (ha : inR a) (hb : inR b) : iI a = iI b ↔ a = b := by rw [← Int32.toInt_inj, iI_toInt ha, iI_toInt hb]
theorem iI_cl {a : Int} (h0 : 0 ≤ a) (h1 : a ≤ 2147483647) : ((iI a).toNatClampNeg : Int) = a := by
  show (((iI a).toInt.toNat : Nat) : Int) = a
  rw [iI_toInt ⟨by omega, h1⟩]
  omega
theorem iI_in {a : Int} {n : Nat} (h0 : 0 ≤ a) (h1 : a < (n : Int)) (hn : n ≤ 2147483647) : vp_in (iI a) n := by
  rw [vp_in_iff, iI_toInt ⟨by omega, by omega⟩]
  exact ⟨h0, h1⟩
theorem iI_zero : (0 : Int32) = iI 0 := rfl
/-- one place of a row changed -/
def u1 (a : Int → Int) (e x : Int) : Int → Int := fun k => if k = e then x else a k
theorem u1_s {a : Int → Int} {e x : Int} : u1 a e x e = x := if_pos rfl
theorem u1_n {a : Int → Int} {e x k : Int} (h : k ≠ e) : u1 a e x k = a k := if_neg h
abbrev gV : Type := Nat → Int
abbrev gF : Type := Nat → Int → Int
/-- a row of ints, of longs, as the heap has it -/
def rI (c : ClassId) (n : Nat) (a : Int → Int) : va_E := .inl (c, n, .inl (fun (k : Nat) => iI (a (k : Int))))
def rL (c : ClassId) (n : Nat) (a : Int → Int) : va_E := .inl (c, n, .inr (.inl (fun (k : Nat) => iL (a (k : Int)))))
theorem rI_upd {a : Int → Int} {e x : Int} (h0 : 0 ≤ e) (h1 : e ≤ 2147483647) : upd (fun (k : Nat) => iI (a (k : Int))) (iI e).toNatClampNeg (iI x) = fun (k : Nat) => iI (u1 a e x (k : Int)) := by
  funext k
  have hc := iI_cl h0 h1
  unfold upd u1
  by_cases hk : k = (iI e).toNatClampNeg
  · rw [if_pos hk, if_pos (by rw [hk]; exact hc)]
  · rw [if_neg hk, if_neg (by omega)]
theorem rL_upd {a : Int → Int} {e x : Int} (h0 : 0 ≤ e) (h1 : e ≤ 2147483647) : vp_updL (fun (k : Nat) => iL (a (k : Int))) (iI e).toNatClampNeg (iL x) = fun (k : Nat) => iL (u1 a e x (k : Int)) := by
  funext k
  have hc := iI_cl h0 h1
  unfold vp_updL u1
  by_cases hk : k = (iI e).toNatClampNeg
  · rw [if_pos hk, if_pos (by rw [hk]; exact hc)]
  · rw [if_neg hk, if_neg (by omega)]
/-- the arrays' classes: k 0 int[], k 1 long[], k 2 byte[], k 3 boolean[] -/
def gT (k : Nat → ClassId) : List (ClassId × FieldType) := [(k 0, .int), (k 1, .long), (k 2, .byte), (k 3, .boolean)]
def gC (D : va_G) (k : Nat → ClassId) (p : Program) (s : State) (m : MethodId) (args : Array Value) (c : Code) (cc : ByteArray) (own : String) : Prop :=
  p.tables.exec = Jvm.exec ∧ c.code = cc ∧ (∀ w ∈ gWs, w.before args s = true) ∧ s.vm.findClass own = some m.cls ∧ va_K D vwCl (gT k) s
abbrev gOk (v : gV) (f : gF) : Prop := (∀ j, inR (v j)) ∧ ∀ j k, inR (f j k)
/-- the world: its cells, and that its numbers are in range -/
def gWd (D : va_G) (Wd : gV → gF → gF → va_W) (v : gV) (f g : gF) (H : Heap) : Prop := va_P D vwCl (Wd v f g) H ∧ gOk v f
theorem gR_up {v : gV} {f : gF} (h : gOk v f) (i : Nat) {x : Int} (hx : inR x) : gOk (va_up v i x) f := ⟨fun j => by
  unfold va_up
  by_cases hj : j = i
  · rw [if_pos hj]; exact hx
  · rw [if_neg hj]; exact h.1 j, h.2⟩
theorem u1_rng {a : Int → Int} {e x : Int} (h : ∀ k, inR (a k)) (hx : inR x) : ∀ k, inR (u1 a e x k) := fun k => by
  unfold u1
  by_cases hk : k = e
  · rw [if_pos hk]; exact hx
  · rw [if_neg hk]; exact h k
theorem gF_up {v : gV} {f : gF} (h : gOk v f) (i : Nat) {a : Int → Int} (hx : ∀ k, inR (a k)) : gOk v (va_up f i a) := ⟨h.1, fun j k => by
  unfold va_up
  by_cases hj : j = i
  · rw [if_pos hj]; exact hx k
  · rw [if_neg hj]; exact h.2 j k⟩
section GI
variable {p : Program} {l : Launch} {e : Env} {R : Room} {s : State} {m : MethodId} {args : Array Value} {below : List Frame} {meth : Method} {c : Code} {H : Heap} {locs : List Loc} {cells slots : Nat} {Q : State → Prop}
variable {cc : ByteArray} {pc : Nat} {ls : Array Slot} {rest : List Value} {a b z : Int}
theorem gi_add (hx : p.tables.exec = Jvm.exec) (hb : c.code = cc) (hdg : decode cc pc = .ok (.iadd, 1)) (hz : a + b = z) (k : W p l e R s m args below meth c H locs cells slots Q (F0 m (pc + 1) ls (.int (iI z) :: rest))) : W p l e R s m args below meth c H locs cells slots Q (F0 m pc ls (.int (iI b) :: .int (iI a) :: rest)) := by
  refine lv_iadd hx hb hdg ?_
  rw [iI_add, hz]; exact k
theorem gi_sub (hx : p.tables.exec = Jvm.exec) (hb : c.code = cc) (hdg : decode cc pc = .ok (.isub, 1)) (hz : a - b = z) (k : W p l e R s m args below meth c H locs cells slots Q (F0 m (pc + 1) ls (.int (iI z) :: rest))) : W p l e R s m args below meth c H locs cells slots Q (F0 m pc ls (.int (iI b) :: .int (iI a) :: rest)) := by
  refine lv_isub hx hb hdg ?_
  rw [iI_sub, hz]; exact k
theorem gi_mul (hx : p.tables.exec = Jvm.exec) (hb : c.code = cc) (hdg : decode cc pc = .ok (.imul, 1)) (hz : a * b = z) (k : W p l e R s m args below meth c H locs cells slots Q (F0 m (pc + 1) ls (.int (iI z) :: rest))) : W p l e R s m args below meth c H locs cells slots Q (F0 m pc ls (.int (iI b) :: .int (iI a) :: rest)) := by
  refine lv_imul hx hb hdg ?_
  rw [iI_mul, hz]; exact k
theorem gi_neg (hx : p.tables.exec = Jvm.exec) (hb : c.code = cc) (hdg : decode cc pc = .ok (.ineg, 1)) (hz : -a = z) (k : W p l e R s m args below meth c H locs cells slots Q (F0 m (pc + 1) ls (.int (iI z) :: rest))) : W p l e R s m args below meth c H locs cells slots Q (F0 m pc ls (.int (iI a) :: rest)) := by
  refine lv_ineg hx hb hdg ?_
  rw [iI_neg, hz]; exact k
theorem gi_and (hx : p.tables.exec = Jvm.exec) (hb : c.code = cc) (hdg : decode cc pc = .ok (.iand, 1)) (hz : iI a &&& iI b = iI z) (k : W p l e R s m args below meth c H locs cells slots Q (F0 m (pc + 1) ls (.int (iI z) :: rest))) : W p l e R s m args below meth c H locs cells slots Q (F0 m pc ls (.int (iI b) :: .int (iI a) :: rest)) := by
  refine lv_iand hx hb hdg ?_
  rw [hz]; exact k
theorem gi_or (hx : p.tables.exec = Jvm.exec) (hb : c.code = cc) (hdg : decode cc pc = .ok (.ior, 1)) (hz : iI a ||| iI b = iI z) (k : W p l e R s m args below meth c H locs cells slots Q (F0 m (pc + 1) ls (.int (iI z) :: rest))) : W p l e R s m args below meth c H locs cells slots Q (F0 m pc ls (.int (iI b) :: .int (iI a) :: rest)) := by
  refine lv_ior hx hb hdg ?_
  rw [hz]; exact k
theorem gi_ushr (hx : p.tables.exec = Jvm.exec) (hb : c.code = cc) (hdg : decode cc pc = .ok (.iushr, 1)) (hz : ((iI a).toUInt32 >>> ((iI b).toUInt32 &&& Int32.toUInt32 31)).toInt32 = iI z) (k : W p l e R s m args below meth c H locs cells slots Q (F0 m (pc + 1) ls (.int (iI z) :: rest))) : W p l e R s m args below meth c H locs cells slots Q (F0 m pc ls (.int (iI b) :: .int (iI a) :: rest)) := lv_iushr hx hb hdg hz k
theorem gi_shr (hx : p.tables.exec = Jvm.exec) (hb : c.code = cc) (hdg : decode cc pc = .ok (.ishr, 1)) (hz : iI a >>> (iI b &&& 31) = iI z) (k : W p l e R s m args below meth c H locs cells slots Q (F0 m (pc + 1) ls (.int (iI z) :: rest))) : W p l e R s m args below meth c H locs cells slots Q (F0 m pc ls (.int (iI b) :: .int (iI a) :: rest)) := by
  refine lv_ishr hx hb hdg ?_
  rw [hz]; exact k
theorem gi_shl (hx : p.tables.exec = Jvm.exec) (hb : c.code = cc) (hdg : decode cc pc = .ok (.ishl, 1)) (hz : iI a <<< (iI b &&& 31) = iI z) (k : W p l e R s m args below meth c H locs cells slots Q (F0 m (pc + 1) ls (.int (iI z) :: rest))) : W p l e R s m args below meth c H locs cells slots Q (F0 m pc ls (.int (iI b) :: .int (iI a) :: rest)) := by
  refine lv_ishl hx hb hdg ?_
  rw [hz]; exact k
theorem gi_i2b (hx : p.tables.exec = Jvm.exec) (hb : c.code = cc) (hdg : decode cc pc = .ok (.i2b, 1)) (hz : (iI a).toInt8.toInt32 = iI z) (k : W p l e R s m args below meth c H locs cells slots Q (F0 m (pc + 1) ls (.int (iI z) :: rest))) : W p l e R s m args below meth c H locs cells slots Q (F0 m pc ls (.int (iI a) :: rest)) := lv_i2b hx hb hdg hz k
theorem gi_ceq (hx : p.tables.exec = Jvm.exec) (hb : c.code = cc) {off : Int} {tgt : Nat} (hdg : decode cc pc = .ok (.if_icmp .eq off, 3)) (ht : (pc : Int) + off = (tgt : Int)) (ha : inR a) (hbb : inR b) (kt : a = b → W p l e R s m args below meth c H locs cells slots Q (F0 m tgt ls rest)) (kf : a ≠ b → W p l e R s m args below meth c H locs cells slots Q (F0 m (pc + 3) ls rest)) : W p l e R s m args below meth c H locs cells slots Q (F0 m pc ls (.int (iI b) :: .int (iI a) :: rest)) := by
  refine lv_icmp_eq hx hb hdg ht (fun q => kt ?_) (fun q => kf ?_)
  all_goals (first | simp only [iI_eq ha hbb, iI_lt ha hbb, iI_lt hbb ha, iI_le ha hbb, iI_le hbb ha, ne_eq] at q | skip)
  all_goals omega
theorem gi_zeq (hx : p.tables.exec = Jvm.exec) (hb : c.code = cc) {off : Int} {tgt : Nat} (hdg : decode cc pc = .ok (.ifCond .eq off, 3)) (ht : (pc : Int) + off = (tgt : Int)) (ha : inR a) (kt : a = 0 → W p l e R s m args below meth c H locs cells slots Q (F0 m tgt ls rest)) (kf : a ≠ 0 → W p l e R s m args below meth c H locs cells slots Q (F0 m (pc + 3) ls rest)) : W p l e R s m args below meth c H locs cells slots Q (F0 m pc ls (.int (iI a) :: rest)) := by
  have hz : inR 0 := by decide
  refine lv_if_eq hx hb hdg ht (fun q => kt ?_) (fun q => kf ?_)
  all_goals rw [iI_zero] at q
  all_goals (first | simp only [iI_eq ha hz, iI_lt ha hz, iI_lt hz ha, iI_le ha hz, iI_le hz ha, ne_eq] at q | skip)
  all_goals omega
theorem gi_cne (hx : p.tables.exec = Jvm.exec) (hb : c.code = cc) {off : Int} {tgt : Nat} (hdg : decode cc pc = .ok (.if_icmp .ne off, 3)) (ht : (pc : Int) + off = (tgt : Int)) (ha : inR a) (hbb : inR b) (kt : a ≠ b → W p l e R s m args below meth c H locs cells slots Q (F0 m tgt ls rest)) (kf : a = b → W p l e R s m args below meth c H locs cells slots Q (F0 m (pc + 3) ls rest)) : W p l e R s m args below meth c H locs cells slots Q (F0 m pc ls (.int (iI b) :: .int (iI a) :: rest)) := by
  refine lv_icmp_ne hx hb hdg ht (fun q => kt ?_) (fun q => kf ?_)
  all_goals (first | simp only [iI_eq ha hbb, iI_lt ha hbb, iI_lt hbb ha, iI_le ha hbb, iI_le hbb ha, ne_eq] at q | skip)
  all_goals omega
theorem gi_zne (hx : p.tables.exec = Jvm.exec) (hb : c.code = cc) {off : Int} {tgt : Nat} (hdg : decode cc pc = .ok (.ifCond .ne off, 3)) (ht : (pc : Int) + off = (tgt : Int)) (ha : inR a) (kt : a ≠ 0 → W p l e R s m args below meth c H locs cells slots Q (F0 m tgt ls rest)) (kf : a = 0 → W p l e R s m args below meth c H locs cells slots Q (F0 m (pc + 3) ls rest)) : W p l e R s m args below meth c H locs cells slots Q (F0 m pc ls (.int (iI a) :: rest)) := by
  have hz : inR 0 := by decide
  refine lv_if_ne hx hb hdg ht (fun q => kt ?_) (fun q => kf ?_)
  all_goals rw [iI_zero] at q
  all_goals (first | simp only [iI_eq ha hz, iI_lt ha hz, iI_lt hz ha, iI_le ha hz, iI_le hz ha, ne_eq] at q | skip)
  all_goals omega
theorem gi_clt (hx : p.tables.exec = Jvm.exec) (hb : c.code = cc) {off : Int} {tgt : Nat} (hdg : decode cc pc = .ok (.if_icmp .lt off, 3)) (ht : (pc : Int) + off = (tgt : Int)) (ha : inR a) (hbb : inR b) (kt : a < b → W p l e R s m args below meth c H locs cells slots Q (F0 m tgt ls rest)) (kf : b ≤ a → W p l e R s m args below meth c H locs cells slots Q (F0 m (pc + 3) ls rest)) : W p l e R s m args below meth c H locs cells slots Q (F0 m pc ls (.int (iI b) :: .int (iI a) :: rest)) := by
  refine lv_icmp_lt hx hb hdg ht (fun q => kt ?_) (fun q => kf ?_)
  all_goals (first | simp only [iI_eq ha hbb, iI_lt ha hbb, iI_lt hbb ha, iI_le ha hbb, iI_le hbb ha, ne_eq] at q | skip)
  all_goals omega
theorem gi_zlt (hx : p.tables.exec = Jvm.exec) (hb : c.code = cc) {off : Int} {tgt : Nat} (hdg : decode cc pc = .ok (.ifCond .lt off, 3)) (ht : (pc : Int) + off = (tgt : Int)) (ha : inR a) (kt : a < 0 → W p l e R s m args below meth c H locs cells slots Q (F0 m tgt ls rest)) (kf : 0 ≤ a → W p l e R s m args below meth c H locs cells slots Q (F0 m (pc + 3) ls rest)) : W p l e R s m args below meth c H locs cells slots Q (F0 m pc ls (.int (iI a) :: rest)) := by
  have hz : inR 0 := by decide
  refine lv_if_lt hx hb hdg ht (fun q => kt ?_) (fun q => kf ?_)
  all_goals rw [iI_zero] at q
  all_goals (first | simp only [iI_eq ha hz, iI_lt ha hz, iI_lt hz ha, iI_le ha hz, iI_le hz ha, ne_eq] at q | skip)
  all_goals omega
theorem gi_cge (hx : p.tables.exec = Jvm.exec) (hb : c.code = cc) {off : Int} {tgt : Nat} (hdg : decode cc pc = .ok (.if_icmp .ge off, 3)) (ht : (pc : Int) + off = (tgt : Int)) (ha : inR a) (hbb : inR b) (kt : b ≤ a → W p l e R s m args below meth c H locs cells slots Q (F0 m tgt ls rest)) (kf : a < b → W p l e R s m args below meth c H locs cells slots Q (F0 m (pc + 3) ls rest)) : W p l e R s m args below meth c H locs cells slots Q (F0 m pc ls (.int (iI b) :: .int (iI a) :: rest)) := by
  refine lv_icmp_ge hx hb hdg ht (fun q => kt ?_) (fun q => kf ?_)
  all_goals (first | simp only [iI_eq ha hbb, iI_lt ha hbb, iI_lt hbb ha, iI_le ha hbb, iI_le hbb ha, ne_eq] at q | skip)
  all_goals omega
theorem gi_zge (hx : p.tables.exec = Jvm.exec) (hb : c.code = cc) {off : Int} {tgt : Nat} (hdg : decode cc pc = .ok (.ifCond .ge off, 3)) (ht : (pc : Int) + off = (tgt : Int)) (ha : inR a) (kt : 0 ≤ a → W p l e R s m args below meth c H locs cells slots Q (F0 m tgt ls rest)) (kf : a < 0 → W p l e R s m args below meth c H locs cells slots Q (F0 m (pc + 3) ls rest)) : W p l e R s m args below meth c H locs cells slots Q (F0 m pc ls (.int (iI a) :: rest)) := by
  have hz : inR 0 := by decide
  refine lv_if_ge hx hb hdg ht (fun q => kt ?_) (fun q => kf ?_)
  all_goals rw [iI_zero] at q
  all_goals (first | simp only [iI_eq ha hz, iI_lt ha hz, iI_lt hz ha, iI_le ha hz, iI_le hz ha, ne_eq] at q | skip)
  all_goals omega
theorem gi_cgt (hx : p.tables.exec = Jvm.exec) (hb : c.code = cc) {off : Int} {tgt : Nat} (hdg : decode cc pc = .ok (.if_icmp .gt off, 3)) (ht : (pc : Int) + off = (tgt : Int)) (ha : inR a) (hbb : inR b) (kt : b < a → W p l e R s m args below meth c H locs cells slots Q (F0 m tgt ls rest)) (kf : a ≤ b → W p l e R s m args below meth c H locs cells slots Q (F0 m (pc + 3) ls rest)) : W p l e R s m args below meth c H locs cells slots Q (F0 m pc ls (.int (iI b) :: .int (iI a) :: rest)) := by
  refine lv_icmp_gt hx hb hdg ht (fun q => kt ?_) (fun q => kf ?_)
  all_goals (first | simp only [iI_eq ha hbb, iI_lt ha hbb, iI_lt hbb ha, iI_le ha hbb, iI_le hbb ha, ne_eq] at q | skip)
  all_goals omega
theorem gi_zgt (hx : p.tables.exec = Jvm.exec) (hb : c.code = cc) {off : Int} {tgt : Nat} (hdg : decode cc pc = .ok (.ifCond .gt off, 3)) (ht : (pc : Int) + off = (tgt : Int)) (ha : inR a) (kt : 0 < a → W p l e R s m args below meth c H locs cells slots Q (F0 m tgt ls rest)) (kf : a ≤ 0 → W p l e R s m args below meth c H locs cells slots Q (F0 m (pc + 3) ls rest)) : W p l e R s m args below meth c H locs cells slots Q (F0 m pc ls (.int (iI a) :: rest)) := by
  have hz : inR 0 := by decide
  refine lv_if_gt hx hb hdg ht (fun q => kt ?_) (fun q => kf ?_)
  all_goals rw [iI_zero] at q
  all_goals (first | simp only [iI_eq ha hz, iI_lt ha hz, iI_lt hz ha, iI_le ha hz, iI_le hz ha, ne_eq] at q | skip)
  all_goals omega
theorem gi_cle (hx : p.tables.exec = Jvm.exec) (hb : c.code = cc) {off : Int} {tgt : Nat} (hdg : decode cc pc = .ok (.if_icmp .le off, 3)) (ht : (pc : Int) + off = (tgt : Int)) (ha : inR a) (hbb : inR b) (kt : a ≤ b → W p l e R s m args below meth c H locs cells slots Q (F0 m tgt ls rest)) (kf : b < a → W p l e R s m args below meth c H locs cells slots Q (F0 m (pc + 3) ls rest)) : W p l e R s m args below meth c H locs cells slots Q (F0 m pc ls (.int (iI b) :: .int (iI a) :: rest)) := by
  refine lv_icmp_le hx hb hdg ht (fun q => kt ?_) (fun q => kf ?_)
  all_goals (first | simp only [iI_eq ha hbb, iI_lt ha hbb, iI_lt hbb ha, iI_le ha hbb, iI_le hbb ha, ne_eq] at q | skip)
  all_goals omega
theorem gi_zle (hx : p.tables.exec = Jvm.exec) (hb : c.code = cc) {off : Int} {tgt : Nat} (hdg : decode cc pc = .ok (.ifCond .le off, 3)) (ht : (pc : Int) + off = (tgt : Int)) (ha : inR a) (kt : a ≤ 0 → W p l e R s m args below meth c H locs cells slots Q (F0 m tgt ls rest)) (kf : 0 < a → W p l e R s m args below meth c H locs cells slots Q (F0 m (pc + 3) ls rest)) : W p l e R s m args below meth c H locs cells slots Q (F0 m pc ls (.int (iI a) :: rest)) := by
  have hz : inR 0 := by decide
  refine lv_if_le hx hb hdg ht (fun q => kt ?_) (fun q => kf ?_)
  all_goals rw [iI_zero] at q
  all_goals (first | simp only [iI_eq ha hz, iI_lt ha hz, iI_lt hz ha, iI_le ha hz, iI_le hz ha, ne_eq] at q | skip)
  all_goals omega
end GI
end
section
section GA
variable {p : Program} {l : Launch} {e : Env} {R : Room} {s : State} {m : MethodId} {args : Array Value} {below : List Frame} {meth : Method} {c : Code} {H H0 : Heap} {locs : List Loc} {cells slots : Nat} {Q : State → Prop}
variable {cc : ByteArray} {pc : Nat} {ls : Array Slot} {rest : List Value} {own : String} {D : va_G} {k : Nat → ClassId} {A : Nat → Prop} {ws ws' : va_W} {a n : Nat} {r : Int → Int} {i x : Int}
theorem g_iald (C : gC D k p s m args c cc own) (hP : va_P D vwCl ws H) (q0 : Nat) (ha : ws[q0]? = some (a, rI (k 0) n r)) (hn : n ≤ 2147483647) (h0 : 0 ≤ i) (h1 : i < (n : Int)) (hdg : decode cc pc = .ok (.iaload, 1)) (kk : W p l e R s m args below meth c H locs cells slots Q (F0 m (pc + 1) ls (.int (iI (r i)) :: rest))) : W p l e R s m args below meth c H locs cells slots Q (F0 m pc ls (.int (iI i) :: .ref a :: rest)) := by
  refine va_iald (D := D) C.1 C.2.1 C.2.2.2.2 hP q0 0 ha rfl (iI_in h0 h1 hn) hdg ?_
  rw [show ((iI i).toNatClampNeg : Int) = i from iI_cl h0 (by omega)]
  exact kk
theorem g_zald (C : gC D k p s m args c cc own) (hP : va_P D vwCl ws H) (q0 : Nat) (ha : ws[q0]? = some (a, rI (k 3) n r)) (hn : n ≤ 2147483647) (h0 : 0 ≤ i) (h1 : i < (n : Int)) (hdg : decode cc pc = .ok (.baload, 1)) (kk : W p l e R s m args below meth c H locs cells slots Q (F0 m (pc + 1) ls (.int (iI (r i)) :: rest))) : W p l e R s m args below meth c H locs cells slots Q (F0 m pc ls (.int (iI i) :: .ref a :: rest)) := by
  refine va_zald (D := D) C.1 C.2.1 C.2.2.2.2 hP q0 3 ha rfl (iI_in h0 h1 hn) hdg ?_
  rw [show ((iI i).toNatClampNeg : Int) = i from iI_cl h0 (by omega)]
  exact kk
theorem g_bald (C : gC D k p s m args c cc own) (hP : va_P D vwCl ws H) (q0 : Nat) (ha : ws[q0]? = some (a, rI (k 2) n r)) (hn : n ≤ 2147483647) (h0 : 0 ≤ i) (h1 : i < (n : Int)) (hdg : decode cc pc = .ok (.baload, 1)) (kk : W p l e R s m args below meth c H locs cells slots Q (F0 m (pc + 1) ls (.int (iI (r i)) :: rest))) : W p l e R s m args below meth c H locs cells slots Q (F0 m pc ls (.int (iI i) :: .ref a :: rest)) := by
  refine va_bald (D := D) C.1 C.2.1 C.2.2.2.2 hP q0 2 ha rfl (iI_in h0 h1 hn) hdg ?_
  rw [show ((iI i).toNatClampNeg : Int) = i from iI_cl h0 (by omega)]
  exact kk
theorem g_lald (C : gC D k p s m args c cc own) (hP : va_P D vwCl ws H) (q0 : Nat) (ha : ws[q0]? = some (a, rL (k 1) n r)) (hn : n ≤ 2147483647) (h0 : 0 ≤ i) (h1 : i < (n : Int)) (hdg : decode cc pc = .ok (.laload, 1)) (kk : W p l e R s m args below meth c H locs cells slots Q (F0 m (pc + 1) ls (.long (iL (r i)) :: rest))) : W p l e R s m args below meth c H locs cells slots Q (F0 m pc ls (.int (iI i) :: .ref a :: rest)) := by
  refine va_lald (D := D) C.1 C.2.1 C.2.2.2.2 hP q0 1 ha rfl (iI_in h0 h1 hn) hdg ?_
  rw [show ((iI i).toNatClampNeg : Int) = i from iI_cl h0 (by omega)]
  exact kk
theorem g_iast (C : gC D k p s m args c cc own) (hP : va_P D vwCl ws H) (hD : va_D A ws) (hS : va_S A H0 H locs) (q0 : Nat) (ha : ws[q0]? = some (a, rI (k 0) n r)) (hn : n ≤ 2147483647) (h0 : 0 ≤ i) (h1 : i < (n : Int)) (hw : ws.set q0 (a, rI (k 0) n (u1 r i x)) = ws') (hdg : decode cc pc = .ok (.iastore, 1)) (kk : ∀ (H1 : Heap) (locs1 : List Loc), va_P D vwCl ws' H1 → va_S A H0 H1 locs1 → W p l e R s m args below meth c H1 locs1 cells slots Q (F0 m (pc + 1) ls rest)) : W p l e R s m args below meth c H locs cells slots Q (F0 m pc ls (.int (iI x) :: .int (iI i) :: .ref a :: rest)) := by
  refine va_iast (D := D) C.1 C.2.1 C.2.2.2.2 hP hD hS q0 0 ha rfl (iI_in h0 h1 hn) hdg (fun H1 locs1 hP1 _ hS1 => kk H1 locs1 ?_ hS1)
  rw [rI_upd h0 (by omega)] at hP1
  rw [← hw]
  exact hP1
theorem g_last (C : gC D k p s m args c cc own) (hP : va_P D vwCl ws H) (hD : va_D A ws) (hS : va_S A H0 H locs) (q0 : Nat) (ha : ws[q0]? = some (a, rL (k 1) n r)) (hn : n ≤ 2147483647) (h0 : 0 ≤ i) (h1 : i < (n : Int)) (hw : ws.set q0 (a, rL (k 1) n (u1 r i x)) = ws') (hdg : decode cc pc = .ok (.lastore, 1)) (kk : ∀ (H1 : Heap) (locs1 : List Loc), va_P D vwCl ws' H1 → va_S A H0 H1 locs1 → W p l e R s m args below meth c H1 locs1 cells slots Q (F0 m (pc + 1) ls rest)) : W p l e R s m args below meth c H locs cells slots Q (F0 m pc ls (.long (iL x) :: .int (iI i) :: .ref a :: rest)) := by
  refine va_last (D := D) C.1 C.2.1 C.2.2.2.2 hP hD hS q0 1 ha rfl (iI_in h0 h1 hn) hdg (fun H1 locs1 hP1 _ hS1 => kk H1 locs1 ?_ hS1)
  rw [rL_upd h0 (by omega)] at hP1
  rw [← hw]
  exact hP1
theorem g_bast (C : gC D k p s m args c cc own) (hP : va_P D vwCl ws H) (hD : va_D A ws) (hS : va_S A H0 H locs) (q0 : Nat) (ha : ws[q0]? = some (a, rI (k 2) n r)) (hn : n ≤ 2147483647) (h0 : 0 ≤ i) (h1 : i < (n : Int)) (hx : (iI x).toInt8.toInt32 = iI x) (hw : ws.set q0 (a, rI (k 2) n (u1 r i x)) = ws') (hdg : decode cc pc = .ok (.bastore, 1)) (kk : ∀ (H1 : Heap) (locs1 : List Loc), va_P D vwCl ws' H1 → va_S A H0 H1 locs1 → W p l e R s m args below meth c H1 locs1 cells slots Q (F0 m (pc + 1) ls rest)) : W p l e R s m args below meth c H locs cells slots Q (F0 m pc ls (.int (iI x) :: .int (iI i) :: .ref a :: rest)) := by
  refine va_bast (D := D) C.1 C.2.1 C.2.2.2.2 hP hD hS q0 2 ha rfl (iI_in h0 h1 hn) hdg (fun H1 locs1 hP1 _ hS1 => kk H1 locs1 ?_ hS1)
  rw [vp_nar_byte, hx, rI_upd h0 (by omega)] at hP1
  rw [← hw]
  exact hP1
theorem vp_nar_bool {y : Int} (h : y = 0 ∨ y = 1) : vp_nar .boolean (iI y) = iI y := by
  rcases h with rfl | rfl <;> rfl
theorem g_zast (C : gC D k p s m args c cc own) (hP : va_P D vwCl ws H) (hD : va_D A ws) (hS : va_S A H0 H locs) (q0 : Nat) (ha : ws[q0]? = some (a, rI (k 3) n r)) (hn : n ≤ 2147483647) (h0 : 0 ≤ i) (h1 : i < (n : Int)) (hx : x = 0 ∨ x = 1) (hw : ws.set q0 (a, rI (k 3) n (u1 r i x)) = ws') (hdg : decode cc pc = .ok (.bastore, 1)) (kk : ∀ (H1 : Heap) (locs1 : List Loc), va_P D vwCl ws' H1 → va_S A H0 H1 locs1 → W p l e R s m args below meth c H1 locs1 cells slots Q (F0 m (pc + 1) ls rest)) : W p l e R s m args below meth c H locs cells slots Q (F0 m pc ls (.int (iI x) :: .int (iI i) :: .ref a :: rest)) := by
  refine va_zast (D := D) C.1 C.2.1 C.2.2.2.2 hP hD hS q0 3 ha rfl (iI_in h0 h1 hn) hdg (fun H1 locs1 hP1 _ hS1 => kk H1 locs1 ?_ hS1)
  rw [vp_nar_bool hx, rI_upd h0 (by omega)] at hP1
  rw [← hw]
  exact hP1
theorem g_newa (C : gC D k p s m args c cc own) {atype : ArrayType} {ty : FieldType} (hty : newarray.typeOf atype = ty) (hm : Cond.arrayClass ty ∈ gWs) (t0 : Nat) {cA : ClassId} (ht : (gT k)[t0]? = some (cA, ty)) (hra : ∀ c1, va_RA s c1 ty → s.vm.findClass ("[" ++ ty.toString) = some c1) (hP : va_P D vwCl ws H) (hD : va_D A ws) (hS : va_S A H0 H locs) (hA : ∀ q, H0.size ≤ q → A q)
    {n1 : Int32} {N' : Nat} {a0 : vp_A} (ha : ∀ c1 : ClassId, vp_cell c1 a0 = arrV c1 N' (fun _ => defaultValue ty)) (hn : ¬ n1 < 0) (hN : n1.toNatClampNeg = N') (hbytes : N' * componentBytes ty ≤ 536870912) (hcells : cells + 1 ≤ R.cells) (hslots : slots + N' ≤ R.slots) (hdg : decode cc pc = .ok (.newarray atype, 2))
    (kk : ∀ (q : Nat) (H1 : Heap), va_P D vwCl (ws ++ [(q, .inl (cA, a0))]) H1 → va_D A (ws ++ [(q, .inl (cA, a0))]) → va_S A H0 H1 locs →
      W p l e R s m args below meth c H1 locs (cells + 1) (slots + N') Q (F0 m (pc + 2) ls (.ref q :: rest))) : W p l e R s m args below meth c H locs cells slots Q (F0 m pc ls (.int n1 :: rest)) := by
  subst hty
  refine va_newa (D := D) C.1 C.2.1 (C.2.2.1 _ hm) rfl C.2.2.2.2 hP hD hS hA ha hn hN hbytes hcells hslots hdg (fun q c1 H1 hK hP1 hD1 hS1 => ?_)
  have e1 : c1 = cA := by
    have h1 := hra c1 (hK.2 ((gT k).length) (c1, newarray.typeOf atype) (by simp)).2
    have h2 := hra cA (C.2.2.2.2.2 t0 (cA, newarray.typeOf atype) ht).2
    exact Option.some.inj (h1.symm.trans h2)
  subst e1
  exact kk q H1 hP1 hD1 hS1
end GA
/-! contracts over a world of fixed addresses -/
def gPre (D : va_G) (k : Nat → ClassId) (Wd : gV → gF → gF → va_W) (v : gV) (f g : gF) (av : List Value) : Array Value → State → Prop := va_Pc av (fun U => gWd D Wd v f g U.heap ∧ va_K D vwCl (gT k) U)
def gPost (D : va_G) (A : Nat → Prop) (Wd : gV → gF → gF → va_W) (post : Option Value → gV → gF → gF → Prop) : Array Value → State → Outcome → State → Prop := fun _ st oc t => (∃ r v f g, oc = .returned r ∧ post r v f g ∧ gWd D Wd v f g t.heap) ∧ va_F A st t
abbrev gRm (fr lo : Nat) : Room := { frames := fr, cells := 0, slots := 0, locals := lo }
def GM (l : Launch) (D : va_G) (k : Nat → ClassId) (A : Nat → Prop) (Wd : gV → gF → gF → va_W) (y : MethodName) (cc : ByteArray) (maxL : Nat) (ret : Option FieldType) (fr lo : Nat) (av : List Value) (v : gV) (f g : gF) (post : Option Value → gV → gF → gF → Prop) : Prop :=
  Met l y (Cond.code y cc maxL ret :: gWs) (gRm fr lo) (gPre D k Wd v f g av) (gPost D A Wd post) 0 0 A
theorem gPre_blind {D : va_G} {k : Nat → ClassId} {Wd : gV → gF → gF → va_W} {v : gV} {f g : gF} {av : List Value} : FrameBlind (gPre D k Wd v f g av) := fun a U gg mk q => by
  obtain ⟨q0, q1, q2⟩ := q
  exact ⟨q0, q1, va_K.moved (u := U) (U := U.calling gg mk a) (Vm.Alike.refl U.vm) q2⟩
section GMs
variable {l : Launch} {D : va_G} {k : Nat → ClassId} {A : Nat → Prop} {Wd : gV → gF → gF → va_W} {y : MethodName} {cc : ByteArray} {maxL : Nat} {ret : Option FieldType} {fr lo : Nat} {av : List Value} {v : gV} {f g : gF} {post : Option Value → gV → gF → gF → Prop}
theorem GM.of (hy : plainName y.cls = true)
    (body : ∀ (p : Program) (e : Env) (s : State) (m : MethodId) (below : List Frame) (meth : Method) (c : Code), gC D k p s m av.toArray c cc y.cls → c.maxLocals = maxL → meth.sig.returnType = ret → meth.locks = false → gWd D Wd v f g s.heap →
      W p l e (gRm fr lo) s m av.toArray below meth c s.heap [] 0 0 (MQ below (gPost D A Wd post) av.toArray s 0 0 A) (entryFrame m av.toArray maxL)) : GM l D k A Wd y cc maxL ret fr lo av v f g post := by
  refine Met.ofW (cc := cc) (maxL := maxL) (ret := ret) hy rfl ?_
  intro p e s m args below meth c s₁ B hml hv
  obtain ⟨rfl, hP, hK⟩ := hv
  have hts := atoms_spec (ws := Cond.code y cc maxL ret :: gWs) B.pre
  exact body p e s m below meth c ⟨B.exec, B.bytes, fun w h => hts w (List.mem_cons_of_mem _ h), findClass_of_methodNamed B.named, hK⟩ hml B.returns B.notSynchronized hP
variable {p : Program} {e : Env} {R : Room} {s : State} {m : MethodId} {args : Array Value} {below : List Frame} {meth : Method} {c : Code} {H H0 : Heap} {locs : List Loc} {cells slots : Nat} {Q : State → Prop}
variable {pc nL n idx : Nat} {ls : Array Slot} {rest st0 As : List Value} {own C1 : String} {A0 : Nat → Prop} {c1 : ByteArray} {b : Nat}
theorem g_call {a : Array Value} (hr : va_Run p l e R s m args below meth c H locs cells slots 0 0 (F0 m pc ls st0) rest (gPost D A Wd post a) A) (hS : va_S A0 H0 H locs) (hA : ∀ q, A q → A0 q)
    (kk : ∀ (r : Option Value) (v : gV) (f g : gF) (H1 : Heap) (locs1 : List Loc), post r v f g → gWd D Wd v f g H1 → (∀ q : Nat, q < H.size → ¬ A q → H1[q]? = H[q]?) → va_S A0 H0 H1 locs1 → W p l e R s m args below meth c H1 locs1 cells slots Q (F0 m (pc + 3) ls (r.toList ++ rest))) : W p l e R s m args below meth c H locs cells slots Q (F0 m pc ls st0) := by
  intro T hT X
  obtain ⟨vv, st₀, t, T', L, h0, X', hL, e1, e2, ⟨⟨r, v, f, g, hv, hp, hb⟩, hz, hk⟩, st⟩ := hr T hT X
  cases hv
  rw [h0] at hz hk
  obtain ⟨t2, a1, b1⟩ := kk _ v f g T'.heap (locs ++ L) hp (by rw [e1]; exact hb) (fun q h1 h2 => by rw [e1]; exact hk q h1 h2)
    ⟨Nat.le_trans hS.1 (by rw [e1]; exact hz), fun q h1 h2 => by rw [e1, hk q (Nat.lt_of_lt_of_le h1 hS.1) (fun z => h2 (hA q z))]; exact hS.2.1 q h1 h2, fun q hq => by
      rcases List.mem_append.mp hq with h | h
      · exact hS.2.2 q h
      · exact hA _ (hL q h)⟩ T' rfl X'
  exact ⟨t2, st t2 a1, b1⟩
theorem gWs_GoodIn (h : Cond.code y cc maxL ret ∈ gWs) : GoodIn gWs (Cond.code y cc maxL ret :: gWs) := fun w hw => by
  rcases List.mem_cons.mp hw with rfl | hw
  · exact ⟨h, gWs_good h⟩
  · exact ⟨hw, gWs_good hw⟩
/-- an instance method of the world's, called -/
theorem g_cv (C : gC D k p s m args c c1 own) (hml : c.maxLocals = nL) (hM : GM l D k A Wd y cc maxL ret fr lo (.ref b :: As) v f g post) (m1 : Cond.methodLink own idx y ∈ gWs) (m2 : Cond.instanceMethod y ∈ gWs) (m3 : Cond.selects C1 y y ∈ gWs) (m4 : Cond.initialized C1 ∈ gWs) (m5 : Cond.code y cc maxL ret ∈ gWs)
    (hd : y.cls = C1 ∧ y.cls ≠ "java/lang/invoke/MethodHandle" ∧ y.cls ≠ "java/lang/invoke/VarHandle" ∧ (parseMethodDescriptor y.desc).map (fun d => d.parameters.length) = some n) (q0 : Nat) {ci : Nat} {T : u_T} {N : Nat} {fs : List Value} (hc : vwCl[ci]? = some (C1, T, N)) (he : (Wd v f g)[q0]? = some (b, .inr (ci, fs)))
    (hP : gWd D Wd v f g H) (hS : va_S A0 H0 H locs) (hA : ∀ q, A q → A0 q) (hR : fr + 1 ≤ R.frames ∧ 8 + (maxL + 11) + lo ≤ R.locals) (hcs : cells ≤ R.cells ∧ slots ≤ R.slots) (hsz : ls.size = nL) (hn : As.length = n) (hst : st0 = As.reverse ++ .ref b :: rest) (hW : (rest.map fun v => v.category).sum ≤ 8) (hdg : decode c1 pc = .ok (.invokevirtual idx, 3))
    (kk : ∀ (r : Option Value) (v : gV) (f g : gF) (H1 : Heap) (locs1 : List Loc), post r v f g → gWd D Wd v f g H1 → (∀ q : Nat, q < H.size → ¬ A q → H1[q]? = H[q]?) → va_S A0 H0 H1 locs1 → W p l e R s m args below meth c H1 locs1 cells slots Q (F0 m (pc + 3) ls (r.toList ++ rest))) : W p l e R s m args below meth c H locs cells slots Q (F0 m pc ls st0) := by
  refine g_call (va_runV (As := As) (rest := rest) (n := n) ⟨C.1, C.2.1, hml, C.2.2.2.1, C.2.2.1⟩ hM (cwV n C.2.2.1 ?_ rfl rfl rfl hd hR) ⟨gPre_blind, va_recv C.2.2.2.2 hP.1 hc he, fun U hU hW => ⟨rfl, by rw [hU]; exact hP, va_K.moved hW.alike C.2.2.2.2⟩⟩ rfl hn hsz hst (lv_room hW) hdg hcs) hS hA kk
  intro w hw
  unfold wsV at hw
  rcases List.mem_append.mp hw with h | h
  · have hg : w ∈ gWs := by
      simp only [List.mem_cons, List.not_mem_nil, or_false] at h
      rcases h with rfl | rfl | rfl | rfl <;> assumption
    exact ⟨hg, gWs_good hg⟩
  · exact gWs_GoodIn m5 w h
/-- a static method of one's own class, called -/
theorem g_cs (C : gC D k p s m args c c1 own) (hml : c.maxLocals = nL) (hM : GM l D k A Wd y cc maxL ret fr lo As v f g post) (m1 : Cond.methodLink own idx y ∈ gWs) (m2 : Cond.static y ∈ gWs) (m4 : Cond.initialized y.cls ∈ gWs) (m5 : Cond.code y cc maxL ret ∈ gWs)
    (hd : y.cls ≠ "java/lang/invoke/MethodHandle" ∧ y.cls ≠ "java/lang/invoke/VarHandle" ∧ (parseMethodDescriptor y.desc).map (fun d => d.parameters.length) = some n)
    (hP : gWd D Wd v f g H) (hS : va_S A0 H0 H locs) (hA : ∀ q, A q → A0 q) (hR : fr + 1 ≤ R.frames ∧ 8 + (maxL + 11) + lo ≤ R.locals) (hcs : cells ≤ R.cells ∧ slots ≤ R.slots) (hsz : ls.size = nL) (hn : As.length = n) (hst : st0 = As.reverse ++ rest) (hW : (rest.map fun v => v.category).sum ≤ 8) (hdg : decode c1 pc = .ok (.invokestatic idx, 3))
    (kk : ∀ (r : Option Value) (v : gV) (f g : gF) (H1 : Heap) (locs1 : List Loc), post r v f g → gWd D Wd v f g H1 → (∀ q : Nat, q < H.size → ¬ A q → H1[q]? = H[q]?) → va_S A0 H0 H1 locs1 → W p l e R s m args below meth c H1 locs1 cells slots Q (F0 m (pc + 3) ls (r.toList ++ rest))) : W p l e R s m args below meth c H locs cells slots Q (F0 m pc ls st0) := by
  refine g_call (va_runS (As := As) (rest := rest) (n := n) ⟨C.1, C.2.1, hml, C.2.2.2.1, C.2.2.1⟩ hM ⟨callB_of n C.2.2.1 (gWs_GoodIn m5) rfl rfl rfl (C.2.2.1 _ m4) (C.2.2.1 _ m1) hd hR, C.2.2.1 _ m2⟩ ⟨gPre_blind, fun U hU hW => ⟨rfl, by rw [hU]; exact hP, va_K.moved hW.alike C.2.2.2.2⟩⟩ rfl hn hsz hst (lv_room hW) hdg hcs) hS hA kk
/-- the ends -/
theorem g_iret (C : gC D k p s m args c cc own) {v1 : gV} {f1 g1 : gF} {z : Int} (hr : meth.sig.returnType = some .int) (hlocks : meth.locks = false) (hP : gWd D Wd v1 f1 g1 H) (hS : va_S A s.heap H locs) (hq : post (some (.int (iI z))) v1 f1 g1) (hdg : decode cc pc = .ok (.ireturn, 1)) : W p l e R s m args below meth c H locs 0 0 (MQ below (gPost D A Wd post) args s 0 0 A) (F0 m pc ls [.int (iI z)]) :=
  W.iret C.1 C.2.1 hr (fun t ht _ => ⟨⟨_, v1, f1, g1, rfl, hq, by rw [ht]; exact hP⟩, hS.F ht⟩) hS.2.2 hdg hlocks
theorem g_zret (C : gC D k p s m args c cc own) {v1 : gV} {f1 g1 : gF} {z : Int} (hr : meth.sig.returnType = some .boolean) (hlocks : meth.locks = false) (hz : z = 0 ∨ z = 1) (hP : gWd D Wd v1 f1 g1 H) (hS : va_S A s.heap H locs) (hq : post (some (.int (iI z))) v1 f1 g1) (hdg : decode cc pc = .ok (.ireturn, 1)) : W p l e R s m args below meth c H locs 0 0 (MQ below (gPost D A Wd post) args s 0 0 A) (F0 m pc ls [.int (iI z)]) :=
  W.zret C.1 C.2.1 hr (by rcases hz with rfl | rfl <;> rfl) (fun t ht _ => ⟨⟨_, v1, f1, g1, rfl, hq, by rw [ht]; exact hP⟩, hS.F ht⟩) hS.2.2 hdg hlocks
theorem g_vret (C : gC D k p s m args c cc own) {v1 : gV} {f1 g1 : gF} (hr : meth.sig.returnType = none) (hlocks : meth.locks = false) (hP : gWd D Wd v1 f1 g1 H) (hS : va_S A s.heap H locs) (hq : post none v1 f1 g1) (hdg : decode cc pc = .ok (.return_, 1)) : W p l e R s m args below meth c H locs 0 0 (MQ below (gPost D A Wd post) args s 0 0 A) (F0 m pc ls []) :=
  W.vret C.1 C.2.1 hr (fun t ht _ => ⟨⟨_, v1, f1, g1, rfl, hq, by rw [ht]; exact hP⟩, hS.F ht⟩) hS.2.2 hdg hlocks
theorem g_lret (C : gC D k p s m args c cc own) {v1 : gV} {f1 g1 : gF} {z : Int} (hr : meth.sig.returnType = some .long) (hlocks : meth.locks = false) (hP : gWd D Wd v1 f1 g1 H) (hS : va_S A s.heap H locs) (hq : post (some (.long (iL z))) v1 f1 g1) (hdg : decode cc pc = .ok (.lreturn, 1)) : W p l e R s m args below meth c H locs 0 0 (MQ below (gPost D A Wd post) args s 0 0 A) (F0 m pc ls [.long (iL z)]) :=
  W.lret C.1 C.2.1 hr (fun t ht _ => ⟨⟨_, v1, f1, g1, rfl, hq, by rw [ht]; exact hP⟩, hS.F ht⟩) hS.2.2 hdg hlocks
end GMs
end
section
def rwW (k : Nat → ClassId) (ad : Nat → Nat) (v : gV) (f g : gF) : va_W := [(ad 0, .inr (10, [.ref (ad 1), .int (iI (v 0)), .ref (ad 2), .ref (ad 9), .ref (ad 23), .ref (ad 27), .ref (ad 30), .ref (ad 39), .ref (ad 43), .ref (ad 47), .int (iI (v 25)), .int (iI (v 26)), .int (iI (v 27)), .int (iI (v 28))])), (ad 1, rI (k 0) 700 (f 0)), (ad 2, .inr (4, [.int (iI (v 1)), .ref (ad 3), .ref (ad 4), .ref (ad 5), .int (iI (v 2)), .ref (ad 6), .ref (ad 7), .int (iI (v 3)), .int (iI (v 4)), .ref (ad 8)])), (ad 3, rI (k 0) 16 (f 1)), (ad 4, rI (k 0) 40 (f 2)), (ad 5, rI (k 0) 40 (f 3)), (ad 6, rI (k 0) 4 (f 4)), (ad 7, rI (k 0) 4 (f 5)), (ad 8, rL (k 1) 40 (g 0)), (ad 9, .inr (3, [.ref (ad 10), .ref (ad 14), .ref (ad 21), .int (iI (v 16)), .int (iI (v 17)), .int (iI (v 18)), .int (iI (v 19)), .int (iI (v 20))])), (ad 10, .inr (6, [.ref (ad 11), .ref (ad 12), .ref (ad 13), .int (iI (v 5)), .int (iI (v 6))])), (ad 11, rI (k 0) 701 (f 6)), (ad 12, rI (k 0) 701 (f 7)), (ad 13, rI (k 0) 701 (f 8)), (ad 14, .inr (4, [.int (iI (v 7)), .ref (ad 15), .ref (ad 16), .ref (ad 17), .int (iI (v 8)), .ref (ad 18), .ref (ad 19), .int (iI (v 9)), .int (iI (v 10)), .ref (ad 20)])), (ad 15, rI (k 0) 16 (f 9)), (ad 16, rI (k 0) 40 (f 10)), (ad 17, rI (k 0) 40 (f 11)), (ad 18, rI (k 0) 4 (f 12)), (ad 19, rI (k 0) 4 (f 13)), (ad 20, rL (k 1) 40 (g 1)), (ad 21, .inr (1, [.ref (ad 22), .int (iI (v 11)), .int (iI (v 12)), .int (iI (v 13)), .int (iI (v 14)), .int (iI (v 15))])), (ad 22, rI (k 0) 27 (f 14)), (ad 23, .inr (8, [.ref (ad 24), .ref (ad 25), .ref (ad 26)])), (ad 24, rI (k 0) 20 (f 15)), (ad 25, rI (k 0) 20 (f 16)), (ad 26, rI (k 0) 60 (f 17)), (ad 27, .inr (2, [.int (iI (v 21)), .int (iI (v 22)), .ref (ad 28), .ref (ad 29)])), (ad 28, rI (k 0) 16 (f 18)), (ad 29, rI (k 0) 4 (f 19)), (ad 30, .inr (7, [.int (iI (v 23)), .ref (ad 31), .ref (ad 32), .ref (ad 33), .ref (ad 34), .ref (ad 35), .ref (ad 36), .ref (ad 37), .ref (ad 38)])), (ad 31, rI (k 0) 300 (f 20)), (ad 32, rI (k 0) 300 (f 21)), (ad 33, rI (k 0) 300 (f 22)), (ad 34, rI (k 0) 300 (f 23)), (ad 35, rI (k 0) 300 (f 24)), (ad 36, rI (k 0) 300 (f 25)), (ad 37, rI (k 0) 300 (f 26)), (ad 38, rI (k 0) 16 (f 27)), (ad 39, .inr (0, [.int (iI (v 24)), .ref (ad 40), .ref (ad 41), .ref (ad 42)])), (ad 40, rI (k 0) 40 (f 28)), (ad 41, rI (k 0) 40 (f 29)), (ad 42, rI (k 0) 40 (f 30)), (ad 43, .inr (9, [.ref (ad 44), .ref (ad 45), .ref (ad 46)])), (ad 44, rI (k 0) 16 (f 31)), (ad 45, rI (k 0) 320 (f 32)), (ad 46, rI (k 0) 320 (f 33)), (ad 47, .inr (5, [.ref (ad 2), .ref (ad 23), .ref (ad 27), .ref (ad 30), .ref (ad 39), .ref (ad 48), .ref (ad 49), .ref (ad 50), .ref (ad 51), .ref (ad 52), .ref (ad 53), .ref (ad 54), .ref (ad 55), .ref (ad 56), .ref (ad 57)])), (ad 48, rI (k 0) 300 (f 34)), (ad 49, rI (k 0) 300 (f 35)), (ad 50, rI (k 0) 320 (f 36)), (ad 51, rI (k 0) 320 (f 37)), (ad 52, rI (k 0) 320 (f 38)), (ad 53, rI (k 0) 6 (f 39)), (ad 54, rI (k 0) 80 (f 40)), (ad 55, rL (k 1) 4 (g 2)), (ad 56, rL (k 1) 256 (g 3)), (ad 57, rI (k 0) 16 (f 41))]
def rwD (A : Nat → Prop) (k : Nat → ClassId) (ad : Nat → Nat) : Prop := ∀ (v : gV) (f g : gF), va_D A (rwW k ad v f g)
section Grw
variable {p : Program} {l : Launch} {e : Env} {R : Room} {s : State} {m : MethodId} {args : Array Value} {below : List Frame} {meth : Method} {c : Code} {H H0 : Heap} {locs : List Loc} {cells slots : Nat} {Q : State → Prop}
variable {cc : ByteArray} {pc idx : Nat} {ls : Array Slot} {rest : List Value} {own : String} {D : va_G} {k : Nat → ClassId} {A : Nat → Prop} {ad : Nat → Nat} {v : gV} {f g : gF}
theorem rwG_tape (C : gC D k p s m args c cc own) (hP : gWd D (rwW k ad) v f g H) (hm : Cond.fieldLink own idx "RouteWall" "tape" "[I" ∈ gWs) (hdg : decode cc pc = .ok (.getfield idx, 3)) (kk : W p l e R s m args below meth c H locs cells slots Q (F0 m (pc + 3) ls (.ref (ad 1) :: rest))) : W p l e R s m args below meth c H locs cells slots Q (F0 m pc ls (.ref (ad 0) :: rest)) := va_get (D := D) (ci := 10) (C := RX10) (T := TX10) (N := 14) C.1 C.2.1 C.2.2.1 gLx10 C.2.2.2.1 C.2.2.2.2 hP.1 0 rfl rfl 0 (by decide) (C.2.2.1 _ hm) (fun _ h9 => h9) rfl hdg kk
theorem rwG_taped (C : gC D k p s m args c cc own) (hP : gWd D (rwW k ad) v f g H) (hm : Cond.fieldLink own idx "RouteWall" "taped" "I" ∈ gWs) (hdg : decode cc pc = .ok (.getfield idx, 3)) (kk : W p l e R s m args below meth c H locs cells slots Q (F0 m (pc + 3) ls (.int (iI (v 0)) :: rest))) : W p l e R s m args below meth c H locs cells slots Q (F0 m pc ls (.ref (ad 0) :: rest)) := va_get (D := D) (ci := 10) (C := RX10) (T := TX10) (N := 14) C.1 C.2.1 C.2.2.1 gLx10 C.2.2.2.1 C.2.2.2.2 hP.1 0 rfl rfl 1 (by decide) (C.2.2.1 _ hm) (fun _ h9 => h9) rfl hdg kk
theorem rwP_taped (C : gC D k p s m args c cc own) (hP : gWd D (rwW k ad) v f g H) (hD : rwD A k ad) (hS : va_S A H0 H locs) (hm : Cond.fieldLink own idx "RouteWall" "taped" "I" ∈ gWs) {x : Int} {v1 : gV} (hx : inR x) (hv : (rwW k ad) (va_up v 0 x) f g = (rwW k ad) v1 f g) (hv2 : va_up v 0 x = v1 ∨ gOk v1 f) (hdg : decode cc pc = .ok (.putfield idx, 3)) (kk : ∀ (H1 : Heap) (locs1 : List Loc), gWd D (rwW k ad) v1 f g H1 → va_S A H0 H1 locs1 → W p l e R s m args below meth c H1 locs1 cells slots Q (F0 m (pc + 3) ls rest)) : W p l e R s m args below meth c H locs cells slots Q (F0 m pc ls (.int (iI x) :: .ref (ad 0) :: rest)) := va_put (D := D) (ci := 10) (ty := .int) (C := RX10) (T := TX10) (N := 14) C.1 C.2.1 C.2.2.1 gLx10 tyX10 tyX10_ok nmX10 C.2.2.2.1 C.2.2.2.2 hP.1 (hD v f g) hS 0 rfl rfl 1 (by decide) (C.2.2.1 _ hm) (fun _ h9 => h9) rfl (by decide +kernel) rfl rfl (Nat.le_of_ble_eq_true rfl) hdg (fun H1 locs1 h1 _ h3 => kk H1 locs1 ⟨hv ▸ (show va_P D vwCl ((rwW k ad) (va_up v 0 x) f g) H1 from h1), hv2.elim (fun q => q ▸ gR_up hP.2 0 hx) id⟩ h3)
theorem rwG_laws (C : gC D k p s m args c cc own) (hP : gWd D (rwW k ad) v f g H) (hm : Cond.fieldLink own idx "RouteWall" "laws" "LRouteWall$Laws;" ∈ gWs) (hdg : decode cc pc = .ok (.getfield idx, 3)) (kk : W p l e R s m args below meth c H locs cells slots Q (F0 m (pc + 3) ls (.ref (ad 2) :: rest))) : W p l e R s m args below meth c H locs cells slots Q (F0 m pc ls (.ref (ad 0) :: rest)) := va_get (D := D) (ci := 10) (C := RX10) (T := TX10) (N := 14) C.1 C.2.1 C.2.2.1 gLx10 C.2.2.2.1 C.2.2.2.2 hP.1 0 rfl rfl 2 (by decide) (C.2.2.1 _ hm) (fun _ h9 => h9) rfl hdg kk
theorem rwG_reader (C : gC D k p s m args c cc own) (hP : gWd D (rwW k ad) v f g H) (hm : Cond.fieldLink own idx "RouteWall" "reader" "LRouteWall$LawReader;" ∈ gWs) (hdg : decode cc pc = .ok (.getfield idx, 3)) (kk : W p l e R s m args below meth c H locs cells slots Q (F0 m (pc + 3) ls (.ref (ad 9) :: rest))) : W p l e R s m args below meth c H locs cells slots Q (F0 m pc ls (.ref (ad 0) :: rest)) := va_get (D := D) (ci := 10) (C := RX10) (T := TX10) (N := 14) C.1 C.2.1 C.2.2.1 gLx10 C.2.2.2.1 C.2.2.2.2 hP.1 0 rfl rfl 3 (by decide) (C.2.2.1 _ hm) (fun _ h9 => h9) rfl hdg kk
theorem rwG_wall (C : gC D k p s m args c cc own) (hP : gWd D (rwW k ad) v f g H) (hm : Cond.fieldLink own idx "RouteWall" "wall" "LRouteWall$Wall;" ∈ gWs) (hdg : decode cc pc = .ok (.getfield idx, 3)) (kk : W p l e R s m args below meth c H locs cells slots Q (F0 m (pc + 3) ls (.ref (ad 23) :: rest))) : W p l e R s m args below meth c H locs cells slots Q (F0 m pc ls (.ref (ad 0) :: rest)) := va_get (D := D) (ci := 10) (C := RX10) (T := TX10) (N := 14) C.1 C.2.1 C.2.2.1 gLx10 C.2.2.2.1 C.2.2.2.2 hP.1 0 rfl rfl 4 (by decide) (C.2.2.1 _ hm) (fun _ h9 => h9) rfl hdg kk
theorem rwG_field (C : gC D k p s m args c cc own) (hP : gWd D (rwW k ad) v f g H) (hm : Cond.fieldLink own idx "RouteWall" "field" "LRouteWall$Field;" ∈ gWs) (hdg : decode cc pc = .ok (.getfield idx, 3)) (kk : W p l e R s m args below meth c H locs cells slots Q (F0 m (pc + 3) ls (.ref (ad 27) :: rest))) : W p l e R s m args below meth c H locs cells slots Q (F0 m pc ls (.ref (ad 0) :: rest)) := va_get (D := D) (ci := 10) (C := RX10) (T := TX10) (N := 14) C.1 C.2.1 C.2.2.1 gLx10 C.2.2.2.1 C.2.2.2.2 hP.1 0 rfl rfl 5 (by decide) (C.2.2.1 _ hm) (fun _ h9 => h9) rfl hdg kk
theorem rwG_tries (C : gC D k p s m args c cc own) (hP : gWd D (rwW k ad) v f g H) (hm : Cond.fieldLink own idx "RouteWall" "tries" "LRouteWall$Tries;" ∈ gWs) (hdg : decode cc pc = .ok (.getfield idx, 3)) (kk : W p l e R s m args below meth c H locs cells slots Q (F0 m (pc + 3) ls (.ref (ad 30) :: rest))) : W p l e R s m args below meth c H locs cells slots Q (F0 m pc ls (.ref (ad 0) :: rest)) := va_get (D := D) (ci := 10) (C := RX10) (T := TX10) (N := 14) C.1 C.2.1 C.2.2.1 gLx10 C.2.2.2.1 C.2.2.2.2 hP.1 0 rfl rfl 6 (by decide) (C.2.2.1 _ hm) (fun _ h9 => h9) rfl hdg kk
theorem rwG_appeals (C : gC D k p s m args c cc own) (hP : gWd D (rwW k ad) v f g H) (hm : Cond.fieldLink own idx "RouteWall" "appeals" "LRouteWall$Appeals;" ∈ gWs) (hdg : decode cc pc = .ok (.getfield idx, 3)) (kk : W p l e R s m args below meth c H locs cells slots Q (F0 m (pc + 3) ls (.ref (ad 39) :: rest))) : W p l e R s m args below meth c H locs cells slots Q (F0 m pc ls (.ref (ad 0) :: rest)) := va_get (D := D) (ci := 10) (C := RX10) (T := TX10) (N := 14) C.1 C.2.1 C.2.2.1 gLx10 C.2.2.2.1 C.2.2.2.2 hP.1 0 rfl rfl 7 (by decide) (C.2.2.1 _ hm) (fun _ h9 => h9) rfl hdg kk
theorem rwG_watch (C : gC D k p s m args c cc own) (hP : gWd D (rwW k ad) v f g H) (hm : Cond.fieldLink own idx "RouteWall" "watch" "LRouteWall$Watch;" ∈ gWs) (hdg : decode cc pc = .ok (.getfield idx, 3)) (kk : W p l e R s m args below meth c H locs cells slots Q (F0 m (pc + 3) ls (.ref (ad 43) :: rest))) : W p l e R s m args below meth c H locs cells slots Q (F0 m pc ls (.ref (ad 0) :: rest)) := va_get (D := D) (ci := 10) (C := RX10) (T := TX10) (N := 14) C.1 C.2.1 C.2.2.1 gLx10 C.2.2.2.1 C.2.2.2.2 hP.1 0 rfl rfl 8 (by decide) (C.2.2.1 _ hm) (fun _ h9 => h9) rfl hdg kk
theorem rwG_results (C : gC D k p s m args c cc own) (hP : gWd D (rwW k ad) v f g H) (hm : Cond.fieldLink own idx "RouteWall" "results" "LRouteWall$Results;" ∈ gWs) (hdg : decode cc pc = .ok (.getfield idx, 3)) (kk : W p l e R s m args below meth c H locs cells slots Q (F0 m (pc + 3) ls (.ref (ad 47) :: rest))) : W p l e R s m args below meth c H locs cells slots Q (F0 m pc ls (.ref (ad 0) :: rest)) := va_get (D := D) (ci := 10) (C := RX10) (T := TX10) (N := 14) C.1 C.2.1 C.2.2.1 gLx10 C.2.2.2.1 C.2.2.2.2 hP.1 0 rfl rfl 9 (by decide) (C.2.2.1 _ hm) (fun _ h9 => h9) rfl hdg kk
theorem rwG_state (C : gC D k p s m args c cc own) (hP : gWd D (rwW k ad) v f g H) (hm : Cond.fieldLink own idx "RouteWall" "state" "I" ∈ gWs) (hdg : decode cc pc = .ok (.getfield idx, 3)) (kk : W p l e R s m args below meth c H locs cells slots Q (F0 m (pc + 3) ls (.int (iI (v 25)) :: rest))) : W p l e R s m args below meth c H locs cells slots Q (F0 m pc ls (.ref (ad 0) :: rest)) := va_get (D := D) (ci := 10) (C := RX10) (T := TX10) (N := 14) C.1 C.2.1 C.2.2.1 gLx10 C.2.2.2.1 C.2.2.2.2 hP.1 0 rfl rfl 10 (by decide) (C.2.2.1 _ hm) (fun _ h9 => h9) rfl hdg kk
theorem rwP_state (C : gC D k p s m args c cc own) (hP : gWd D (rwW k ad) v f g H) (hD : rwD A k ad) (hS : va_S A H0 H locs) (hm : Cond.fieldLink own idx "RouteWall" "state" "I" ∈ gWs) {x : Int} {v1 : gV} (hx : inR x) (hv : (rwW k ad) (va_up v 25 x) f g = (rwW k ad) v1 f g) (hv2 : va_up v 25 x = v1 ∨ gOk v1 f) (hdg : decode cc pc = .ok (.putfield idx, 3)) (kk : ∀ (H1 : Heap) (locs1 : List Loc), gWd D (rwW k ad) v1 f g H1 → va_S A H0 H1 locs1 → W p l e R s m args below meth c H1 locs1 cells slots Q (F0 m (pc + 3) ls rest)) : W p l e R s m args below meth c H locs cells slots Q (F0 m pc ls (.int (iI x) :: .ref (ad 0) :: rest)) := va_put (D := D) (ci := 10) (ty := .int) (C := RX10) (T := TX10) (N := 14) C.1 C.2.1 C.2.2.1 gLx10 tyX10 tyX10_ok nmX10 C.2.2.2.1 C.2.2.2.2 hP.1 (hD v f g) hS 0 rfl rfl 10 (by decide) (C.2.2.1 _ hm) (fun _ h9 => h9) rfl (by decide +kernel) rfl rfl (Nat.le_of_ble_eq_true rfl) hdg (fun H1 locs1 h1 _ h3 => kk H1 locs1 ⟨hv ▸ (show va_P D vwCl ((rwW k ad) (va_up v 25 x) f g) H1 from h1), hv2.elim (fun q => q ▸ gR_up hP.2 25 hx) id⟩ h3)
theorem rwG_time (C : gC D k p s m args c cc own) (hP : gWd D (rwW k ad) v f g H) (hm : Cond.fieldLink own idx "RouteWall" "time" "I" ∈ gWs) (hdg : decode cc pc = .ok (.getfield idx, 3)) (kk : W p l e R s m args below meth c H locs cells slots Q (F0 m (pc + 3) ls (.int (iI (v 26)) :: rest))) : W p l e R s m args below meth c H locs cells slots Q (F0 m pc ls (.ref (ad 0) :: rest)) := va_get (D := D) (ci := 10) (C := RX10) (T := TX10) (N := 14) C.1 C.2.1 C.2.2.1 gLx10 C.2.2.2.1 C.2.2.2.2 hP.1 0 rfl rfl 11 (by decide) (C.2.2.1 _ hm) (fun _ h9 => h9) rfl hdg kk
theorem rwP_time (C : gC D k p s m args c cc own) (hP : gWd D (rwW k ad) v f g H) (hD : rwD A k ad) (hS : va_S A H0 H locs) (hm : Cond.fieldLink own idx "RouteWall" "time" "I" ∈ gWs) {x : Int} {v1 : gV} (hx : inR x) (hv : (rwW k ad) (va_up v 26 x) f g = (rwW k ad) v1 f g) (hv2 : va_up v 26 x = v1 ∨ gOk v1 f) (hdg : decode cc pc = .ok (.putfield idx, 3)) (kk : ∀ (H1 : Heap) (locs1 : List Loc), gWd D (rwW k ad) v1 f g H1 → va_S A H0 H1 locs1 → W p l e R s m args below meth c H1 locs1 cells slots Q (F0 m (pc + 3) ls rest)) : W p l e R s m args below meth c H locs cells slots Q (F0 m pc ls (.int (iI x) :: .ref (ad 0) :: rest)) := va_put (D := D) (ci := 10) (ty := .int) (C := RX10) (T := TX10) (N := 14) C.1 C.2.1 C.2.2.1 gLx10 tyX10 tyX10_ok nmX10 C.2.2.2.1 C.2.2.2.2 hP.1 (hD v f g) hS 0 rfl rfl 11 (by decide) (C.2.2.1 _ hm) (fun _ h9 => h9) rfl (by decide +kernel) rfl rfl (Nat.le_of_ble_eq_true rfl) hdg (fun H1 locs1 h1 _ h3 => kk H1 locs1 ⟨hv ▸ (show va_P D vwCl ((rwW k ad) (va_up v 26 x) f g) H1 from h1), hv2.elim (fun q => q ▸ gR_up hP.2 26 hx) id⟩ h3)
theorem rwG_faultKind (C : gC D k p s m args c cc own) (hP : gWd D (rwW k ad) v f g H) (hm : Cond.fieldLink own idx "RouteWall" "faultKind" "I" ∈ gWs) (hdg : decode cc pc = .ok (.getfield idx, 3)) (kk : W p l e R s m args below meth c H locs cells slots Q (F0 m (pc + 3) ls (.int (iI (v 27)) :: rest))) : W p l e R s m args below meth c H locs cells slots Q (F0 m pc ls (.ref (ad 0) :: rest)) := va_get (D := D) (ci := 10) (C := RX10) (T := TX10) (N := 14) C.1 C.2.1 C.2.2.1 gLx10 C.2.2.2.1 C.2.2.2.2 hP.1 0 rfl rfl 12 (by decide) (C.2.2.1 _ hm) (fun _ h9 => h9) rfl hdg kk
theorem rwP_faultKind (C : gC D k p s m args c cc own) (hP : gWd D (rwW k ad) v f g H) (hD : rwD A k ad) (hS : va_S A H0 H locs) (hm : Cond.fieldLink own idx "RouteWall" "faultKind" "I" ∈ gWs) {x : Int} {v1 : gV} (hx : inR x) (hv : (rwW k ad) (va_up v 27 x) f g = (rwW k ad) v1 f g) (hv2 : va_up v 27 x = v1 ∨ gOk v1 f) (hdg : decode cc pc = .ok (.putfield idx, 3)) (kk : ∀ (H1 : Heap) (locs1 : List Loc), gWd D (rwW k ad) v1 f g H1 → va_S A H0 H1 locs1 → W p l e R s m args below meth c H1 locs1 cells slots Q (F0 m (pc + 3) ls rest)) : W p l e R s m args below meth c H locs cells slots Q (F0 m pc ls (.int (iI x) :: .ref (ad 0) :: rest)) := va_put (D := D) (ci := 10) (ty := .int) (C := RX10) (T := TX10) (N := 14) C.1 C.2.1 C.2.2.1 gLx10 tyX10 tyX10_ok nmX10 C.2.2.2.1 C.2.2.2.2 hP.1 (hD v f g) hS 0 rfl rfl 12 (by decide) (C.2.2.1 _ hm) (fun _ h9 => h9) rfl (by decide +kernel) rfl rfl (Nat.le_of_ble_eq_true rfl) hdg (fun H1 locs1 h1 _ h3 => kk H1 locs1 ⟨hv ▸ (show va_P D vwCl ((rwW k ad) (va_up v 27 x) f g) H1 from h1), hv2.elim (fun q => q ▸ gR_up hP.2 27 hx) id⟩ h3)
theorem rwG_faultPlace (C : gC D k p s m args c cc own) (hP : gWd D (rwW k ad) v f g H) (hm : Cond.fieldLink own idx "RouteWall" "faultPlace" "I" ∈ gWs) (hdg : decode cc pc = .ok (.getfield idx, 3)) (kk : W p l e R s m args below meth c H locs cells slots Q (F0 m (pc + 3) ls (.int (iI (v 28)) :: rest))) : W p l e R s m args below meth c H locs cells slots Q (F0 m pc ls (.ref (ad 0) :: rest)) := va_get (D := D) (ci := 10) (C := RX10) (T := TX10) (N := 14) C.1 C.2.1 C.2.2.1 gLx10 C.2.2.2.1 C.2.2.2.2 hP.1 0 rfl rfl 13 (by decide) (C.2.2.1 _ hm) (fun _ h9 => h9) rfl hdg kk
theorem rwP_faultPlace (C : gC D k p s m args c cc own) (hP : gWd D (rwW k ad) v f g H) (hD : rwD A k ad) (hS : va_S A H0 H locs) (hm : Cond.fieldLink own idx "RouteWall" "faultPlace" "I" ∈ gWs) {x : Int} {v1 : gV} (hx : inR x) (hv : (rwW k ad) (va_up v 28 x) f g = (rwW k ad) v1 f g) (hv2 : va_up v 28 x = v1 ∨ gOk v1 f) (hdg : decode cc pc = .ok (.putfield idx, 3)) (kk : ∀ (H1 : Heap) (locs1 : List Loc), gWd D (rwW k ad) v1 f g H1 → va_S A H0 H1 locs1 → W p l e R s m args below meth c H1 locs1 cells slots Q (F0 m (pc + 3) ls rest)) : W p l e R s m args below meth c H locs cells slots Q (F0 m pc ls (.int (iI x) :: .ref (ad 0) :: rest)) := va_put (D := D) (ci := 10) (ty := .int) (C := RX10) (T := TX10) (N := 14) C.1 C.2.1 C.2.2.1 gLx10 tyX10 tyX10_ok nmX10 C.2.2.2.1 C.2.2.2.2 hP.1 (hD v f g) hS 0 rfl rfl 13 (by decide) (C.2.2.1 _ hm) (fun _ h9 => h9) rfl (by decide +kernel) rfl rfl (Nat.le_of_ble_eq_true rfl) hdg (fun H1 locs1 h1 _ h3 => kk H1 locs1 ⟨hv ▸ (show va_P D vwCl ((rwW k ad) (va_up v 28 x) f g) H1 from h1), hv2.elim (fun q => q ▸ gR_up hP.2 28 hx) id⟩ h3)
theorem rwL_tape (C : gC D k p s m args c cc own) (hP : gWd D (rwW k ad) v f g H) {i : Int} (h0 : 0 ≤ i) (h1 : i < 700) (hdg : decode cc pc = .ok (.iaload, 1)) (kk : W p l e R s m args below meth c H locs cells slots Q (F0 m (pc + 1) ls (.int (iI (f 0 i)) :: rest))) : W p l e R s m args below meth c H locs cells slots Q (F0 m pc ls (.int (iI i) :: .ref (ad 1) :: rest)) := g_iald C hP.1 1 rfl (by decide) h0 h1 hdg kk
theorem rwS_tape (C : gC D k p s m args c cc own) (hP : gWd D (rwW k ad) v f g H) (hD : rwD A k ad) (hS : va_S A H0 H locs) {i x : Int} {f1 : gF} (h0 : 0 ≤ i) (h1 : i < 700) (hx : inR x) (hv : (rwW k ad) v (va_up f 0 (u1 (f 0) i x)) g = (rwW k ad) v f1 g) (hv2 : va_up f 0 (u1 (f 0) i x) = f1 ∨ gOk v f1) (hdg : decode cc pc = .ok (.iastore, 1)) (kk : ∀ (H1 : Heap) (locs1 : List Loc), gWd D (rwW k ad) v f1 g H1 → va_S A H0 H1 locs1 → W p l e R s m args below meth c H1 locs1 cells slots Q (F0 m (pc + 1) ls rest)) : W p l e R s m args below meth c H locs cells slots Q (F0 m pc ls (.int (iI x) :: .int (iI i) :: .ref (ad 1) :: rest)) := g_iast C hP.1 (hD v f g) hS 1 rfl (by decide) h0 h1 (ws' := (rwW k ad) v f1 g) (by rw [← hv]; rfl) hdg (fun H1 locs1 h1 h3 => kk H1 locs1 ⟨h1, hv2.elim (fun q => q ▸ gF_up hP.2 0 (u1_rng (hP.2.2 0) hx)) id⟩ h3)
theorem rwN_tape (C : gC D k p s m args c cc own) (hP : gWd D (rwW k ad) v f g H) (hdg : decode cc pc = .ok (.arraylength, 1)) (kk : W p l e R s m args below meth c H locs cells slots Q (F0 m (pc + 1) ls (.int (iI 700) :: rest))) : W p l e R s m args below meth c H locs cells slots Q (F0 m pc ls (.ref (ad 1) :: rest)) := va_alen (D := D) C.1 C.2.1 C.2.2.2.2 hP.1 1 0 rfl rfl (v := iI 700) rfl hdg kk
theorem rwG_laws_rounds (C : gC D k p s m args c cc own) (hP : gWd D (rwW k ad) v f g H) (hm : Cond.fieldLink own idx "RouteWall$Laws" "rounds" "I" ∈ gWs) (hdg : decode cc pc = .ok (.getfield idx, 3)) (kk : W p l e R s m args below meth c H locs cells slots Q (F0 m (pc + 3) ls (.int (iI (v 1)) :: rest))) : W p l e R s m args below meth c H locs cells slots Q (F0 m pc ls (.ref (ad 2) :: rest)) := va_get (D := D) (ci := 4) (C := RX4) (T := TX4) (N := 10) C.1 C.2.1 C.2.2.1 gLx4 C.2.2.2.1 C.2.2.2.2 hP.1 2 rfl rfl 0 (by decide) (C.2.2.1 _ hm) (fun _ h9 => h9) rfl hdg kk
theorem rwP_laws_rounds (C : gC D k p s m args c cc own) (hP : gWd D (rwW k ad) v f g H) (hD : rwD A k ad) (hS : va_S A H0 H locs) (hm : Cond.fieldLink own idx "RouteWall$Laws" "rounds" "I" ∈ gWs) {x : Int} {v1 : gV} (hx : inR x) (hv : (rwW k ad) (va_up v 1 x) f g = (rwW k ad) v1 f g) (hv2 : va_up v 1 x = v1 ∨ gOk v1 f) (hdg : decode cc pc = .ok (.putfield idx, 3)) (kk : ∀ (H1 : Heap) (locs1 : List Loc), gWd D (rwW k ad) v1 f g H1 → va_S A H0 H1 locs1 → W p l e R s m args below meth c H1 locs1 cells slots Q (F0 m (pc + 3) ls rest)) : W p l e R s m args below meth c H locs cells slots Q (F0 m pc ls (.int (iI x) :: .ref (ad 2) :: rest)) := va_put (D := D) (ci := 4) (ty := .int) (C := RX4) (T := TX4) (N := 10) C.1 C.2.1 C.2.2.1 gLx4 tyX4 tyX4_ok nmX4 C.2.2.2.1 C.2.2.2.2 hP.1 (hD v f g) hS 2 rfl rfl 0 (by decide) (C.2.2.1 _ hm) (fun _ h9 => h9) rfl (by decide +kernel) rfl rfl (Nat.le_of_ble_eq_true rfl) hdg (fun H1 locs1 h1 _ h3 => kk H1 locs1 ⟨hv ▸ (show va_P D vwCl ((rwW k ad) (va_up v 1 x) f g) H1 from h1), hv2.elim (fun q => q ▸ gR_up hP.2 1 hx) id⟩ h3)
theorem rwG_laws_shape (C : gC D k p s m args c cc own) (hP : gWd D (rwW k ad) v f g H) (hm : Cond.fieldLink own idx "RouteWall$Laws" "shape" "[I" ∈ gWs) (hdg : decode cc pc = .ok (.getfield idx, 3)) (kk : W p l e R s m args below meth c H locs cells slots Q (F0 m (pc + 3) ls (.ref (ad 3) :: rest))) : W p l e R s m args below meth c H locs cells slots Q (F0 m pc ls (.ref (ad 2) :: rest)) := va_get (D := D) (ci := 4) (C := RX4) (T := TX4) (N := 10) C.1 C.2.1 C.2.2.1 gLx4 C.2.2.2.1 C.2.2.2.2 hP.1 2 rfl rfl 1 (by decide) (C.2.2.1 _ hm) (fun _ h9 => h9) rfl hdg kk
theorem rwG_laws_item (C : gC D k p s m args c cc own) (hP : gWd D (rwW k ad) v f g H) (hm : Cond.fieldLink own idx "RouteWall$Laws" "item" "[I" ∈ gWs) (hdg : decode cc pc = .ok (.getfield idx, 3)) (kk : W p l e R s m args below meth c H locs cells slots Q (F0 m (pc + 3) ls (.ref (ad 4) :: rest))) : W p l e R s m args below meth c H locs cells slots Q (F0 m pc ls (.ref (ad 2) :: rest)) := va_get (D := D) (ci := 4) (C := RX4) (T := TX4) (N := 10) C.1 C.2.1 C.2.2.1 gLx4 C.2.2.2.1 C.2.2.2.2 hP.1 2 rfl rfl 2 (by decide) (C.2.2.1 _ hm) (fun _ h9 => h9) rfl hdg kk
theorem rwG_laws_number (C : gC D k p s m args c cc own) (hP : gWd D (rwW k ad) v f g H) (hm : Cond.fieldLink own idx "RouteWall$Laws" "number" "[I" ∈ gWs) (hdg : decode cc pc = .ok (.getfield idx, 3)) (kk : W p l e R s m args below meth c H locs cells slots Q (F0 m (pc + 3) ls (.ref (ad 5) :: rest))) : W p l e R s m args below meth c H locs cells slots Q (F0 m pc ls (.ref (ad 2) :: rest)) := va_get (D := D) (ci := 4) (C := RX4) (T := TX4) (N := 10) C.1 C.2.1 C.2.2.1 gLx4 C.2.2.2.1 C.2.2.2.2 hP.1 2 rfl rfl 3 (by decide) (C.2.2.1 _ hm) (fun _ h9 => h9) rfl hdg kk
theorem rwG_laws_items (C : gC D k p s m args c cc own) (hP : gWd D (rwW k ad) v f g H) (hm : Cond.fieldLink own idx "RouteWall$Laws" "items" "I" ∈ gWs) (hdg : decode cc pc = .ok (.getfield idx, 3)) (kk : W p l e R s m args below meth c H locs cells slots Q (F0 m (pc + 3) ls (.int (iI (v 2)) :: rest))) : W p l e R s m args below meth c H locs cells slots Q (F0 m pc ls (.ref (ad 2) :: rest)) := va_get (D := D) (ci := 4) (C := RX4) (T := TX4) (N := 10) C.1 C.2.1 C.2.2.1 gLx4 C.2.2.2.1 C.2.2.2.2 hP.1 2 rfl rfl 4 (by decide) (C.2.2.1 _ hm) (fun _ h9 => h9) rfl hdg kk
theorem rwP_laws_items (C : gC D k p s m args c cc own) (hP : gWd D (rwW k ad) v f g H) (hD : rwD A k ad) (hS : va_S A H0 H locs) (hm : Cond.fieldLink own idx "RouteWall$Laws" "items" "I" ∈ gWs) {x : Int} {v1 : gV} (hx : inR x) (hv : (rwW k ad) (va_up v 2 x) f g = (rwW k ad) v1 f g) (hv2 : va_up v 2 x = v1 ∨ gOk v1 f) (hdg : decode cc pc = .ok (.putfield idx, 3)) (kk : ∀ (H1 : Heap) (locs1 : List Loc), gWd D (rwW k ad) v1 f g H1 → va_S A H0 H1 locs1 → W p l e R s m args below meth c H1 locs1 cells slots Q (F0 m (pc + 3) ls rest)) : W p l e R s m args below meth c H locs cells slots Q (F0 m pc ls (.int (iI x) :: .ref (ad 2) :: rest)) := va_put (D := D) (ci := 4) (ty := .int) (C := RX4) (T := TX4) (N := 10) C.1 C.2.1 C.2.2.1 gLx4 tyX4 tyX4_ok nmX4 C.2.2.2.1 C.2.2.2.2 hP.1 (hD v f g) hS 2 rfl rfl 4 (by decide) (C.2.2.1 _ hm) (fun _ h9 => h9) rfl (by decide +kernel) rfl rfl (Nat.le_of_ble_eq_true rfl) hdg (fun H1 locs1 h1 _ h3 => kk H1 locs1 ⟨hv ▸ (show va_P D vwCl ((rwW k ad) (va_up v 2 x) f g) H1 from h1), hv2.elim (fun q => q ▸ gR_up hP.2 2 hx) id⟩ h3)
theorem rwG_laws_keyKind (C : gC D k p s m args c cc own) (hP : gWd D (rwW k ad) v f g H) (hm : Cond.fieldLink own idx "RouteWall$Laws" "keyKind" "[I" ∈ gWs) (hdg : decode cc pc = .ok (.getfield idx, 3)) (kk : W p l e R s m args below meth c H locs cells slots Q (F0 m (pc + 3) ls (.ref (ad 6) :: rest))) : W p l e R s m args below meth c H locs cells slots Q (F0 m pc ls (.ref (ad 2) :: rest)) := va_get (D := D) (ci := 4) (C := RX4) (T := TX4) (N := 10) C.1 C.2.1 C.2.2.1 gLx4 C.2.2.2.1 C.2.2.2.2 hP.1 2 rfl rfl 5 (by decide) (C.2.2.1 _ hm) (fun _ h9 => h9) rfl hdg kk
theorem rwG_laws_keyDown (C : gC D k p s m args c cc own) (hP : gWd D (rwW k ad) v f g H) (hm : Cond.fieldLink own idx "RouteWall$Laws" "keyDown" "[I" ∈ gWs) (hdg : decode cc pc = .ok (.getfield idx, 3)) (kk : W p l e R s m args below meth c H locs cells slots Q (F0 m (pc + 3) ls (.ref (ad 7) :: rest))) : W p l e R s m args below meth c H locs cells slots Q (F0 m pc ls (.ref (ad 2) :: rest)) := va_get (D := D) (ci := 4) (C := RX4) (T := TX4) (N := 10) C.1 C.2.1 C.2.2.1 gLx4 C.2.2.2.1 C.2.2.2.2 hP.1 2 rfl rfl 6 (by decide) (C.2.2.1 _ hm) (fun _ h9 => h9) rfl hdg kk
theorem rwG_laws_keys (C : gC D k p s m args c cc own) (hP : gWd D (rwW k ad) v f g H) (hm : Cond.fieldLink own idx "RouteWall$Laws" "keys" "I" ∈ gWs) (hdg : decode cc pc = .ok (.getfield idx, 3)) (kk : W p l e R s m args below meth c H locs cells slots Q (F0 m (pc + 3) ls (.int (iI (v 3)) :: rest))) : W p l e R s m args below meth c H locs cells slots Q (F0 m pc ls (.ref (ad 2) :: rest)) := va_get (D := D) (ci := 4) (C := RX4) (T := TX4) (N := 10) C.1 C.2.1 C.2.2.1 gLx4 C.2.2.2.1 C.2.2.2.2 hP.1 2 rfl rfl 7 (by decide) (C.2.2.1 _ hm) (fun _ h9 => h9) rfl hdg kk
theorem rwP_laws_keys (C : gC D k p s m args c cc own) (hP : gWd D (rwW k ad) v f g H) (hD : rwD A k ad) (hS : va_S A H0 H locs) (hm : Cond.fieldLink own idx "RouteWall$Laws" "keys" "I" ∈ gWs) {x : Int} {v1 : gV} (hx : inR x) (hv : (rwW k ad) (va_up v 3 x) f g = (rwW k ad) v1 f g) (hv2 : va_up v 3 x = v1 ∨ gOk v1 f) (hdg : decode cc pc = .ok (.putfield idx, 3)) (kk : ∀ (H1 : Heap) (locs1 : List Loc), gWd D (rwW k ad) v1 f g H1 → va_S A H0 H1 locs1 → W p l e R s m args below meth c H1 locs1 cells slots Q (F0 m (pc + 3) ls rest)) : W p l e R s m args below meth c H locs cells slots Q (F0 m pc ls (.int (iI x) :: .ref (ad 2) :: rest)) := va_put (D := D) (ci := 4) (ty := .int) (C := RX4) (T := TX4) (N := 10) C.1 C.2.1 C.2.2.1 gLx4 tyX4 tyX4_ok nmX4 C.2.2.2.1 C.2.2.2.2 hP.1 (hD v f g) hS 2 rfl rfl 7 (by decide) (C.2.2.1 _ hm) (fun _ h9 => h9) rfl (by decide +kernel) rfl rfl (Nat.le_of_ble_eq_true rfl) hdg (fun H1 locs1 h1 _ h3 => kk H1 locs1 ⟨hv ▸ (show va_P D vwCl ((rwW k ad) (va_up v 3 x) f g) H1 from h1), hv2.elim (fun q => q ▸ gR_up hP.2 3 hx) id⟩ h3)
theorem rwG_laws_back (C : gC D k p s m args c cc own) (hP : gWd D (rwW k ad) v f g H) (hm : Cond.fieldLink own idx "RouteWall$Laws" "back" "Z" ∈ gWs) (hdg : decode cc pc = .ok (.getfield idx, 3)) (kk : W p l e R s m args below meth c H locs cells slots Q (F0 m (pc + 3) ls (.int (iI (v 4)) :: rest))) : W p l e R s m args below meth c H locs cells slots Q (F0 m pc ls (.ref (ad 2) :: rest)) := va_get (D := D) (ci := 4) (C := RX4) (T := TX4) (N := 10) C.1 C.2.1 C.2.2.1 gLx4 C.2.2.2.1 C.2.2.2.2 hP.1 2 rfl rfl 8 (by decide) (C.2.2.1 _ hm) (fun _ h9 => h9) rfl hdg kk
theorem rwP_laws_back (C : gC D k p s m args c cc own) (hP : gWd D (rwW k ad) v f g H) (hD : rwD A k ad) (hS : va_S A H0 H locs) (hm : Cond.fieldLink own idx "RouteWall$Laws" "back" "Z" ∈ gWs) {x : Int} {v1 : gV} (hx : inR x) (hb : x = 0 ∨ x = 1) (hv : (rwW k ad) (va_up v 4 x) f g = (rwW k ad) v1 f g) (hv2 : va_up v 4 x = v1 ∨ gOk v1 f) (hdg : decode cc pc = .ok (.putfield idx, 3)) (kk : ∀ (H1 : Heap) (locs1 : List Loc), gWd D (rwW k ad) v1 f g H1 → va_S A H0 H1 locs1 → W p l e R s m args below meth c H1 locs1 cells slots Q (F0 m (pc + 3) ls rest)) : W p l e R s m args below meth c H locs cells slots Q (F0 m pc ls (.int (iI x) :: .ref (ad 2) :: rest)) := va_put (D := D) (ci := 4) (ty := .boolean) (C := RX4) (T := TX4) (N := 10) C.1 C.2.1 C.2.2.1 gLx4 tyX4 tyX4_ok nmX4 C.2.2.2.1 C.2.2.2.2 hP.1 (hD v f g) hS 2 rfl rfl 8 (by decide) (C.2.2.1 _ hm) (fun _ h9 => h9) rfl (by decide +kernel) (by rcases hb with rfl | rfl <;> rfl) (by rcases hb with rfl | rfl <;> rfl) (Nat.le_of_ble_eq_true rfl) hdg (fun H1 locs1 h1 _ h3 => kk H1 locs1 ⟨hv ▸ (show va_P D vwCl ((rwW k ad) (va_up v 4 x) f g) H1 from h1), hv2.elim (fun q => q ▸ gR_up hP.2 4 hx) id⟩ h3)
theorem rwG_laws_stack (C : gC D k p s m args c cc own) (hP : gWd D (rwW k ad) v f g H) (hm : Cond.fieldLink own idx "RouteWall$Laws" "stack" "[J" ∈ gWs) (hdg : decode cc pc = .ok (.getfield idx, 3)) (kk : W p l e R s m args below meth c H locs cells slots Q (F0 m (pc + 3) ls (.ref (ad 8) :: rest))) : W p l e R s m args below meth c H locs cells slots Q (F0 m pc ls (.ref (ad 2) :: rest)) := va_get (D := D) (ci := 4) (C := RX4) (T := TX4) (N := 10) C.1 C.2.1 C.2.2.1 gLx4 C.2.2.2.1 C.2.2.2.2 hP.1 2 rfl rfl 9 (by decide) (C.2.2.1 _ hm) (fun _ h9 => h9) rfl hdg kk
theorem rwL_laws_shape (C : gC D k p s m args c cc own) (hP : gWd D (rwW k ad) v f g H) {i : Int} (h0 : 0 ≤ i) (h1 : i < 16) (hdg : decode cc pc = .ok (.iaload, 1)) (kk : W p l e R s m args below meth c H locs cells slots Q (F0 m (pc + 1) ls (.int (iI (f 1 i)) :: rest))) : W p l e R s m args below meth c H locs cells slots Q (F0 m pc ls (.int (iI i) :: .ref (ad 3) :: rest)) := g_iald C hP.1 3 rfl (by decide) h0 h1 hdg kk
theorem rwS_laws_shape (C : gC D k p s m args c cc own) (hP : gWd D (rwW k ad) v f g H) (hD : rwD A k ad) (hS : va_S A H0 H locs) {i x : Int} {f1 : gF} (h0 : 0 ≤ i) (h1 : i < 16) (hx : inR x) (hv : (rwW k ad) v (va_up f 1 (u1 (f 1) i x)) g = (rwW k ad) v f1 g) (hv2 : va_up f 1 (u1 (f 1) i x) = f1 ∨ gOk v f1) (hdg : decode cc pc = .ok (.iastore, 1)) (kk : ∀ (H1 : Heap) (locs1 : List Loc), gWd D (rwW k ad) v f1 g H1 → va_S A H0 H1 locs1 → W p l e R s m args below meth c H1 locs1 cells slots Q (F0 m (pc + 1) ls rest)) : W p l e R s m args below meth c H locs cells slots Q (F0 m pc ls (.int (iI x) :: .int (iI i) :: .ref (ad 3) :: rest)) := g_iast C hP.1 (hD v f g) hS 3 rfl (by decide) h0 h1 (ws' := (rwW k ad) v f1 g) (by rw [← hv]; rfl) hdg (fun H1 locs1 h1 h3 => kk H1 locs1 ⟨h1, hv2.elim (fun q => q ▸ gF_up hP.2 1 (u1_rng (hP.2.2 1) hx)) id⟩ h3)
theorem rwN_laws_shape (C : gC D k p s m args c cc own) (hP : gWd D (rwW k ad) v f g H) (hdg : decode cc pc = .ok (.arraylength, 1)) (kk : W p l e R s m args below meth c H locs cells slots Q (F0 m (pc + 1) ls (.int (iI 16) :: rest))) : W p l e R s m args below meth c H locs cells slots Q (F0 m pc ls (.ref (ad 3) :: rest)) := va_alen (D := D) C.1 C.2.1 C.2.2.2.2 hP.1 3 0 rfl rfl (v := iI 16) rfl hdg kk
theorem rwL_laws_item (C : gC D k p s m args c cc own) (hP : gWd D (rwW k ad) v f g H) {i : Int} (h0 : 0 ≤ i) (h1 : i < 40) (hdg : decode cc pc = .ok (.iaload, 1)) (kk : W p l e R s m args below meth c H locs cells slots Q (F0 m (pc + 1) ls (.int (iI (f 2 i)) :: rest))) : W p l e R s m args below meth c H locs cells slots Q (F0 m pc ls (.int (iI i) :: .ref (ad 4) :: rest)) := g_iald C hP.1 4 rfl (by decide) h0 h1 hdg kk
theorem rwS_laws_item (C : gC D k p s m args c cc own) (hP : gWd D (rwW k ad) v f g H) (hD : rwD A k ad) (hS : va_S A H0 H locs) {i x : Int} {f1 : gF} (h0 : 0 ≤ i) (h1 : i < 40) (hx : inR x) (hv : (rwW k ad) v (va_up f 2 (u1 (f 2) i x)) g = (rwW k ad) v f1 g) (hv2 : va_up f 2 (u1 (f 2) i x) = f1 ∨ gOk v f1) (hdg : decode cc pc = .ok (.iastore, 1)) (kk : ∀ (H1 : Heap) (locs1 : List Loc), gWd D (rwW k ad) v f1 g H1 → va_S A H0 H1 locs1 → W p l e R s m args below meth c H1 locs1 cells slots Q (F0 m (pc + 1) ls rest)) : W p l e R s m args below meth c H locs cells slots Q (F0 m pc ls (.int (iI x) :: .int (iI i) :: .ref (ad 4) :: rest)) := g_iast C hP.1 (hD v f g) hS 4 rfl (by decide) h0 h1 (ws' := (rwW k ad) v f1 g) (by rw [← hv]; rfl) hdg (fun H1 locs1 h1 h3 => kk H1 locs1 ⟨h1, hv2.elim (fun q => q ▸ gF_up hP.2 2 (u1_rng (hP.2.2 2) hx)) id⟩ h3)
theorem rwN_laws_item (C : gC D k p s m args c cc own) (hP : gWd D (rwW k ad) v f g H) (hdg : decode cc pc = .ok (.arraylength, 1)) (kk : W p l e R s m args below meth c H locs cells slots Q (F0 m (pc + 1) ls (.int (iI 40) :: rest))) : W p l e R s m args below meth c H locs cells slots Q (F0 m pc ls (.ref (ad 4) :: rest)) := va_alen (D := D) C.1 C.2.1 C.2.2.2.2 hP.1 4 0 rfl rfl (v := iI 40) rfl hdg kk
theorem rwL_laws_number (C : gC D k p s m args c cc own) (hP : gWd D (rwW k ad) v f g H) {i : Int} (h0 : 0 ≤ i) (h1 : i < 40) (hdg : decode cc pc = .ok (.iaload, 1)) (kk : W p l e R s m args below meth c H locs cells slots Q (F0 m (pc + 1) ls (.int (iI (f 3 i)) :: rest))) : W p l e R s m args below meth c H locs cells slots Q (F0 m pc ls (.int (iI i) :: .ref (ad 5) :: rest)) := g_iald C hP.1 5 rfl (by decide) h0 h1 hdg kk
theorem rwS_laws_number (C : gC D k p s m args c cc own) (hP : gWd D (rwW k ad) v f g H) (hD : rwD A k ad) (hS : va_S A H0 H locs) {i x : Int} {f1 : gF} (h0 : 0 ≤ i) (h1 : i < 40) (hx : inR x) (hv : (rwW k ad) v (va_up f 3 (u1 (f 3) i x)) g = (rwW k ad) v f1 g) (hv2 : va_up f 3 (u1 (f 3) i x) = f1 ∨ gOk v f1) (hdg : decode cc pc = .ok (.iastore, 1)) (kk : ∀ (H1 : Heap) (locs1 : List Loc), gWd D (rwW k ad) v f1 g H1 → va_S A H0 H1 locs1 → W p l e R s m args below meth c H1 locs1 cells slots Q (F0 m (pc + 1) ls rest)) : W p l e R s m args below meth c H locs cells slots Q (F0 m pc ls (.int (iI x) :: .int (iI i) :: .ref (ad 5) :: rest)) := g_iast C hP.1 (hD v f g) hS 5 rfl (by decide) h0 h1 (ws' := (rwW k ad) v f1 g) (by rw [← hv]; rfl) hdg (fun H1 locs1 h1 h3 => kk H1 locs1 ⟨h1, hv2.elim (fun q => q ▸ gF_up hP.2 3 (u1_rng (hP.2.2 3) hx)) id⟩ h3)
theorem rwN_laws_number (C : gC D k p s m args c cc own) (hP : gWd D (rwW k ad) v f g H) (hdg : decode cc pc = .ok (.arraylength, 1)) (kk : W p l e R s m args below meth c H locs cells slots Q (F0 m (pc + 1) ls (.int (iI 40) :: rest))) : W p l e R s m args below meth c H locs cells slots Q (F0 m pc ls (.ref (ad 5) :: rest)) := va_alen (D := D) C.1 C.2.1 C.2.2.2.2 hP.1 5 0 rfl rfl (v := iI 40) rfl hdg kk
theorem rwL_laws_keyKind (C : gC D k p s m args c cc own) (hP : gWd D (rwW k ad) v f g H) {i : Int} (h0 : 0 ≤ i) (h1 : i < 4) (hdg : decode cc pc = .ok (.iaload, 1)) (kk : W p l e R s m args below meth c H locs cells slots Q (F0 m (pc + 1) ls (.int (iI (f 4 i)) :: rest))) : W p l e R s m args below meth c H locs cells slots Q (F0 m pc ls (.int (iI i) :: .ref (ad 6) :: rest)) := g_iald C hP.1 6 rfl (by decide) h0 h1 hdg kk
theorem rwS_laws_keyKind (C : gC D k p s m args c cc own) (hP : gWd D (rwW k ad) v f g H) (hD : rwD A k ad) (hS : va_S A H0 H locs) {i x : Int} {f1 : gF} (h0 : 0 ≤ i) (h1 : i < 4) (hx : inR x) (hv : (rwW k ad) v (va_up f 4 (u1 (f 4) i x)) g = (rwW k ad) v f1 g) (hv2 : va_up f 4 (u1 (f 4) i x) = f1 ∨ gOk v f1) (hdg : decode cc pc = .ok (.iastore, 1)) (kk : ∀ (H1 : Heap) (locs1 : List Loc), gWd D (rwW k ad) v f1 g H1 → va_S A H0 H1 locs1 → W p l e R s m args below meth c H1 locs1 cells slots Q (F0 m (pc + 1) ls rest)) : W p l e R s m args below meth c H locs cells slots Q (F0 m pc ls (.int (iI x) :: .int (iI i) :: .ref (ad 6) :: rest)) := g_iast C hP.1 (hD v f g) hS 6 rfl (by decide) h0 h1 (ws' := (rwW k ad) v f1 g) (by rw [← hv]; rfl) hdg (fun H1 locs1 h1 h3 => kk H1 locs1 ⟨h1, hv2.elim (fun q => q ▸ gF_up hP.2 4 (u1_rng (hP.2.2 4) hx)) id⟩ h3)
theorem rwN_laws_keyKind (C : gC D k p s m args c cc own) (hP : gWd D (rwW k ad) v f g H) (hdg : decode cc pc = .ok (.arraylength, 1)) (kk : W p l e R s m args below meth c H locs cells slots Q (F0 m (pc + 1) ls (.int (iI 4) :: rest))) : W p l e R s m args below meth c H locs cells slots Q (F0 m pc ls (.ref (ad 6) :: rest)) := va_alen (D := D) C.1 C.2.1 C.2.2.2.2 hP.1 6 0 rfl rfl (v := iI 4) rfl hdg kk
theorem rwL_laws_keyDown (C : gC D k p s m args c cc own) (hP : gWd D (rwW k ad) v f g H) {i : Int} (h0 : 0 ≤ i) (h1 : i < 4) (hdg : decode cc pc = .ok (.iaload, 1)) (kk : W p l e R s m args below meth c H locs cells slots Q (F0 m (pc + 1) ls (.int (iI (f 5 i)) :: rest))) : W p l e R s m args below meth c H locs cells slots Q (F0 m pc ls (.int (iI i) :: .ref (ad 7) :: rest)) := g_iald C hP.1 7 rfl (by decide) h0 h1 hdg kk
theorem rwS_laws_keyDown (C : gC D k p s m args c cc own) (hP : gWd D (rwW k ad) v f g H) (hD : rwD A k ad) (hS : va_S A H0 H locs) {i x : Int} {f1 : gF} (h0 : 0 ≤ i) (h1 : i < 4) (hx : inR x) (hv : (rwW k ad) v (va_up f 5 (u1 (f 5) i x)) g = (rwW k ad) v f1 g) (hv2 : va_up f 5 (u1 (f 5) i x) = f1 ∨ gOk v f1) (hdg : decode cc pc = .ok (.iastore, 1)) (kk : ∀ (H1 : Heap) (locs1 : List Loc), gWd D (rwW k ad) v f1 g H1 → va_S A H0 H1 locs1 → W p l e R s m args below meth c H1 locs1 cells slots Q (F0 m (pc + 1) ls rest)) : W p l e R s m args below meth c H locs cells slots Q (F0 m pc ls (.int (iI x) :: .int (iI i) :: .ref (ad 7) :: rest)) := g_iast C hP.1 (hD v f g) hS 7 rfl (by decide) h0 h1 (ws' := (rwW k ad) v f1 g) (by rw [← hv]; rfl) hdg (fun H1 locs1 h1 h3 => kk H1 locs1 ⟨h1, hv2.elim (fun q => q ▸ gF_up hP.2 5 (u1_rng (hP.2.2 5) hx)) id⟩ h3)
theorem rwN_laws_keyDown (C : gC D k p s m args c cc own) (hP : gWd D (rwW k ad) v f g H) (hdg : decode cc pc = .ok (.arraylength, 1)) (kk : W p l e R s m args below meth c H locs cells slots Q (F0 m (pc + 1) ls (.int (iI 4) :: rest))) : W p l e R s m args below meth c H locs cells slots Q (F0 m pc ls (.ref (ad 7) :: rest)) := va_alen (D := D) C.1 C.2.1 C.2.2.2.2 hP.1 7 0 rfl rfl (v := iI 4) rfl hdg kk
theorem rwL_laws_stack (C : gC D k p s m args c cc own) (hP : gWd D (rwW k ad) v f g H) {i : Int} (h0 : 0 ≤ i) (h1 : i < 40) (hdg : decode cc pc = .ok (.laload, 1)) (kk : W p l e R s m args below meth c H locs cells slots Q (F0 m (pc + 1) ls (.long (iL (g 0 i)) :: rest))) : W p l e R s m args below meth c H locs cells slots Q (F0 m pc ls (.int (iI i) :: .ref (ad 8) :: rest)) := g_lald C hP.1 8 rfl (by decide) h0 h1 hdg kk
theorem rwS_laws_stack (C : gC D k p s m args c cc own) (hP : gWd D (rwW k ad) v f g H) (hD : rwD A k ad) (hS : va_S A H0 H locs) {i x : Int} {g1 : gF} (h0 : 0 ≤ i) (h1 : i < 40) (hv : (rwW k ad) v f (va_up g 0 (u1 (g 0) i x)) = (rwW k ad) v f g1) (hdg : decode cc pc = .ok (.lastore, 1)) (kk : ∀ (H1 : Heap) (locs1 : List Loc), gWd D (rwW k ad) v f g1 H1 → va_S A H0 H1 locs1 → W p l e R s m args below meth c H1 locs1 cells slots Q (F0 m (pc + 1) ls rest)) : W p l e R s m args below meth c H locs cells slots Q (F0 m pc ls (.long (iL x) :: .int (iI i) :: .ref (ad 8) :: rest)) := g_last C hP.1 (hD v f g) hS 8 rfl (by decide) h0 h1 (ws' := (rwW k ad) v f g1) (by rw [← hv]; rfl) hdg (fun H1 locs1 h1 h3 => kk H1 locs1 ⟨h1, hP.2⟩ h3)
theorem rwN_laws_stack (C : gC D k p s m args c cc own) (hP : gWd D (rwW k ad) v f g H) (hdg : decode cc pc = .ok (.arraylength, 1)) (kk : W p l e R s m args below meth c H locs cells slots Q (F0 m (pc + 1) ls (.int (iI 40) :: rest))) : W p l e R s m args below meth c H locs cells slots Q (F0 m pc ls (.ref (ad 8) :: rest)) := va_alen (D := D) C.1 C.2.1 C.2.2.2.2 hP.1 8 1 rfl rfl (v := iI 40) rfl hdg kk
theorem rwG_reader_tokens (C : gC D k p s m args c cc own) (hP : gWd D (rwW k ad) v f g H) (hm : Cond.fieldLink own idx "RouteWall$LawReader" "tokens" "LRouteWall$Tokens;" ∈ gWs) (hdg : decode cc pc = .ok (.getfield idx, 3)) (kk : W p l e R s m args below meth c H locs cells slots Q (F0 m (pc + 3) ls (.ref (ad 10) :: rest))) : W p l e R s m args below meth c H locs cells slots Q (F0 m pc ls (.ref (ad 9) :: rest)) := va_get (D := D) (ci := 3) (C := RX3) (T := TX3) (N := 8) C.1 C.2.1 C.2.2.1 gLx3 C.2.2.2.1 C.2.2.2.2 hP.1 9 rfl rfl 0 (by decide) (C.2.2.1 _ hm) (fun _ h9 => h9) rfl hdg kk
theorem rwG_reader_draft (C : gC D k p s m args c cc own) (hP : gWd D (rwW k ad) v f g H) (hm : Cond.fieldLink own idx "RouteWall$LawReader" "draft" "LRouteWall$Laws;" ∈ gWs) (hdg : decode cc pc = .ok (.getfield idx, 3)) (kk : W p l e R s m args below meth c H locs cells slots Q (F0 m (pc + 3) ls (.ref (ad 14) :: rest))) : W p l e R s m args below meth c H locs cells slots Q (F0 m pc ls (.ref (ad 9) :: rest)) := va_get (D := D) (ci := 3) (C := RX3) (T := TX3) (N := 8) C.1 C.2.1 C.2.2.1 gLx3 C.2.2.2.1 C.2.2.2.2 hP.1 9 rfl rfl 1 (by decide) (C.2.2.1 _ hm) (fun _ h9 => h9) rfl hdg kk
theorem rwG_reader_expression (C : gC D k p s m args c cc own) (hP : gWd D (rwW k ad) v f g H) (hm : Cond.fieldLink own idx "RouteWall$LawReader" "expression" "LRouteWall$Expression;" ∈ gWs) (hdg : decode cc pc = .ok (.getfield idx, 3)) (kk : W p l e R s m args below meth c H locs cells slots Q (F0 m (pc + 3) ls (.ref (ad 21) :: rest))) : W p l e R s m args below meth c H locs cells slots Q (F0 m pc ls (.ref (ad 9) :: rest)) := va_get (D := D) (ci := 3) (C := RX3) (T := TX3) (N := 8) C.1 C.2.1 C.2.2.1 gLx3 C.2.2.2.1 C.2.2.2.2 hP.1 9 rfl rfl 2 (by decide) (C.2.2.1 _ hm) (fun _ h9 => h9) rfl hdg kk
theorem rwG_reader_fault (C : gC D k p s m args c cc own) (hP : gWd D (rwW k ad) v f g H) (hm : Cond.fieldLink own idx "RouteWall$LawReader" "fault" "I" ∈ gWs) (hdg : decode cc pc = .ok (.getfield idx, 3)) (kk : W p l e R s m args below meth c H locs cells slots Q (F0 m (pc + 3) ls (.int (iI (v 16)) :: rest))) : W p l e R s m args below meth c H locs cells slots Q (F0 m pc ls (.ref (ad 9) :: rest)) := va_get (D := D) (ci := 3) (C := RX3) (T := TX3) (N := 8) C.1 C.2.1 C.2.2.1 gLx3 C.2.2.2.1 C.2.2.2.2 hP.1 9 rfl rfl 3 (by decide) (C.2.2.1 _ hm) (fun _ h9 => h9) rfl hdg kk
theorem rwP_reader_fault (C : gC D k p s m args c cc own) (hP : gWd D (rwW k ad) v f g H) (hD : rwD A k ad) (hS : va_S A H0 H locs) (hm : Cond.fieldLink own idx "RouteWall$LawReader" "fault" "I" ∈ gWs) {x : Int} {v1 : gV} (hx : inR x) (hv : (rwW k ad) (va_up v 16 x) f g = (rwW k ad) v1 f g) (hv2 : va_up v 16 x = v1 ∨ gOk v1 f) (hdg : decode cc pc = .ok (.putfield idx, 3)) (kk : ∀ (H1 : Heap) (locs1 : List Loc), gWd D (rwW k ad) v1 f g H1 → va_S A H0 H1 locs1 → W p l e R s m args below meth c H1 locs1 cells slots Q (F0 m (pc + 3) ls rest)) : W p l e R s m args below meth c H locs cells slots Q (F0 m pc ls (.int (iI x) :: .ref (ad 9) :: rest)) := va_put (D := D) (ci := 3) (ty := .int) (C := RX3) (T := TX3) (N := 8) C.1 C.2.1 C.2.2.1 gLx3 tyX3 tyX3_ok nmX3 C.2.2.2.1 C.2.2.2.2 hP.1 (hD v f g) hS 9 rfl rfl 3 (by decide) (C.2.2.1 _ hm) (fun _ h9 => h9) rfl (by decide +kernel) rfl rfl (Nat.le_of_ble_eq_true rfl) hdg (fun H1 locs1 h1 _ h3 => kk H1 locs1 ⟨hv ▸ (show va_P D vwCl ((rwW k ad) (va_up v 16 x) f g) H1 from h1), hv2.elim (fun q => q ▸ gR_up hP.2 16 hx) id⟩ h3)
theorem rwG_reader_faultPlace (C : gC D k p s m args c cc own) (hP : gWd D (rwW k ad) v f g H) (hm : Cond.fieldLink own idx "RouteWall$LawReader" "faultPlace" "I" ∈ gWs) (hdg : decode cc pc = .ok (.getfield idx, 3)) (kk : W p l e R s m args below meth c H locs cells slots Q (F0 m (pc + 3) ls (.int (iI (v 17)) :: rest))) : W p l e R s m args below meth c H locs cells slots Q (F0 m pc ls (.ref (ad 9) :: rest)) := va_get (D := D) (ci := 3) (C := RX3) (T := TX3) (N := 8) C.1 C.2.1 C.2.2.1 gLx3 C.2.2.2.1 C.2.2.2.2 hP.1 9 rfl rfl 4 (by decide) (C.2.2.1 _ hm) (fun _ h9 => h9) rfl hdg kk
theorem rwP_reader_faultPlace (C : gC D k p s m args c cc own) (hP : gWd D (rwW k ad) v f g H) (hD : rwD A k ad) (hS : va_S A H0 H locs) (hm : Cond.fieldLink own idx "RouteWall$LawReader" "faultPlace" "I" ∈ gWs) {x : Int} {v1 : gV} (hx : inR x) (hv : (rwW k ad) (va_up v 17 x) f g = (rwW k ad) v1 f g) (hv2 : va_up v 17 x = v1 ∨ gOk v1 f) (hdg : decode cc pc = .ok (.putfield idx, 3)) (kk : ∀ (H1 : Heap) (locs1 : List Loc), gWd D (rwW k ad) v1 f g H1 → va_S A H0 H1 locs1 → W p l e R s m args below meth c H1 locs1 cells slots Q (F0 m (pc + 3) ls rest)) : W p l e R s m args below meth c H locs cells slots Q (F0 m pc ls (.int (iI x) :: .ref (ad 9) :: rest)) := va_put (D := D) (ci := 3) (ty := .int) (C := RX3) (T := TX3) (N := 8) C.1 C.2.1 C.2.2.1 gLx3 tyX3 tyX3_ok nmX3 C.2.2.2.1 C.2.2.2.2 hP.1 (hD v f g) hS 9 rfl rfl 4 (by decide) (C.2.2.1 _ hm) (fun _ h9 => h9) rfl (by decide +kernel) rfl rfl (Nat.le_of_ble_eq_true rfl) hdg (fun H1 locs1 h1 _ h3 => kk H1 locs1 ⟨hv ▸ (show va_P D vwCl ((rwW k ad) (va_up v 17 x) f g) H1 from h1), hv2.elim (fun q => q ▸ gR_up hP.2 17 hx) id⟩ h3)
theorem rwG_reader_pointsTold (C : gC D k p s m args c cc own) (hP : gWd D (rwW k ad) v f g H) (hm : Cond.fieldLink own idx "RouteWall$LawReader" "pointsTold" "Z" ∈ gWs) (hdg : decode cc pc = .ok (.getfield idx, 3)) (kk : W p l e R s m args below meth c H locs cells slots Q (F0 m (pc + 3) ls (.int (iI (v 18)) :: rest))) : W p l e R s m args below meth c H locs cells slots Q (F0 m pc ls (.ref (ad 9) :: rest)) := va_get (D := D) (ci := 3) (C := RX3) (T := TX3) (N := 8) C.1 C.2.1 C.2.2.1 gLx3 C.2.2.2.1 C.2.2.2.2 hP.1 9 rfl rfl 5 (by decide) (C.2.2.1 _ hm) (fun _ h9 => h9) rfl hdg kk
theorem rwP_reader_pointsTold (C : gC D k p s m args c cc own) (hP : gWd D (rwW k ad) v f g H) (hD : rwD A k ad) (hS : va_S A H0 H locs) (hm : Cond.fieldLink own idx "RouteWall$LawReader" "pointsTold" "Z" ∈ gWs) {x : Int} {v1 : gV} (hx : inR x) (hb : x = 0 ∨ x = 1) (hv : (rwW k ad) (va_up v 18 x) f g = (rwW k ad) v1 f g) (hv2 : va_up v 18 x = v1 ∨ gOk v1 f) (hdg : decode cc pc = .ok (.putfield idx, 3)) (kk : ∀ (H1 : Heap) (locs1 : List Loc), gWd D (rwW k ad) v1 f g H1 → va_S A H0 H1 locs1 → W p l e R s m args below meth c H1 locs1 cells slots Q (F0 m (pc + 3) ls rest)) : W p l e R s m args below meth c H locs cells slots Q (F0 m pc ls (.int (iI x) :: .ref (ad 9) :: rest)) := va_put (D := D) (ci := 3) (ty := .boolean) (C := RX3) (T := TX3) (N := 8) C.1 C.2.1 C.2.2.1 gLx3 tyX3 tyX3_ok nmX3 C.2.2.2.1 C.2.2.2.2 hP.1 (hD v f g) hS 9 rfl rfl 5 (by decide) (C.2.2.1 _ hm) (fun _ h9 => h9) rfl (by decide +kernel) (by rcases hb with rfl | rfl <;> rfl) (by rcases hb with rfl | rfl <;> rfl) (Nat.le_of_ble_eq_true rfl) hdg (fun H1 locs1 h1 _ h3 => kk H1 locs1 ⟨hv ▸ (show va_P D vwCl ((rwW k ad) (va_up v 18 x) f g) H1 from h1), hv2.elim (fun q => q ▸ gR_up hP.2 18 hx) id⟩ h3)
theorem rwG_reader_keysTold (C : gC D k p s m args c cc own) (hP : gWd D (rwW k ad) v f g H) (hm : Cond.fieldLink own idx "RouteWall$LawReader" "keysTold" "Z" ∈ gWs) (hdg : decode cc pc = .ok (.getfield idx, 3)) (kk : W p l e R s m args below meth c H locs cells slots Q (F0 m (pc + 3) ls (.int (iI (v 19)) :: rest))) : W p l e R s m args below meth c H locs cells slots Q (F0 m pc ls (.ref (ad 9) :: rest)) := va_get (D := D) (ci := 3) (C := RX3) (T := TX3) (N := 8) C.1 C.2.1 C.2.2.1 gLx3 C.2.2.2.1 C.2.2.2.2 hP.1 9 rfl rfl 6 (by decide) (C.2.2.1 _ hm) (fun _ h9 => h9) rfl hdg kk
theorem rwP_reader_keysTold (C : gC D k p s m args c cc own) (hP : gWd D (rwW k ad) v f g H) (hD : rwD A k ad) (hS : va_S A H0 H locs) (hm : Cond.fieldLink own idx "RouteWall$LawReader" "keysTold" "Z" ∈ gWs) {x : Int} {v1 : gV} (hx : inR x) (hb : x = 0 ∨ x = 1) (hv : (rwW k ad) (va_up v 19 x) f g = (rwW k ad) v1 f g) (hv2 : va_up v 19 x = v1 ∨ gOk v1 f) (hdg : decode cc pc = .ok (.putfield idx, 3)) (kk : ∀ (H1 : Heap) (locs1 : List Loc), gWd D (rwW k ad) v1 f g H1 → va_S A H0 H1 locs1 → W p l e R s m args below meth c H1 locs1 cells slots Q (F0 m (pc + 3) ls rest)) : W p l e R s m args below meth c H locs cells slots Q (F0 m pc ls (.int (iI x) :: .ref (ad 9) :: rest)) := va_put (D := D) (ci := 3) (ty := .boolean) (C := RX3) (T := TX3) (N := 8) C.1 C.2.1 C.2.2.1 gLx3 tyX3 tyX3_ok nmX3 C.2.2.2.1 C.2.2.2.2 hP.1 (hD v f g) hS 9 rfl rfl 6 (by decide) (C.2.2.1 _ hm) (fun _ h9 => h9) rfl (by decide +kernel) (by rcases hb with rfl | rfl <;> rfl) (by rcases hb with rfl | rfl <;> rfl) (Nat.le_of_ble_eq_true rfl) hdg (fun H1 locs1 h1 _ h3 => kk H1 locs1 ⟨hv ▸ (show va_P D vwCl ((rwW k ad) (va_up v 19 x) f g) H1 from h1), hv2.elim (fun q => q ▸ gR_up hP.2 19 hx) id⟩ h3)
theorem rwG_reader_tiesTold (C : gC D k p s m args c cc own) (hP : gWd D (rwW k ad) v f g H) (hm : Cond.fieldLink own idx "RouteWall$LawReader" "tiesTold" "Z" ∈ gWs) (hdg : decode cc pc = .ok (.getfield idx, 3)) (kk : W p l e R s m args below meth c H locs cells slots Q (F0 m (pc + 3) ls (.int (iI (v 20)) :: rest))) : W p l e R s m args below meth c H locs cells slots Q (F0 m pc ls (.ref (ad 9) :: rest)) := va_get (D := D) (ci := 3) (C := RX3) (T := TX3) (N := 8) C.1 C.2.1 C.2.2.1 gLx3 C.2.2.2.1 C.2.2.2.2 hP.1 9 rfl rfl 7 (by decide) (C.2.2.1 _ hm) (fun _ h9 => h9) rfl hdg kk
theorem rwP_reader_tiesTold (C : gC D k p s m args c cc own) (hP : gWd D (rwW k ad) v f g H) (hD : rwD A k ad) (hS : va_S A H0 H locs) (hm : Cond.fieldLink own idx "RouteWall$LawReader" "tiesTold" "Z" ∈ gWs) {x : Int} {v1 : gV} (hx : inR x) (hb : x = 0 ∨ x = 1) (hv : (rwW k ad) (va_up v 20 x) f g = (rwW k ad) v1 f g) (hv2 : va_up v 20 x = v1 ∨ gOk v1 f) (hdg : decode cc pc = .ok (.putfield idx, 3)) (kk : ∀ (H1 : Heap) (locs1 : List Loc), gWd D (rwW k ad) v1 f g H1 → va_S A H0 H1 locs1 → W p l e R s m args below meth c H1 locs1 cells slots Q (F0 m (pc + 3) ls rest)) : W p l e R s m args below meth c H locs cells slots Q (F0 m pc ls (.int (iI x) :: .ref (ad 9) :: rest)) := va_put (D := D) (ci := 3) (ty := .boolean) (C := RX3) (T := TX3) (N := 8) C.1 C.2.1 C.2.2.1 gLx3 tyX3 tyX3_ok nmX3 C.2.2.2.1 C.2.2.2.2 hP.1 (hD v f g) hS 9 rfl rfl 7 (by decide) (C.2.2.1 _ hm) (fun _ h9 => h9) rfl (by decide +kernel) (by rcases hb with rfl | rfl <;> rfl) (by rcases hb with rfl | rfl <;> rfl) (Nat.le_of_ble_eq_true rfl) hdg (fun H1 locs1 h1 _ h3 => kk H1 locs1 ⟨hv ▸ (show va_P D vwCl ((rwW k ad) (va_up v 20 x) f g) H1 from h1), hv2.elim (fun q => q ▸ gR_up hP.2 20 hx) id⟩ h3)
theorem rwG_reader_tokens_kinds (C : gC D k p s m args c cc own) (hP : gWd D (rwW k ad) v f g H) (hm : Cond.fieldLink own idx "RouteWall$Tokens" "kinds" "[I" ∈ gWs) (hdg : decode cc pc = .ok (.getfield idx, 3)) (kk : W p l e R s m args below meth c H locs cells slots Q (F0 m (pc + 3) ls (.ref (ad 11) :: rest))) : W p l e R s m args below meth c H locs cells slots Q (F0 m pc ls (.ref (ad 10) :: rest)) := va_get (D := D) (ci := 6) (C := RX6) (T := TX6) (N := 5) C.1 C.2.1 C.2.2.1 gLx6 C.2.2.2.1 C.2.2.2.2 hP.1 10 rfl rfl 0 (by decide) (C.2.2.1 _ hm) (fun _ h9 => h9) rfl hdg kk
theorem rwG_reader_tokens_places (C : gC D k p s m args c cc own) (hP : gWd D (rwW k ad) v f g H) (hm : Cond.fieldLink own idx "RouteWall$Tokens" "places" "[I" ∈ gWs) (hdg : decode cc pc = .ok (.getfield idx, 3)) (kk : W p l e R s m args below meth c H locs cells slots Q (F0 m (pc + 3) ls (.ref (ad 12) :: rest))) : W p l e R s m args below meth c H locs cells slots Q (F0 m pc ls (.ref (ad 10) :: rest)) := va_get (D := D) (ci := 6) (C := RX6) (T := TX6) (N := 5) C.1 C.2.1 C.2.2.1 gLx6 C.2.2.2.1 C.2.2.2.2 hP.1 10 rfl rfl 1 (by decide) (C.2.2.1 _ hm) (fun _ h9 => h9) rfl hdg kk
theorem rwG_reader_tokens_values (C : gC D k p s m args c cc own) (hP : gWd D (rwW k ad) v f g H) (hm : Cond.fieldLink own idx "RouteWall$Tokens" "values" "[I" ∈ gWs) (hdg : decode cc pc = .ok (.getfield idx, 3)) (kk : W p l e R s m args below meth c H locs cells slots Q (F0 m (pc + 3) ls (.ref (ad 13) :: rest))) : W p l e R s m args below meth c H locs cells slots Q (F0 m pc ls (.ref (ad 10) :: rest)) := va_get (D := D) (ci := 6) (C := RX6) (T := TX6) (N := 5) C.1 C.2.1 C.2.2.1 gLx6 C.2.2.2.1 C.2.2.2.2 hP.1 10 rfl rfl 2 (by decide) (C.2.2.1 _ hm) (fun _ h9 => h9) rfl hdg kk
theorem rwG_reader_tokens_many (C : gC D k p s m args c cc own) (hP : gWd D (rwW k ad) v f g H) (hm : Cond.fieldLink own idx "RouteWall$Tokens" "many" "I" ∈ gWs) (hdg : decode cc pc = .ok (.getfield idx, 3)) (kk : W p l e R s m args below meth c H locs cells slots Q (F0 m (pc + 3) ls (.int (iI (v 5)) :: rest))) : W p l e R s m args below meth c H locs cells slots Q (F0 m pc ls (.ref (ad 10) :: rest)) := va_get (D := D) (ci := 6) (C := RX6) (T := TX6) (N := 5) C.1 C.2.1 C.2.2.1 gLx6 C.2.2.2.1 C.2.2.2.2 hP.1 10 rfl rfl 3 (by decide) (C.2.2.1 _ hm) (fun _ h9 => h9) rfl hdg kk
theorem rwP_reader_tokens_many (C : gC D k p s m args c cc own) (hP : gWd D (rwW k ad) v f g H) (hD : rwD A k ad) (hS : va_S A H0 H locs) (hm : Cond.fieldLink own idx "RouteWall$Tokens" "many" "I" ∈ gWs) {x : Int} {v1 : gV} (hx : inR x) (hv : (rwW k ad) (va_up v 5 x) f g = (rwW k ad) v1 f g) (hv2 : va_up v 5 x = v1 ∨ gOk v1 f) (hdg : decode cc pc = .ok (.putfield idx, 3)) (kk : ∀ (H1 : Heap) (locs1 : List Loc), gWd D (rwW k ad) v1 f g H1 → va_S A H0 H1 locs1 → W p l e R s m args below meth c H1 locs1 cells slots Q (F0 m (pc + 3) ls rest)) : W p l e R s m args below meth c H locs cells slots Q (F0 m pc ls (.int (iI x) :: .ref (ad 10) :: rest)) := va_put (D := D) (ci := 6) (ty := .int) (C := RX6) (T := TX6) (N := 5) C.1 C.2.1 C.2.2.1 gLx6 tyX6 tyX6_ok nmX6 C.2.2.2.1 C.2.2.2.2 hP.1 (hD v f g) hS 10 rfl rfl 3 (by decide) (C.2.2.1 _ hm) (fun _ h9 => h9) rfl (by decide +kernel) rfl rfl (Nat.le_of_ble_eq_true rfl) hdg (fun H1 locs1 h1 _ h3 => kk H1 locs1 ⟨hv ▸ (show va_P D vwCl ((rwW k ad) (va_up v 5 x) f g) H1 from h1), hv2.elim (fun q => q ▸ gR_up hP.2 5 hx) id⟩ h3)
theorem rwG_reader_tokens_at (C : gC D k p s m args c cc own) (hP : gWd D (rwW k ad) v f g H) (hm : Cond.fieldLink own idx "RouteWall$Tokens" "at" "I" ∈ gWs) (hdg : decode cc pc = .ok (.getfield idx, 3)) (kk : W p l e R s m args below meth c H locs cells slots Q (F0 m (pc + 3) ls (.int (iI (v 6)) :: rest))) : W p l e R s m args below meth c H locs cells slots Q (F0 m pc ls (.ref (ad 10) :: rest)) := va_get (D := D) (ci := 6) (C := RX6) (T := TX6) (N := 5) C.1 C.2.1 C.2.2.1 gLx6 C.2.2.2.1 C.2.2.2.2 hP.1 10 rfl rfl 4 (by decide) (C.2.2.1 _ hm) (fun _ h9 => h9) rfl hdg kk
theorem rwP_reader_tokens_at (C : gC D k p s m args c cc own) (hP : gWd D (rwW k ad) v f g H) (hD : rwD A k ad) (hS : va_S A H0 H locs) (hm : Cond.fieldLink own idx "RouteWall$Tokens" "at" "I" ∈ gWs) {x : Int} {v1 : gV} (hx : inR x) (hv : (rwW k ad) (va_up v 6 x) f g = (rwW k ad) v1 f g) (hv2 : va_up v 6 x = v1 ∨ gOk v1 f) (hdg : decode cc pc = .ok (.putfield idx, 3)) (kk : ∀ (H1 : Heap) (locs1 : List Loc), gWd D (rwW k ad) v1 f g H1 → va_S A H0 H1 locs1 → W p l e R s m args below meth c H1 locs1 cells slots Q (F0 m (pc + 3) ls rest)) : W p l e R s m args below meth c H locs cells slots Q (F0 m pc ls (.int (iI x) :: .ref (ad 10) :: rest)) := va_put (D := D) (ci := 6) (ty := .int) (C := RX6) (T := TX6) (N := 5) C.1 C.2.1 C.2.2.1 gLx6 tyX6 tyX6_ok nmX6 C.2.2.2.1 C.2.2.2.2 hP.1 (hD v f g) hS 10 rfl rfl 4 (by decide) (C.2.2.1 _ hm) (fun _ h9 => h9) rfl (by decide +kernel) rfl rfl (Nat.le_of_ble_eq_true rfl) hdg (fun H1 locs1 h1 _ h3 => kk H1 locs1 ⟨hv ▸ (show va_P D vwCl ((rwW k ad) (va_up v 6 x) f g) H1 from h1), hv2.elim (fun q => q ▸ gR_up hP.2 6 hx) id⟩ h3)
theorem rwL_reader_tokens_kinds (C : gC D k p s m args c cc own) (hP : gWd D (rwW k ad) v f g H) {i : Int} (h0 : 0 ≤ i) (h1 : i < 701) (hdg : decode cc pc = .ok (.iaload, 1)) (kk : W p l e R s m args below meth c H locs cells slots Q (F0 m (pc + 1) ls (.int (iI (f 6 i)) :: rest))) : W p l e R s m args below meth c H locs cells slots Q (F0 m pc ls (.int (iI i) :: .ref (ad 11) :: rest)) := g_iald C hP.1 11 rfl (by decide) h0 h1 hdg kk
theorem rwS_reader_tokens_kinds (C : gC D k p s m args c cc own) (hP : gWd D (rwW k ad) v f g H) (hD : rwD A k ad) (hS : va_S A H0 H locs) {i x : Int} {f1 : gF} (h0 : 0 ≤ i) (h1 : i < 701) (hx : inR x) (hv : (rwW k ad) v (va_up f 6 (u1 (f 6) i x)) g = (rwW k ad) v f1 g) (hv2 : va_up f 6 (u1 (f 6) i x) = f1 ∨ gOk v f1) (hdg : decode cc pc = .ok (.iastore, 1)) (kk : ∀ (H1 : Heap) (locs1 : List Loc), gWd D (rwW k ad) v f1 g H1 → va_S A H0 H1 locs1 → W p l e R s m args below meth c H1 locs1 cells slots Q (F0 m (pc + 1) ls rest)) : W p l e R s m args below meth c H locs cells slots Q (F0 m pc ls (.int (iI x) :: .int (iI i) :: .ref (ad 11) :: rest)) := g_iast C hP.1 (hD v f g) hS 11 rfl (by decide) h0 h1 (ws' := (rwW k ad) v f1 g) (by rw [← hv]; rfl) hdg (fun H1 locs1 h1 h3 => kk H1 locs1 ⟨h1, hv2.elim (fun q => q ▸ gF_up hP.2 6 (u1_rng (hP.2.2 6) hx)) id⟩ h3)
theorem rwN_reader_tokens_kinds (C : gC D k p s m args c cc own) (hP : gWd D (rwW k ad) v f g H) (hdg : decode cc pc = .ok (.arraylength, 1)) (kk : W p l e R s m args below meth c H locs cells slots Q (F0 m (pc + 1) ls (.int (iI 701) :: rest))) : W p l e R s m args below meth c H locs cells slots Q (F0 m pc ls (.ref (ad 11) :: rest)) := va_alen (D := D) C.1 C.2.1 C.2.2.2.2 hP.1 11 0 rfl rfl (v := iI 701) rfl hdg kk
theorem rwL_reader_tokens_places (C : gC D k p s m args c cc own) (hP : gWd D (rwW k ad) v f g H) {i : Int} (h0 : 0 ≤ i) (h1 : i < 701) (hdg : decode cc pc = .ok (.iaload, 1)) (kk : W p l e R s m args below meth c H locs cells slots Q (F0 m (pc + 1) ls (.int (iI (f 7 i)) :: rest))) : W p l e R s m args below meth c H locs cells slots Q (F0 m pc ls (.int (iI i) :: .ref (ad 12) :: rest)) := g_iald C hP.1 12 rfl (by decide) h0 h1 hdg kk
theorem rwS_reader_tokens_places (C : gC D k p s m args c cc own) (hP : gWd D (rwW k ad) v f g H) (hD : rwD A k ad) (hS : va_S A H0 H locs) {i x : Int} {f1 : gF} (h0 : 0 ≤ i) (h1 : i < 701) (hx : inR x) (hv : (rwW k ad) v (va_up f 7 (u1 (f 7) i x)) g = (rwW k ad) v f1 g) (hv2 : va_up f 7 (u1 (f 7) i x) = f1 ∨ gOk v f1) (hdg : decode cc pc = .ok (.iastore, 1)) (kk : ∀ (H1 : Heap) (locs1 : List Loc), gWd D (rwW k ad) v f1 g H1 → va_S A H0 H1 locs1 → W p l e R s m args below meth c H1 locs1 cells slots Q (F0 m (pc + 1) ls rest)) : W p l e R s m args below meth c H locs cells slots Q (F0 m pc ls (.int (iI x) :: .int (iI i) :: .ref (ad 12) :: rest)) := g_iast C hP.1 (hD v f g) hS 12 rfl (by decide) h0 h1 (ws' := (rwW k ad) v f1 g) (by rw [← hv]; rfl) hdg (fun H1 locs1 h1 h3 => kk H1 locs1 ⟨h1, hv2.elim (fun q => q ▸ gF_up hP.2 7 (u1_rng (hP.2.2 7) hx)) id⟩ h3)
theorem rwN_reader_tokens_places (C : gC D k p s m args c cc own) (hP : gWd D (rwW k ad) v f g H) (hdg : decode cc pc = .ok (.arraylength, 1)) (kk : W p l e R s m args below meth c H locs cells slots Q (F0 m (pc + 1) ls (.int (iI 701) :: rest))) : W p l e R s m args below meth c H locs cells slots Q (F0 m pc ls (.ref (ad 12) :: rest)) := va_alen (D := D) C.1 C.2.1 C.2.2.2.2 hP.1 12 0 rfl rfl (v := iI 701) rfl hdg kk
theorem rwL_reader_tokens_values (C : gC D k p s m args c cc own) (hP : gWd D (rwW k ad) v f g H) {i : Int} (h0 : 0 ≤ i) (h1 : i < 701) (hdg : decode cc pc = .ok (.iaload, 1)) (kk : W p l e R s m args below meth c H locs cells slots Q (F0 m (pc + 1) ls (.int (iI (f 8 i)) :: rest))) : W p l e R s m args below meth c H locs cells slots Q (F0 m pc ls (.int (iI i) :: .ref (ad 13) :: rest)) := g_iald C hP.1 13 rfl (by decide) h0 h1 hdg kk
theorem rwS_reader_tokens_values (C : gC D k p s m args c cc own) (hP : gWd D (rwW k ad) v f g H) (hD : rwD A k ad) (hS : va_S A H0 H locs) {i x : Int} {f1 : gF} (h0 : 0 ≤ i) (h1 : i < 701) (hx : inR x) (hv : (rwW k ad) v (va_up f 8 (u1 (f 8) i x)) g = (rwW k ad) v f1 g) (hv2 : va_up f 8 (u1 (f 8) i x) = f1 ∨ gOk v f1) (hdg : decode cc pc = .ok (.iastore, 1)) (kk : ∀ (H1 : Heap) (locs1 : List Loc), gWd D (rwW k ad) v f1 g H1 → va_S A H0 H1 locs1 → W p l e R s m args below meth c H1 locs1 cells slots Q (F0 m (pc + 1) ls rest)) : W p l e R s m args below meth c H locs cells slots Q (F0 m pc ls (.int (iI x) :: .int (iI i) :: .ref (ad 13) :: rest)) := g_iast C hP.1 (hD v f g) hS 13 rfl (by decide) h0 h1 (ws' := (rwW k ad) v f1 g) (by rw [← hv]; rfl) hdg (fun H1 locs1 h1 h3 => kk H1 locs1 ⟨h1, hv2.elim (fun q => q ▸ gF_up hP.2 8 (u1_rng (hP.2.2 8) hx)) id⟩ h3)
theorem rwN_reader_tokens_values (C : gC D k p s m args c cc own) (hP : gWd D (rwW k ad) v f g H) (hdg : decode cc pc = .ok (.arraylength, 1)) (kk : W p l e R s m args below meth c H locs cells slots Q (F0 m (pc + 1) ls (.int (iI 701) :: rest))) : W p l e R s m args below meth c H locs cells slots Q (F0 m pc ls (.ref (ad 13) :: rest)) := va_alen (D := D) C.1 C.2.1 C.2.2.2.2 hP.1 13 0 rfl rfl (v := iI 701) rfl hdg kk
theorem rwG_reader_draft_rounds (C : gC D k p s m args c cc own) (hP : gWd D (rwW k ad) v f g H) (hm : Cond.fieldLink own idx "RouteWall$Laws" "rounds" "I" ∈ gWs) (hdg : decode cc pc = .ok (.getfield idx, 3)) (kk : W p l e R s m args below meth c H locs cells slots Q (F0 m (pc + 3) ls (.int (iI (v 7)) :: rest))) : W p l e R s m args below meth c H locs cells slots Q (F0 m pc ls (.ref (ad 14) :: rest)) := va_get (D := D) (ci := 4) (C := RX4) (T := TX4) (N := 10) C.1 C.2.1 C.2.2.1 gLx4 C.2.2.2.1 C.2.2.2.2 hP.1 14 rfl rfl 0 (by decide) (C.2.2.1 _ hm) (fun _ h9 => h9) rfl hdg kk
theorem rwP_reader_draft_rounds (C : gC D k p s m args c cc own) (hP : gWd D (rwW k ad) v f g H) (hD : rwD A k ad) (hS : va_S A H0 H locs) (hm : Cond.fieldLink own idx "RouteWall$Laws" "rounds" "I" ∈ gWs) {x : Int} {v1 : gV} (hx : inR x) (hv : (rwW k ad) (va_up v 7 x) f g = (rwW k ad) v1 f g) (hv2 : va_up v 7 x = v1 ∨ gOk v1 f) (hdg : decode cc pc = .ok (.putfield idx, 3)) (kk : ∀ (H1 : Heap) (locs1 : List Loc), gWd D (rwW k ad) v1 f g H1 → va_S A H0 H1 locs1 → W p l e R s m args below meth c H1 locs1 cells slots Q (F0 m (pc + 3) ls rest)) : W p l e R s m args below meth c H locs cells slots Q (F0 m pc ls (.int (iI x) :: .ref (ad 14) :: rest)) := va_put (D := D) (ci := 4) (ty := .int) (C := RX4) (T := TX4) (N := 10) C.1 C.2.1 C.2.2.1 gLx4 tyX4 tyX4_ok nmX4 C.2.2.2.1 C.2.2.2.2 hP.1 (hD v f g) hS 14 rfl rfl 0 (by decide) (C.2.2.1 _ hm) (fun _ h9 => h9) rfl (by decide +kernel) rfl rfl (Nat.le_of_ble_eq_true rfl) hdg (fun H1 locs1 h1 _ h3 => kk H1 locs1 ⟨hv ▸ (show va_P D vwCl ((rwW k ad) (va_up v 7 x) f g) H1 from h1), hv2.elim (fun q => q ▸ gR_up hP.2 7 hx) id⟩ h3)
theorem rwG_reader_draft_shape (C : gC D k p s m args c cc own) (hP : gWd D (rwW k ad) v f g H) (hm : Cond.fieldLink own idx "RouteWall$Laws" "shape" "[I" ∈ gWs) (hdg : decode cc pc = .ok (.getfield idx, 3)) (kk : W p l e R s m args below meth c H locs cells slots Q (F0 m (pc + 3) ls (.ref (ad 15) :: rest))) : W p l e R s m args below meth c H locs cells slots Q (F0 m pc ls (.ref (ad 14) :: rest)) := va_get (D := D) (ci := 4) (C := RX4) (T := TX4) (N := 10) C.1 C.2.1 C.2.2.1 gLx4 C.2.2.2.1 C.2.2.2.2 hP.1 14 rfl rfl 1 (by decide) (C.2.2.1 _ hm) (fun _ h9 => h9) rfl hdg kk
theorem rwG_reader_draft_item (C : gC D k p s m args c cc own) (hP : gWd D (rwW k ad) v f g H) (hm : Cond.fieldLink own idx "RouteWall$Laws" "item" "[I" ∈ gWs) (hdg : decode cc pc = .ok (.getfield idx, 3)) (kk : W p l e R s m args below meth c H locs cells slots Q (F0 m (pc + 3) ls (.ref (ad 16) :: rest))) : W p l e R s m args below meth c H locs cells slots Q (F0 m pc ls (.ref (ad 14) :: rest)) := va_get (D := D) (ci := 4) (C := RX4) (T := TX4) (N := 10) C.1 C.2.1 C.2.2.1 gLx4 C.2.2.2.1 C.2.2.2.2 hP.1 14 rfl rfl 2 (by decide) (C.2.2.1 _ hm) (fun _ h9 => h9) rfl hdg kk
theorem rwG_reader_draft_number (C : gC D k p s m args c cc own) (hP : gWd D (rwW k ad) v f g H) (hm : Cond.fieldLink own idx "RouteWall$Laws" "number" "[I" ∈ gWs) (hdg : decode cc pc = .ok (.getfield idx, 3)) (kk : W p l e R s m args below meth c H locs cells slots Q (F0 m (pc + 3) ls (.ref (ad 17) :: rest))) : W p l e R s m args below meth c H locs cells slots Q (F0 m pc ls (.ref (ad 14) :: rest)) := va_get (D := D) (ci := 4) (C := RX4) (T := TX4) (N := 10) C.1 C.2.1 C.2.2.1 gLx4 C.2.2.2.1 C.2.2.2.2 hP.1 14 rfl rfl 3 (by decide) (C.2.2.1 _ hm) (fun _ h9 => h9) rfl hdg kk
theorem rwG_reader_draft_items (C : gC D k p s m args c cc own) (hP : gWd D (rwW k ad) v f g H) (hm : Cond.fieldLink own idx "RouteWall$Laws" "items" "I" ∈ gWs) (hdg : decode cc pc = .ok (.getfield idx, 3)) (kk : W p l e R s m args below meth c H locs cells slots Q (F0 m (pc + 3) ls (.int (iI (v 8)) :: rest))) : W p l e R s m args below meth c H locs cells slots Q (F0 m pc ls (.ref (ad 14) :: rest)) := va_get (D := D) (ci := 4) (C := RX4) (T := TX4) (N := 10) C.1 C.2.1 C.2.2.1 gLx4 C.2.2.2.1 C.2.2.2.2 hP.1 14 rfl rfl 4 (by decide) (C.2.2.1 _ hm) (fun _ h9 => h9) rfl hdg kk
theorem rwP_reader_draft_items (C : gC D k p s m args c cc own) (hP : gWd D (rwW k ad) v f g H) (hD : rwD A k ad) (hS : va_S A H0 H locs) (hm : Cond.fieldLink own idx "RouteWall$Laws" "items" "I" ∈ gWs) {x : Int} {v1 : gV} (hx : inR x) (hv : (rwW k ad) (va_up v 8 x) f g = (rwW k ad) v1 f g) (hv2 : va_up v 8 x = v1 ∨ gOk v1 f) (hdg : decode cc pc = .ok (.putfield idx, 3)) (kk : ∀ (H1 : Heap) (locs1 : List Loc), gWd D (rwW k ad) v1 f g H1 → va_S A H0 H1 locs1 → W p l e R s m args below meth c H1 locs1 cells slots Q (F0 m (pc + 3) ls rest)) : W p l e R s m args below meth c H locs cells slots Q (F0 m pc ls (.int (iI x) :: .ref (ad 14) :: rest)) := va_put (D := D) (ci := 4) (ty := .int) (C := RX4) (T := TX4) (N := 10) C.1 C.2.1 C.2.2.1 gLx4 tyX4 tyX4_ok nmX4 C.2.2.2.1 C.2.2.2.2 hP.1 (hD v f g) hS 14 rfl rfl 4 (by decide) (C.2.2.1 _ hm) (fun _ h9 => h9) rfl (by decide +kernel) rfl rfl (Nat.le_of_ble_eq_true rfl) hdg (fun H1 locs1 h1 _ h3 => kk H1 locs1 ⟨hv ▸ (show va_P D vwCl ((rwW k ad) (va_up v 8 x) f g) H1 from h1), hv2.elim (fun q => q ▸ gR_up hP.2 8 hx) id⟩ h3)
theorem rwG_reader_draft_keyKind (C : gC D k p s m args c cc own) (hP : gWd D (rwW k ad) v f g H) (hm : Cond.fieldLink own idx "RouteWall$Laws" "keyKind" "[I" ∈ gWs) (hdg : decode cc pc = .ok (.getfield idx, 3)) (kk : W p l e R s m args below meth c H locs cells slots Q (F0 m (pc + 3) ls (.ref (ad 18) :: rest))) : W p l e R s m args below meth c H locs cells slots Q (F0 m pc ls (.ref (ad 14) :: rest)) := va_get (D := D) (ci := 4) (C := RX4) (T := TX4) (N := 10) C.1 C.2.1 C.2.2.1 gLx4 C.2.2.2.1 C.2.2.2.2 hP.1 14 rfl rfl 5 (by decide) (C.2.2.1 _ hm) (fun _ h9 => h9) rfl hdg kk
theorem rwG_reader_draft_keyDown (C : gC D k p s m args c cc own) (hP : gWd D (rwW k ad) v f g H) (hm : Cond.fieldLink own idx "RouteWall$Laws" "keyDown" "[I" ∈ gWs) (hdg : decode cc pc = .ok (.getfield idx, 3)) (kk : W p l e R s m args below meth c H locs cells slots Q (F0 m (pc + 3) ls (.ref (ad 19) :: rest))) : W p l e R s m args below meth c H locs cells slots Q (F0 m pc ls (.ref (ad 14) :: rest)) := va_get (D := D) (ci := 4) (C := RX4) (T := TX4) (N := 10) C.1 C.2.1 C.2.2.1 gLx4 C.2.2.2.1 C.2.2.2.2 hP.1 14 rfl rfl 6 (by decide) (C.2.2.1 _ hm) (fun _ h9 => h9) rfl hdg kk
theorem rwG_reader_draft_keys (C : gC D k p s m args c cc own) (hP : gWd D (rwW k ad) v f g H) (hm : Cond.fieldLink own idx "RouteWall$Laws" "keys" "I" ∈ gWs) (hdg : decode cc pc = .ok (.getfield idx, 3)) (kk : W p l e R s m args below meth c H locs cells slots Q (F0 m (pc + 3) ls (.int (iI (v 9)) :: rest))) : W p l e R s m args below meth c H locs cells slots Q (F0 m pc ls (.ref (ad 14) :: rest)) := va_get (D := D) (ci := 4) (C := RX4) (T := TX4) (N := 10) C.1 C.2.1 C.2.2.1 gLx4 C.2.2.2.1 C.2.2.2.2 hP.1 14 rfl rfl 7 (by decide) (C.2.2.1 _ hm) (fun _ h9 => h9) rfl hdg kk
theorem rwP_reader_draft_keys (C : gC D k p s m args c cc own) (hP : gWd D (rwW k ad) v f g H) (hD : rwD A k ad) (hS : va_S A H0 H locs) (hm : Cond.fieldLink own idx "RouteWall$Laws" "keys" "I" ∈ gWs) {x : Int} {v1 : gV} (hx : inR x) (hv : (rwW k ad) (va_up v 9 x) f g = (rwW k ad) v1 f g) (hv2 : va_up v 9 x = v1 ∨ gOk v1 f) (hdg : decode cc pc = .ok (.putfield idx, 3)) (kk : ∀ (H1 : Heap) (locs1 : List Loc), gWd D (rwW k ad) v1 f g H1 → va_S A H0 H1 locs1 → W p l e R s m args below meth c H1 locs1 cells slots Q (F0 m (pc + 3) ls rest)) : W p l e R s m args below meth c H locs cells slots Q (F0 m pc ls (.int (iI x) :: .ref (ad 14) :: rest)) := va_put (D := D) (ci := 4) (ty := .int) (C := RX4) (T := TX4) (N := 10) C.1 C.2.1 C.2.2.1 gLx4 tyX4 tyX4_ok nmX4 C.2.2.2.1 C.2.2.2.2 hP.1 (hD v f g) hS 14 rfl rfl 7 (by decide) (C.2.2.1 _ hm) (fun _ h9 => h9) rfl (by decide +kernel) rfl rfl (Nat.le_of_ble_eq_true rfl) hdg (fun H1 locs1 h1 _ h3 => kk H1 locs1 ⟨hv ▸ (show va_P D vwCl ((rwW k ad) (va_up v 9 x) f g) H1 from h1), hv2.elim (fun q => q ▸ gR_up hP.2 9 hx) id⟩ h3)
theorem rwG_reader_draft_back (C : gC D k p s m args c cc own) (hP : gWd D (rwW k ad) v f g H) (hm : Cond.fieldLink own idx "RouteWall$Laws" "back" "Z" ∈ gWs) (hdg : decode cc pc = .ok (.getfield idx, 3)) (kk : W p l e R s m args below meth c H locs cells slots Q (F0 m (pc + 3) ls (.int (iI (v 10)) :: rest))) : W p l e R s m args below meth c H locs cells slots Q (F0 m pc ls (.ref (ad 14) :: rest)) := va_get (D := D) (ci := 4) (C := RX4) (T := TX4) (N := 10) C.1 C.2.1 C.2.2.1 gLx4 C.2.2.2.1 C.2.2.2.2 hP.1 14 rfl rfl 8 (by decide) (C.2.2.1 _ hm) (fun _ h9 => h9) rfl hdg kk
theorem rwP_reader_draft_back (C : gC D k p s m args c cc own) (hP : gWd D (rwW k ad) v f g H) (hD : rwD A k ad) (hS : va_S A H0 H locs) (hm : Cond.fieldLink own idx "RouteWall$Laws" "back" "Z" ∈ gWs) {x : Int} {v1 : gV} (hx : inR x) (hb : x = 0 ∨ x = 1) (hv : (rwW k ad) (va_up v 10 x) f g = (rwW k ad) v1 f g) (hv2 : va_up v 10 x = v1 ∨ gOk v1 f) (hdg : decode cc pc = .ok (.putfield idx, 3)) (kk : ∀ (H1 : Heap) (locs1 : List Loc), gWd D (rwW k ad) v1 f g H1 → va_S A H0 H1 locs1 → W p l e R s m args below meth c H1 locs1 cells slots Q (F0 m (pc + 3) ls rest)) : W p l e R s m args below meth c H locs cells slots Q (F0 m pc ls (.int (iI x) :: .ref (ad 14) :: rest)) := va_put (D := D) (ci := 4) (ty := .boolean) (C := RX4) (T := TX4) (N := 10) C.1 C.2.1 C.2.2.1 gLx4 tyX4 tyX4_ok nmX4 C.2.2.2.1 C.2.2.2.2 hP.1 (hD v f g) hS 14 rfl rfl 8 (by decide) (C.2.2.1 _ hm) (fun _ h9 => h9) rfl (by decide +kernel) (by rcases hb with rfl | rfl <;> rfl) (by rcases hb with rfl | rfl <;> rfl) (Nat.le_of_ble_eq_true rfl) hdg (fun H1 locs1 h1 _ h3 => kk H1 locs1 ⟨hv ▸ (show va_P D vwCl ((rwW k ad) (va_up v 10 x) f g) H1 from h1), hv2.elim (fun q => q ▸ gR_up hP.2 10 hx) id⟩ h3)
theorem rwG_reader_draft_stack (C : gC D k p s m args c cc own) (hP : gWd D (rwW k ad) v f g H) (hm : Cond.fieldLink own idx "RouteWall$Laws" "stack" "[J" ∈ gWs) (hdg : decode cc pc = .ok (.getfield idx, 3)) (kk : W p l e R s m args below meth c H locs cells slots Q (F0 m (pc + 3) ls (.ref (ad 20) :: rest))) : W p l e R s m args below meth c H locs cells slots Q (F0 m pc ls (.ref (ad 14) :: rest)) := va_get (D := D) (ci := 4) (C := RX4) (T := TX4) (N := 10) C.1 C.2.1 C.2.2.1 gLx4 C.2.2.2.1 C.2.2.2.2 hP.1 14 rfl rfl 9 (by decide) (C.2.2.1 _ hm) (fun _ h9 => h9) rfl hdg kk
theorem rwL_reader_draft_shape (C : gC D k p s m args c cc own) (hP : gWd D (rwW k ad) v f g H) {i : Int} (h0 : 0 ≤ i) (h1 : i < 16) (hdg : decode cc pc = .ok (.iaload, 1)) (kk : W p l e R s m args below meth c H locs cells slots Q (F0 m (pc + 1) ls (.int (iI (f 9 i)) :: rest))) : W p l e R s m args below meth c H locs cells slots Q (F0 m pc ls (.int (iI i) :: .ref (ad 15) :: rest)) := g_iald C hP.1 15 rfl (by decide) h0 h1 hdg kk
theorem rwS_reader_draft_shape (C : gC D k p s m args c cc own) (hP : gWd D (rwW k ad) v f g H) (hD : rwD A k ad) (hS : va_S A H0 H locs) {i x : Int} {f1 : gF} (h0 : 0 ≤ i) (h1 : i < 16) (hx : inR x) (hv : (rwW k ad) v (va_up f 9 (u1 (f 9) i x)) g = (rwW k ad) v f1 g) (hv2 : va_up f 9 (u1 (f 9) i x) = f1 ∨ gOk v f1) (hdg : decode cc pc = .ok (.iastore, 1)) (kk : ∀ (H1 : Heap) (locs1 : List Loc), gWd D (rwW k ad) v f1 g H1 → va_S A H0 H1 locs1 → W p l e R s m args below meth c H1 locs1 cells slots Q (F0 m (pc + 1) ls rest)) : W p l e R s m args below meth c H locs cells slots Q (F0 m pc ls (.int (iI x) :: .int (iI i) :: .ref (ad 15) :: rest)) := g_iast C hP.1 (hD v f g) hS 15 rfl (by decide) h0 h1 (ws' := (rwW k ad) v f1 g) (by rw [← hv]; rfl) hdg (fun H1 locs1 h1 h3 => kk H1 locs1 ⟨h1, hv2.elim (fun q => q ▸ gF_up hP.2 9 (u1_rng (hP.2.2 9) hx)) id⟩ h3)
theorem rwN_reader_draft_shape (C : gC D k p s m args c cc own) (hP : gWd D (rwW k ad) v f g H) (hdg : decode cc pc = .ok (.arraylength, 1)) (kk : W p l e R s m args below meth c H locs cells slots Q (F0 m (pc + 1) ls (.int (iI 16) :: rest))) : W p l e R s m args below meth c H locs cells slots Q (F0 m pc ls (.ref (ad 15) :: rest)) := va_alen (D := D) C.1 C.2.1 C.2.2.2.2 hP.1 15 0 rfl rfl (v := iI 16) rfl hdg kk
theorem rwL_reader_draft_item (C : gC D k p s m args c cc own) (hP : gWd D (rwW k ad) v f g H) {i : Int} (h0 : 0 ≤ i) (h1 : i < 40) (hdg : decode cc pc = .ok (.iaload, 1)) (kk : W p l e R s m args below meth c H locs cells slots Q (F0 m (pc + 1) ls (.int (iI (f 10 i)) :: rest))) : W p l e R s m args below meth c H locs cells slots Q (F0 m pc ls (.int (iI i) :: .ref (ad 16) :: rest)) := g_iald C hP.1 16 rfl (by decide) h0 h1 hdg kk
theorem rwS_reader_draft_item (C : gC D k p s m args c cc own) (hP : gWd D (rwW k ad) v f g H) (hD : rwD A k ad) (hS : va_S A H0 H locs) {i x : Int} {f1 : gF} (h0 : 0 ≤ i) (h1 : i < 40) (hx : inR x) (hv : (rwW k ad) v (va_up f 10 (u1 (f 10) i x)) g = (rwW k ad) v f1 g) (hv2 : va_up f 10 (u1 (f 10) i x) = f1 ∨ gOk v f1) (hdg : decode cc pc = .ok (.iastore, 1)) (kk : ∀ (H1 : Heap) (locs1 : List Loc), gWd D (rwW k ad) v f1 g H1 → va_S A H0 H1 locs1 → W p l e R s m args below meth c H1 locs1 cells slots Q (F0 m (pc + 1) ls rest)) : W p l e R s m args below meth c H locs cells slots Q (F0 m pc ls (.int (iI x) :: .int (iI i) :: .ref (ad 16) :: rest)) := g_iast C hP.1 (hD v f g) hS 16 rfl (by decide) h0 h1 (ws' := (rwW k ad) v f1 g) (by rw [← hv]; rfl) hdg (fun H1 locs1 h1 h3 => kk H1 locs1 ⟨h1, hv2.elim (fun q => q ▸ gF_up hP.2 10 (u1_rng (hP.2.2 10) hx)) id⟩ h3)
theorem rwN_reader_draft_item (C : gC D k p s m args c cc own) (hP : gWd D (rwW k ad) v f g H) (hdg : decode cc pc = .ok (.arraylength, 1)) (kk : W p l e R s m args below meth c H locs cells slots Q (F0 m (pc + 1) ls (.int (iI 40) :: rest))) : W p l e R s m args below meth c H locs cells slots Q (F0 m pc ls (.ref (ad 16) :: rest)) := va_alen (D := D) C.1 C.2.1 C.2.2.2.2 hP.1 16 0 rfl rfl (v := iI 40) rfl hdg kk
theorem rwL_reader_draft_number (C : gC D k p s m args c cc own) (hP : gWd D (rwW k ad) v f g H) {i : Int} (h0 : 0 ≤ i) (h1 : i < 40) (hdg : decode cc pc = .ok (.iaload, 1)) (kk : W p l e R s m args below meth c H locs cells slots Q (F0 m (pc + 1) ls (.int (iI (f 11 i)) :: rest))) : W p l e R s m args below meth c H locs cells slots Q (F0 m pc ls (.int (iI i) :: .ref (ad 17) :: rest)) := g_iald C hP.1 17 rfl (by decide) h0 h1 hdg kk
theorem rwS_reader_draft_number (C : gC D k p s m args c cc own) (hP : gWd D (rwW k ad) v f g H) (hD : rwD A k ad) (hS : va_S A H0 H locs) {i x : Int} {f1 : gF} (h0 : 0 ≤ i) (h1 : i < 40) (hx : inR x) (hv : (rwW k ad) v (va_up f 11 (u1 (f 11) i x)) g = (rwW k ad) v f1 g) (hv2 : va_up f 11 (u1 (f 11) i x) = f1 ∨ gOk v f1) (hdg : decode cc pc = .ok (.iastore, 1)) (kk : ∀ (H1 : Heap) (locs1 : List Loc), gWd D (rwW k ad) v f1 g H1 → va_S A H0 H1 locs1 → W p l e R s m args below meth c H1 locs1 cells slots Q (F0 m (pc + 1) ls rest)) : W p l e R s m args below meth c H locs cells slots Q (F0 m pc ls (.int (iI x) :: .int (iI i) :: .ref (ad 17) :: rest)) := g_iast C hP.1 (hD v f g) hS 17 rfl (by decide) h0 h1 (ws' := (rwW k ad) v f1 g) (by rw [← hv]; rfl) hdg (fun H1 locs1 h1 h3 => kk H1 locs1 ⟨h1, hv2.elim (fun q => q ▸ gF_up hP.2 11 (u1_rng (hP.2.2 11) hx)) id⟩ h3)
theorem rwN_reader_draft_number (C : gC D k p s m args c cc own) (hP : gWd D (rwW k ad) v f g H) (hdg : decode cc pc = .ok (.arraylength, 1)) (kk : W p l e R s m args below meth c H locs cells slots Q (F0 m (pc + 1) ls (.int (iI 40) :: rest))) : W p l e R s m args below meth c H locs cells slots Q (F0 m pc ls (.ref (ad 17) :: rest)) := va_alen (D := D) C.1 C.2.1 C.2.2.2.2 hP.1 17 0 rfl rfl (v := iI 40) rfl hdg kk
theorem rwL_reader_draft_keyKind (C : gC D k p s m args c cc own) (hP : gWd D (rwW k ad) v f g H) {i : Int} (h0 : 0 ≤ i) (h1 : i < 4) (hdg : decode cc pc = .ok (.iaload, 1)) (kk : W p l e R s m args below meth c H locs cells slots Q (F0 m (pc + 1) ls (.int (iI (f 12 i)) :: rest))) : W p l e R s m args below meth c H locs cells slots Q (F0 m pc ls (.int (iI i) :: .ref (ad 18) :: rest)) := g_iald C hP.1 18 rfl (by decide) h0 h1 hdg kk
theorem rwS_reader_draft_keyKind (C : gC D k p s m args c cc own) (hP : gWd D (rwW k ad) v f g H) (hD : rwD A k ad) (hS : va_S A H0 H locs) {i x : Int} {f1 : gF} (h0 : 0 ≤ i) (h1 : i < 4) (hx : inR x) (hv : (rwW k ad) v (va_up f 12 (u1 (f 12) i x)) g = (rwW k ad) v f1 g) (hv2 : va_up f 12 (u1 (f 12) i x) = f1 ∨ gOk v f1) (hdg : decode cc pc = .ok (.iastore, 1)) (kk : ∀ (H1 : Heap) (locs1 : List Loc), gWd D (rwW k ad) v f1 g H1 → va_S A H0 H1 locs1 → W p l e R s m args below meth c H1 locs1 cells slots Q (F0 m (pc + 1) ls rest)) : W p l e R s m args below meth c H locs cells slots Q (F0 m pc ls (.int (iI x) :: .int (iI i) :: .ref (ad 18) :: rest)) := g_iast C hP.1 (hD v f g) hS 18 rfl (by decide) h0 h1 (ws' := (rwW k ad) v f1 g) (by rw [← hv]; rfl) hdg (fun H1 locs1 h1 h3 => kk H1 locs1 ⟨h1, hv2.elim (fun q => q ▸ gF_up hP.2 12 (u1_rng (hP.2.2 12) hx)) id⟩ h3)
theorem rwN_reader_draft_keyKind (C : gC D k p s m args c cc own) (hP : gWd D (rwW k ad) v f g H) (hdg : decode cc pc = .ok (.arraylength, 1)) (kk : W p l e R s m args below meth c H locs cells slots Q (F0 m (pc + 1) ls (.int (iI 4) :: rest))) : W p l e R s m args below meth c H locs cells slots Q (F0 m pc ls (.ref (ad 18) :: rest)) := va_alen (D := D) C.1 C.2.1 C.2.2.2.2 hP.1 18 0 rfl rfl (v := iI 4) rfl hdg kk
theorem rwL_reader_draft_keyDown (C : gC D k p s m args c cc own) (hP : gWd D (rwW k ad) v f g H) {i : Int} (h0 : 0 ≤ i) (h1 : i < 4) (hdg : decode cc pc = .ok (.iaload, 1)) (kk : W p l e R s m args below meth c H locs cells slots Q (F0 m (pc + 1) ls (.int (iI (f 13 i)) :: rest))) : W p l e R s m args below meth c H locs cells slots Q (F0 m pc ls (.int (iI i) :: .ref (ad 19) :: rest)) := g_iald C hP.1 19 rfl (by decide) h0 h1 hdg kk
theorem rwS_reader_draft_keyDown (C : gC D k p s m args c cc own) (hP : gWd D (rwW k ad) v f g H) (hD : rwD A k ad) (hS : va_S A H0 H locs) {i x : Int} {f1 : gF} (h0 : 0 ≤ i) (h1 : i < 4) (hx : inR x) (hv : (rwW k ad) v (va_up f 13 (u1 (f 13) i x)) g = (rwW k ad) v f1 g) (hv2 : va_up f 13 (u1 (f 13) i x) = f1 ∨ gOk v f1) (hdg : decode cc pc = .ok (.iastore, 1)) (kk : ∀ (H1 : Heap) (locs1 : List Loc), gWd D (rwW k ad) v f1 g H1 → va_S A H0 H1 locs1 → W p l e R s m args below meth c H1 locs1 cells slots Q (F0 m (pc + 1) ls rest)) : W p l e R s m args below meth c H locs cells slots Q (F0 m pc ls (.int (iI x) :: .int (iI i) :: .ref (ad 19) :: rest)) := g_iast C hP.1 (hD v f g) hS 19 rfl (by decide) h0 h1 (ws' := (rwW k ad) v f1 g) (by rw [← hv]; rfl) hdg (fun H1 locs1 h1 h3 => kk H1 locs1 ⟨h1, hv2.elim (fun q => q ▸ gF_up hP.2 13 (u1_rng (hP.2.2 13) hx)) id⟩ h3)
theorem rwN_reader_draft_keyDown (C : gC D k p s m args c cc own) (hP : gWd D (rwW k ad) v f g H) (hdg : decode cc pc = .ok (.arraylength, 1)) (kk : W p l e R s m args below meth c H locs cells slots Q (F0 m (pc + 1) ls (.int (iI 4) :: rest))) : W p l e R s m args below meth c H locs cells slots Q (F0 m pc ls (.ref (ad 19) :: rest)) := va_alen (D := D) C.1 C.2.1 C.2.2.2.2 hP.1 19 0 rfl rfl (v := iI 4) rfl hdg kk
theorem rwL_reader_draft_stack (C : gC D k p s m args c cc own) (hP : gWd D (rwW k ad) v f g H) {i : Int} (h0 : 0 ≤ i) (h1 : i < 40) (hdg : decode cc pc = .ok (.laload, 1)) (kk : W p l e R s m args below meth c H locs cells slots Q (F0 m (pc + 1) ls (.long (iL (g 1 i)) :: rest))) : W p l e R s m args below meth c H locs cells slots Q (F0 m pc ls (.int (iI i) :: .ref (ad 20) :: rest)) := g_lald C hP.1 20 rfl (by decide) h0 h1 hdg kk
theorem rwS_reader_draft_stack (C : gC D k p s m args c cc own) (hP : gWd D (rwW k ad) v f g H) (hD : rwD A k ad) (hS : va_S A H0 H locs) {i x : Int} {g1 : gF} (h0 : 0 ≤ i) (h1 : i < 40) (hv : (rwW k ad) v f (va_up g 1 (u1 (g 1) i x)) = (rwW k ad) v f g1) (hdg : decode cc pc = .ok (.lastore, 1)) (kk : ∀ (H1 : Heap) (locs1 : List Loc), gWd D (rwW k ad) v f g1 H1 → va_S A H0 H1 locs1 → W p l e R s m args below meth c H1 locs1 cells slots Q (F0 m (pc + 1) ls rest)) : W p l e R s m args below meth c H locs cells slots Q (F0 m pc ls (.long (iL x) :: .int (iI i) :: .ref (ad 20) :: rest)) := g_last C hP.1 (hD v f g) hS 20 rfl (by decide) h0 h1 (ws' := (rwW k ad) v f g1) (by rw [← hv]; rfl) hdg (fun H1 locs1 h1 h3 => kk H1 locs1 ⟨h1, hP.2⟩ h3)
theorem rwN_reader_draft_stack (C : gC D k p s m args c cc own) (hP : gWd D (rwW k ad) v f g H) (hdg : decode cc pc = .ok (.arraylength, 1)) (kk : W p l e R s m args below meth c H locs cells slots Q (F0 m (pc + 1) ls (.int (iI 40) :: rest))) : W p l e R s m args below meth c H locs cells slots Q (F0 m pc ls (.ref (ad 20) :: rest)) := va_alen (D := D) C.1 C.2.1 C.2.2.2.2 hP.1 20 1 rfl rfl (v := iI 40) rfl hdg kk
theorem rwG_reader_expression_waiting (C : gC D k p s m args c cc own) (hP : gWd D (rwW k ad) v f g H) (hm : Cond.fieldLink own idx "RouteWall$Expression" "waiting" "[I" ∈ gWs) (hdg : decode cc pc = .ok (.getfield idx, 3)) (kk : W p l e R s m args below meth c H locs cells slots Q (F0 m (pc + 3) ls (.ref (ad 22) :: rest))) : W p l e R s m args below meth c H locs cells slots Q (F0 m pc ls (.ref (ad 21) :: rest)) := va_get (D := D) (ci := 1) (C := RX1) (T := TX1) (N := 6) C.1 C.2.1 C.2.2.1 gLx1 C.2.2.2.1 C.2.2.2.2 hP.1 21 rfl rfl 0 (by decide) (C.2.2.1 _ hm) (fun _ h9 => h9) rfl hdg kk
theorem rwG_reader_expression_waits (C : gC D k p s m args c cc own) (hP : gWd D (rwW k ad) v f g H) (hm : Cond.fieldLink own idx "RouteWall$Expression" "waits" "I" ∈ gWs) (hdg : decode cc pc = .ok (.getfield idx, 3)) (kk : W p l e R s m args below meth c H locs cells slots Q (F0 m (pc + 3) ls (.int (iI (v 11)) :: rest))) : W p l e R s m args below meth c H locs cells slots Q (F0 m pc ls (.ref (ad 21) :: rest)) := va_get (D := D) (ci := 1) (C := RX1) (T := TX1) (N := 6) C.1 C.2.1 C.2.2.1 gLx1 C.2.2.2.1 C.2.2.2.2 hP.1 21 rfl rfl 1 (by decide) (C.2.2.1 _ hm) (fun _ h9 => h9) rfl hdg kk
theorem rwP_reader_expression_waits (C : gC D k p s m args c cc own) (hP : gWd D (rwW k ad) v f g H) (hD : rwD A k ad) (hS : va_S A H0 H locs) (hm : Cond.fieldLink own idx "RouteWall$Expression" "waits" "I" ∈ gWs) {x : Int} {v1 : gV} (hx : inR x) (hv : (rwW k ad) (va_up v 11 x) f g = (rwW k ad) v1 f g) (hv2 : va_up v 11 x = v1 ∨ gOk v1 f) (hdg : decode cc pc = .ok (.putfield idx, 3)) (kk : ∀ (H1 : Heap) (locs1 : List Loc), gWd D (rwW k ad) v1 f g H1 → va_S A H0 H1 locs1 → W p l e R s m args below meth c H1 locs1 cells slots Q (F0 m (pc + 3) ls rest)) : W p l e R s m args below meth c H locs cells slots Q (F0 m pc ls (.int (iI x) :: .ref (ad 21) :: rest)) := va_put (D := D) (ci := 1) (ty := .int) (C := RX1) (T := TX1) (N := 6) C.1 C.2.1 C.2.2.1 gLx1 tyX1 tyX1_ok nmX1 C.2.2.2.1 C.2.2.2.2 hP.1 (hD v f g) hS 21 rfl rfl 1 (by decide) (C.2.2.1 _ hm) (fun _ h9 => h9) rfl (by decide +kernel) rfl rfl (Nat.le_of_ble_eq_true rfl) hdg (fun H1 locs1 h1 _ h3 => kk H1 locs1 ⟨hv ▸ (show va_P D vwCl ((rwW k ad) (va_up v 11 x) f g) H1 from h1), hv2.elim (fun q => q ▸ gR_up hP.2 11 hx) id⟩ h3)
theorem rwG_reader_expression_nested (C : gC D k p s m args c cc own) (hP : gWd D (rwW k ad) v f g H) (hm : Cond.fieldLink own idx "RouteWall$Expression" "nested" "I" ∈ gWs) (hdg : decode cc pc = .ok (.getfield idx, 3)) (kk : W p l e R s m args below meth c H locs cells slots Q (F0 m (pc + 3) ls (.int (iI (v 12)) :: rest))) : W p l e R s m args below meth c H locs cells slots Q (F0 m pc ls (.ref (ad 21) :: rest)) := va_get (D := D) (ci := 1) (C := RX1) (T := TX1) (N := 6) C.1 C.2.1 C.2.2.1 gLx1 C.2.2.2.1 C.2.2.2.2 hP.1 21 rfl rfl 2 (by decide) (C.2.2.1 _ hm) (fun _ h9 => h9) rfl hdg kk
theorem rwP_reader_expression_nested (C : gC D k p s m args c cc own) (hP : gWd D (rwW k ad) v f g H) (hD : rwD A k ad) (hS : va_S A H0 H locs) (hm : Cond.fieldLink own idx "RouteWall$Expression" "nested" "I" ∈ gWs) {x : Int} {v1 : gV} (hx : inR x) (hv : (rwW k ad) (va_up v 12 x) f g = (rwW k ad) v1 f g) (hv2 : va_up v 12 x = v1 ∨ gOk v1 f) (hdg : decode cc pc = .ok (.putfield idx, 3)) (kk : ∀ (H1 : Heap) (locs1 : List Loc), gWd D (rwW k ad) v1 f g H1 → va_S A H0 H1 locs1 → W p l e R s m args below meth c H1 locs1 cells slots Q (F0 m (pc + 3) ls rest)) : W p l e R s m args below meth c H locs cells slots Q (F0 m pc ls (.int (iI x) :: .ref (ad 21) :: rest)) := va_put (D := D) (ci := 1) (ty := .int) (C := RX1) (T := TX1) (N := 6) C.1 C.2.1 C.2.2.1 gLx1 tyX1 tyX1_ok nmX1 C.2.2.2.1 C.2.2.2.2 hP.1 (hD v f g) hS 21 rfl rfl 2 (by decide) (C.2.2.1 _ hm) (fun _ h9 => h9) rfl (by decide +kernel) rfl rfl (Nat.le_of_ble_eq_true rfl) hdg (fun H1 locs1 h1 _ h3 => kk H1 locs1 ⟨hv ▸ (show va_P D vwCl ((rwW k ad) (va_up v 12 x) f g) H1 from h1), hv2.elim (fun q => q ▸ gR_up hP.2 12 hx) id⟩ h3)
theorem rwG_reader_expression_parens (C : gC D k p s m args c cc own) (hP : gWd D (rwW k ad) v f g H) (hm : Cond.fieldLink own idx "RouteWall$Expression" "parens" "I" ∈ gWs) (hdg : decode cc pc = .ok (.getfield idx, 3)) (kk : W p l e R s m args below meth c H locs cells slots Q (F0 m (pc + 3) ls (.int (iI (v 13)) :: rest))) : W p l e R s m args below meth c H locs cells slots Q (F0 m pc ls (.ref (ad 21) :: rest)) := va_get (D := D) (ci := 1) (C := RX1) (T := TX1) (N := 6) C.1 C.2.1 C.2.2.1 gLx1 C.2.2.2.1 C.2.2.2.2 hP.1 21 rfl rfl 3 (by decide) (C.2.2.1 _ hm) (fun _ h9 => h9) rfl hdg kk
theorem rwP_reader_expression_parens (C : gC D k p s m args c cc own) (hP : gWd D (rwW k ad) v f g H) (hD : rwD A k ad) (hS : va_S A H0 H locs) (hm : Cond.fieldLink own idx "RouteWall$Expression" "parens" "I" ∈ gWs) {x : Int} {v1 : gV} (hx : inR x) (hv : (rwW k ad) (va_up v 13 x) f g = (rwW k ad) v1 f g) (hv2 : va_up v 13 x = v1 ∨ gOk v1 f) (hdg : decode cc pc = .ok (.putfield idx, 3)) (kk : ∀ (H1 : Heap) (locs1 : List Loc), gWd D (rwW k ad) v1 f g H1 → va_S A H0 H1 locs1 → W p l e R s m args below meth c H1 locs1 cells slots Q (F0 m (pc + 3) ls rest)) : W p l e R s m args below meth c H locs cells slots Q (F0 m pc ls (.int (iI x) :: .ref (ad 21) :: rest)) := va_put (D := D) (ci := 1) (ty := .int) (C := RX1) (T := TX1) (N := 6) C.1 C.2.1 C.2.2.1 gLx1 tyX1 tyX1_ok nmX1 C.2.2.2.1 C.2.2.2.2 hP.1 (hD v f g) hS 21 rfl rfl 3 (by decide) (C.2.2.1 _ hm) (fun _ h9 => h9) rfl (by decide +kernel) rfl rfl (Nat.le_of_ble_eq_true rfl) hdg (fun H1 locs1 h1 _ h3 => kk H1 locs1 ⟨hv ▸ (show va_P D vwCl ((rwW k ad) (va_up v 13 x) f g) H1 from h1), hv2.elim (fun q => q ▸ gR_up hP.2 13 hx) id⟩ h3)
theorem rwG_reader_expression_items (C : gC D k p s m args c cc own) (hP : gWd D (rwW k ad) v f g H) (hm : Cond.fieldLink own idx "RouteWall$Expression" "items" "I" ∈ gWs) (hdg : decode cc pc = .ok (.getfield idx, 3)) (kk : W p l e R s m args below meth c H locs cells slots Q (F0 m (pc + 3) ls (.int (iI (v 14)) :: rest))) : W p l e R s m args below meth c H locs cells slots Q (F0 m pc ls (.ref (ad 21) :: rest)) := va_get (D := D) (ci := 1) (C := RX1) (T := TX1) (N := 6) C.1 C.2.1 C.2.2.1 gLx1 C.2.2.2.1 C.2.2.2.2 hP.1 21 rfl rfl 4 (by decide) (C.2.2.1 _ hm) (fun _ h9 => h9) rfl hdg kk
theorem rwP_reader_expression_items (C : gC D k p s m args c cc own) (hP : gWd D (rwW k ad) v f g H) (hD : rwD A k ad) (hS : va_S A H0 H locs) (hm : Cond.fieldLink own idx "RouteWall$Expression" "items" "I" ∈ gWs) {x : Int} {v1 : gV} (hx : inR x) (hv : (rwW k ad) (va_up v 14 x) f g = (rwW k ad) v1 f g) (hv2 : va_up v 14 x = v1 ∨ gOk v1 f) (hdg : decode cc pc = .ok (.putfield idx, 3)) (kk : ∀ (H1 : Heap) (locs1 : List Loc), gWd D (rwW k ad) v1 f g H1 → va_S A H0 H1 locs1 → W p l e R s m args below meth c H1 locs1 cells slots Q (F0 m (pc + 3) ls rest)) : W p l e R s m args below meth c H locs cells slots Q (F0 m pc ls (.int (iI x) :: .ref (ad 21) :: rest)) := va_put (D := D) (ci := 1) (ty := .int) (C := RX1) (T := TX1) (N := 6) C.1 C.2.1 C.2.2.1 gLx1 tyX1 tyX1_ok nmX1 C.2.2.2.1 C.2.2.2.2 hP.1 (hD v f g) hS 21 rfl rfl 4 (by decide) (C.2.2.1 _ hm) (fun _ h9 => h9) rfl (by decide +kernel) rfl rfl (Nat.le_of_ble_eq_true rfl) hdg (fun H1 locs1 h1 _ h3 => kk H1 locs1 ⟨hv ▸ (show va_P D vwCl ((rwW k ad) (va_up v 14 x) f g) H1 from h1), hv2.elim (fun q => q ▸ gR_up hP.2 14 hx) id⟩ h3)
theorem rwG_reader_expression_fault (C : gC D k p s m args c cc own) (hP : gWd D (rwW k ad) v f g H) (hm : Cond.fieldLink own idx "RouteWall$Expression" "fault" "I" ∈ gWs) (hdg : decode cc pc = .ok (.getfield idx, 3)) (kk : W p l e R s m args below meth c H locs cells slots Q (F0 m (pc + 3) ls (.int (iI (v 15)) :: rest))) : W p l e R s m args below meth c H locs cells slots Q (F0 m pc ls (.ref (ad 21) :: rest)) := va_get (D := D) (ci := 1) (C := RX1) (T := TX1) (N := 6) C.1 C.2.1 C.2.2.1 gLx1 C.2.2.2.1 C.2.2.2.2 hP.1 21 rfl rfl 5 (by decide) (C.2.2.1 _ hm) (fun _ h9 => h9) rfl hdg kk
theorem rwP_reader_expression_fault (C : gC D k p s m args c cc own) (hP : gWd D (rwW k ad) v f g H) (hD : rwD A k ad) (hS : va_S A H0 H locs) (hm : Cond.fieldLink own idx "RouteWall$Expression" "fault" "I" ∈ gWs) {x : Int} {v1 : gV} (hx : inR x) (hv : (rwW k ad) (va_up v 15 x) f g = (rwW k ad) v1 f g) (hv2 : va_up v 15 x = v1 ∨ gOk v1 f) (hdg : decode cc pc = .ok (.putfield idx, 3)) (kk : ∀ (H1 : Heap) (locs1 : List Loc), gWd D (rwW k ad) v1 f g H1 → va_S A H0 H1 locs1 → W p l e R s m args below meth c H1 locs1 cells slots Q (F0 m (pc + 3) ls rest)) : W p l e R s m args below meth c H locs cells slots Q (F0 m pc ls (.int (iI x) :: .ref (ad 21) :: rest)) := va_put (D := D) (ci := 1) (ty := .int) (C := RX1) (T := TX1) (N := 6) C.1 C.2.1 C.2.2.1 gLx1 tyX1 tyX1_ok nmX1 C.2.2.2.1 C.2.2.2.2 hP.1 (hD v f g) hS 21 rfl rfl 5 (by decide) (C.2.2.1 _ hm) (fun _ h9 => h9) rfl (by decide +kernel) rfl rfl (Nat.le_of_ble_eq_true rfl) hdg (fun H1 locs1 h1 _ h3 => kk H1 locs1 ⟨hv ▸ (show va_P D vwCl ((rwW k ad) (va_up v 15 x) f g) H1 from h1), hv2.elim (fun q => q ▸ gR_up hP.2 15 hx) id⟩ h3)
theorem rwL_reader_expression_waiting (C : gC D k p s m args c cc own) (hP : gWd D (rwW k ad) v f g H) {i : Int} (h0 : 0 ≤ i) (h1 : i < 27) (hdg : decode cc pc = .ok (.iaload, 1)) (kk : W p l e R s m args below meth c H locs cells slots Q (F0 m (pc + 1) ls (.int (iI (f 14 i)) :: rest))) : W p l e R s m args below meth c H locs cells slots Q (F0 m pc ls (.int (iI i) :: .ref (ad 22) :: rest)) := g_iald C hP.1 22 rfl (by decide) h0 h1 hdg kk
theorem rwS_reader_expression_waiting (C : gC D k p s m args c cc own) (hP : gWd D (rwW k ad) v f g H) (hD : rwD A k ad) (hS : va_S A H0 H locs) {i x : Int} {f1 : gF} (h0 : 0 ≤ i) (h1 : i < 27) (hx : inR x) (hv : (rwW k ad) v (va_up f 14 (u1 (f 14) i x)) g = (rwW k ad) v f1 g) (hv2 : va_up f 14 (u1 (f 14) i x) = f1 ∨ gOk v f1) (hdg : decode cc pc = .ok (.iastore, 1)) (kk : ∀ (H1 : Heap) (locs1 : List Loc), gWd D (rwW k ad) v f1 g H1 → va_S A H0 H1 locs1 → W p l e R s m args below meth c H1 locs1 cells slots Q (F0 m (pc + 1) ls rest)) : W p l e R s m args below meth c H locs cells slots Q (F0 m pc ls (.int (iI x) :: .int (iI i) :: .ref (ad 22) :: rest)) := g_iast C hP.1 (hD v f g) hS 22 rfl (by decide) h0 h1 (ws' := (rwW k ad) v f1 g) (by rw [← hv]; rfl) hdg (fun H1 locs1 h1 h3 => kk H1 locs1 ⟨h1, hv2.elim (fun q => q ▸ gF_up hP.2 14 (u1_rng (hP.2.2 14) hx)) id⟩ h3)
theorem rwN_reader_expression_waiting (C : gC D k p s m args c cc own) (hP : gWd D (rwW k ad) v f g H) (hdg : decode cc pc = .ok (.arraylength, 1)) (kk : W p l e R s m args below meth c H locs cells slots Q (F0 m (pc + 1) ls (.int (iI 27) :: rest))) : W p l e R s m args below meth c H locs cells slots Q (F0 m pc ls (.ref (ad 22) :: rest)) := va_alen (D := D) C.1 C.2.1 C.2.2.2.2 hP.1 22 0 rfl rfl (v := iI 27) rfl hdg kk
theorem rwG_wall_holds (C : gC D k p s m args c cc own) (hP : gWd D (rwW k ad) v f g H) (hm : Cond.fieldLink own idx "RouteWall$Wall" "holds" "[I" ∈ gWs) (hdg : decode cc pc = .ok (.getfield idx, 3)) (kk : W p l e R s m args below meth c H locs cells slots Q (F0 m (pc + 3) ls (.ref (ad 24) :: rest))) : W p l e R s m args below meth c H locs cells slots Q (F0 m pc ls (.ref (ad 23) :: rest)) := va_get (D := D) (ci := 8) (C := RX8) (T := TX8) (N := 3) C.1 C.2.1 C.2.2.1 gLx8 C.2.2.2.1 C.2.2.2.2 hP.1 23 rfl rfl 0 (by decide) (C.2.2.1 _ hm) (fun _ h9 => h9) rfl hdg kk
theorem rwG_wall_begun (C : gC D k p s m args c cc own) (hP : gWd D (rwW k ad) v f g H) (hm : Cond.fieldLink own idx "RouteWall$Wall" "begun" "[I" ∈ gWs) (hdg : decode cc pc = .ok (.getfield idx, 3)) (kk : W p l e R s m args below meth c H locs cells slots Q (F0 m (pc + 3) ls (.ref (ad 25) :: rest))) : W p l e R s m args below meth c H locs cells slots Q (F0 m pc ls (.ref (ad 23) :: rest)) := va_get (D := D) (ci := 8) (C := RX8) (T := TX8) (N := 3) C.1 C.2.1 C.2.2.1 gLx8 C.2.2.2.1 C.2.2.2.2 hP.1 23 rfl rfl 1 (by decide) (C.2.2.1 _ hm) (fun _ h9 => h9) rfl hdg kk
theorem rwG_wall_zones (C : gC D k p s m args c cc own) (hP : gWd D (rwW k ad) v f g H) (hm : Cond.fieldLink own idx "RouteWall$Wall" "zones" "[I" ∈ gWs) (hdg : decode cc pc = .ok (.getfield idx, 3)) (kk : W p l e R s m args below meth c H locs cells slots Q (F0 m (pc + 3) ls (.ref (ad 26) :: rest))) : W p l e R s m args below meth c H locs cells slots Q (F0 m pc ls (.ref (ad 23) :: rest)) := va_get (D := D) (ci := 8) (C := RX8) (T := TX8) (N := 3) C.1 C.2.1 C.2.2.1 gLx8 C.2.2.2.1 C.2.2.2.2 hP.1 23 rfl rfl 2 (by decide) (C.2.2.1 _ hm) (fun _ h9 => h9) rfl hdg kk
theorem rwL_wall_holds (C : gC D k p s m args c cc own) (hP : gWd D (rwW k ad) v f g H) {i : Int} (h0 : 0 ≤ i) (h1 : i < 20) (hdg : decode cc pc = .ok (.iaload, 1)) (kk : W p l e R s m args below meth c H locs cells slots Q (F0 m (pc + 1) ls (.int (iI (f 15 i)) :: rest))) : W p l e R s m args below meth c H locs cells slots Q (F0 m pc ls (.int (iI i) :: .ref (ad 24) :: rest)) := g_iald C hP.1 24 rfl (by decide) h0 h1 hdg kk
theorem rwS_wall_holds (C : gC D k p s m args c cc own) (hP : gWd D (rwW k ad) v f g H) (hD : rwD A k ad) (hS : va_S A H0 H locs) {i x : Int} {f1 : gF} (h0 : 0 ≤ i) (h1 : i < 20) (hx : inR x) (hv : (rwW k ad) v (va_up f 15 (u1 (f 15) i x)) g = (rwW k ad) v f1 g) (hv2 : va_up f 15 (u1 (f 15) i x) = f1 ∨ gOk v f1) (hdg : decode cc pc = .ok (.iastore, 1)) (kk : ∀ (H1 : Heap) (locs1 : List Loc), gWd D (rwW k ad) v f1 g H1 → va_S A H0 H1 locs1 → W p l e R s m args below meth c H1 locs1 cells slots Q (F0 m (pc + 1) ls rest)) : W p l e R s m args below meth c H locs cells slots Q (F0 m pc ls (.int (iI x) :: .int (iI i) :: .ref (ad 24) :: rest)) := g_iast C hP.1 (hD v f g) hS 24 rfl (by decide) h0 h1 (ws' := (rwW k ad) v f1 g) (by rw [← hv]; rfl) hdg (fun H1 locs1 h1 h3 => kk H1 locs1 ⟨h1, hv2.elim (fun q => q ▸ gF_up hP.2 15 (u1_rng (hP.2.2 15) hx)) id⟩ h3)
theorem rwN_wall_holds (C : gC D k p s m args c cc own) (hP : gWd D (rwW k ad) v f g H) (hdg : decode cc pc = .ok (.arraylength, 1)) (kk : W p l e R s m args below meth c H locs cells slots Q (F0 m (pc + 1) ls (.int (iI 20) :: rest))) : W p l e R s m args below meth c H locs cells slots Q (F0 m pc ls (.ref (ad 24) :: rest)) := va_alen (D := D) C.1 C.2.1 C.2.2.2.2 hP.1 24 0 rfl rfl (v := iI 20) rfl hdg kk
theorem rwL_wall_begun (C : gC D k p s m args c cc own) (hP : gWd D (rwW k ad) v f g H) {i : Int} (h0 : 0 ≤ i) (h1 : i < 20) (hdg : decode cc pc = .ok (.iaload, 1)) (kk : W p l e R s m args below meth c H locs cells slots Q (F0 m (pc + 1) ls (.int (iI (f 16 i)) :: rest))) : W p l e R s m args below meth c H locs cells slots Q (F0 m pc ls (.int (iI i) :: .ref (ad 25) :: rest)) := g_iald C hP.1 25 rfl (by decide) h0 h1 hdg kk
theorem rwS_wall_begun (C : gC D k p s m args c cc own) (hP : gWd D (rwW k ad) v f g H) (hD : rwD A k ad) (hS : va_S A H0 H locs) {i x : Int} {f1 : gF} (h0 : 0 ≤ i) (h1 : i < 20) (hx : inR x) (hv : (rwW k ad) v (va_up f 16 (u1 (f 16) i x)) g = (rwW k ad) v f1 g) (hv2 : va_up f 16 (u1 (f 16) i x) = f1 ∨ gOk v f1) (hdg : decode cc pc = .ok (.iastore, 1)) (kk : ∀ (H1 : Heap) (locs1 : List Loc), gWd D (rwW k ad) v f1 g H1 → va_S A H0 H1 locs1 → W p l e R s m args below meth c H1 locs1 cells slots Q (F0 m (pc + 1) ls rest)) : W p l e R s m args below meth c H locs cells slots Q (F0 m pc ls (.int (iI x) :: .int (iI i) :: .ref (ad 25) :: rest)) := g_iast C hP.1 (hD v f g) hS 25 rfl (by decide) h0 h1 (ws' := (rwW k ad) v f1 g) (by rw [← hv]; rfl) hdg (fun H1 locs1 h1 h3 => kk H1 locs1 ⟨h1, hv2.elim (fun q => q ▸ gF_up hP.2 16 (u1_rng (hP.2.2 16) hx)) id⟩ h3)
theorem rwN_wall_begun (C : gC D k p s m args c cc own) (hP : gWd D (rwW k ad) v f g H) (hdg : decode cc pc = .ok (.arraylength, 1)) (kk : W p l e R s m args below meth c H locs cells slots Q (F0 m (pc + 1) ls (.int (iI 20) :: rest))) : W p l e R s m args below meth c H locs cells slots Q (F0 m pc ls (.ref (ad 25) :: rest)) := va_alen (D := D) C.1 C.2.1 C.2.2.2.2 hP.1 25 0 rfl rfl (v := iI 20) rfl hdg kk
theorem rwL_wall_zones (C : gC D k p s m args c cc own) (hP : gWd D (rwW k ad) v f g H) {i : Int} (h0 : 0 ≤ i) (h1 : i < 60) (hdg : decode cc pc = .ok (.iaload, 1)) (kk : W p l e R s m args below meth c H locs cells slots Q (F0 m (pc + 1) ls (.int (iI (f 17 i)) :: rest))) : W p l e R s m args below meth c H locs cells slots Q (F0 m pc ls (.int (iI i) :: .ref (ad 26) :: rest)) := g_iald C hP.1 26 rfl (by decide) h0 h1 hdg kk
theorem rwS_wall_zones (C : gC D k p s m args c cc own) (hP : gWd D (rwW k ad) v f g H) (hD : rwD A k ad) (hS : va_S A H0 H locs) {i x : Int} {f1 : gF} (h0 : 0 ≤ i) (h1 : i < 60) (hx : inR x) (hv : (rwW k ad) v (va_up f 17 (u1 (f 17) i x)) g = (rwW k ad) v f1 g) (hv2 : va_up f 17 (u1 (f 17) i x) = f1 ∨ gOk v f1) (hdg : decode cc pc = .ok (.iastore, 1)) (kk : ∀ (H1 : Heap) (locs1 : List Loc), gWd D (rwW k ad) v f1 g H1 → va_S A H0 H1 locs1 → W p l e R s m args below meth c H1 locs1 cells slots Q (F0 m (pc + 1) ls rest)) : W p l e R s m args below meth c H locs cells slots Q (F0 m pc ls (.int (iI x) :: .int (iI i) :: .ref (ad 26) :: rest)) := g_iast C hP.1 (hD v f g) hS 26 rfl (by decide) h0 h1 (ws' := (rwW k ad) v f1 g) (by rw [← hv]; rfl) hdg (fun H1 locs1 h1 h3 => kk H1 locs1 ⟨h1, hv2.elim (fun q => q ▸ gF_up hP.2 17 (u1_rng (hP.2.2 17) hx)) id⟩ h3)
theorem rwN_wall_zones (C : gC D k p s m args c cc own) (hP : gWd D (rwW k ad) v f g H) (hdg : decode cc pc = .ok (.arraylength, 1)) (kk : W p l e R s m args below meth c H locs cells slots Q (F0 m (pc + 1) ls (.int (iI 60) :: rest))) : W p l e R s m args below meth c H locs cells slots Q (F0 m pc ls (.ref (ad 26) :: rest)) := va_alen (D := D) C.1 C.2.1 C.2.2.2.2 hP.1 26 0 rfl rfl (v := iI 60) rfl hdg kk
theorem rwG_field_climbers (C : gC D k p s m args c cc own) (hP : gWd D (rwW k ad) v f g H) (hm : Cond.fieldLink own idx "RouteWall$Field" "climbers" "I" ∈ gWs) (hdg : decode cc pc = .ok (.getfield idx, 3)) (kk : W p l e R s m args below meth c H locs cells slots Q (F0 m (pc + 3) ls (.int (iI (v 21)) :: rest))) : W p l e R s m args below meth c H locs cells slots Q (F0 m pc ls (.ref (ad 27) :: rest)) := va_get (D := D) (ci := 2) (C := RX2) (T := TX2) (N := 4) C.1 C.2.1 C.2.2.1 gLx2 C.2.2.2.1 C.2.2.2.2 hP.1 27 rfl rfl 0 (by decide) (C.2.2.1 _ hm) (fun _ h9 => h9) rfl hdg kk
theorem rwP_field_climbers (C : gC D k p s m args c cc own) (hP : gWd D (rwW k ad) v f g H) (hD : rwD A k ad) (hS : va_S A H0 H locs) (hm : Cond.fieldLink own idx "RouteWall$Field" "climbers" "I" ∈ gWs) {x : Int} {v1 : gV} (hx : inR x) (hv : (rwW k ad) (va_up v 21 x) f g = (rwW k ad) v1 f g) (hv2 : va_up v 21 x = v1 ∨ gOk v1 f) (hdg : decode cc pc = .ok (.putfield idx, 3)) (kk : ∀ (H1 : Heap) (locs1 : List Loc), gWd D (rwW k ad) v1 f g H1 → va_S A H0 H1 locs1 → W p l e R s m args below meth c H1 locs1 cells slots Q (F0 m (pc + 3) ls rest)) : W p l e R s m args below meth c H locs cells slots Q (F0 m pc ls (.int (iI x) :: .ref (ad 27) :: rest)) := va_put (D := D) (ci := 2) (ty := .int) (C := RX2) (T := TX2) (N := 4) C.1 C.2.1 C.2.2.1 gLx2 tyX2 tyX2_ok nmX2 C.2.2.2.1 C.2.2.2.2 hP.1 (hD v f g) hS 27 rfl rfl 0 (by decide) (C.2.2.1 _ hm) (fun _ h9 => h9) rfl (by decide +kernel) rfl rfl (Nat.le_of_ble_eq_true rfl) hdg (fun H1 locs1 h1 _ h3 => kk H1 locs1 ⟨hv ▸ (show va_P D vwCl ((rwW k ad) (va_up v 21 x) f g) H1 from h1), hv2.elim (fun q => q ▸ gR_up hP.2 21 hx) id⟩ h3)
theorem rwG_field_open (C : gC D k p s m args c cc own) (hP : gWd D (rwW k ad) v f g H) (hm : Cond.fieldLink own idx "RouteWall$Field" "open" "I" ∈ gWs) (hdg : decode cc pc = .ok (.getfield idx, 3)) (kk : W p l e R s m args below meth c H locs cells slots Q (F0 m (pc + 3) ls (.int (iI (v 22)) :: rest))) : W p l e R s m args below meth c H locs cells slots Q (F0 m pc ls (.ref (ad 27) :: rest)) := va_get (D := D) (ci := 2) (C := RX2) (T := TX2) (N := 4) C.1 C.2.1 C.2.2.1 gLx2 C.2.2.2.1 C.2.2.2.2 hP.1 27 rfl rfl 1 (by decide) (C.2.2.1 _ hm) (fun _ h9 => h9) rfl hdg kk
theorem rwP_field_open (C : gC D k p s m args c cc own) (hP : gWd D (rwW k ad) v f g H) (hD : rwD A k ad) (hS : va_S A H0 H locs) (hm : Cond.fieldLink own idx "RouteWall$Field" "open" "I" ∈ gWs) {x : Int} {v1 : gV} (hx : inR x) (hv : (rwW k ad) (va_up v 22 x) f g = (rwW k ad) v1 f g) (hv2 : va_up v 22 x = v1 ∨ gOk v1 f) (hdg : decode cc pc = .ok (.putfield idx, 3)) (kk : ∀ (H1 : Heap) (locs1 : List Loc), gWd D (rwW k ad) v1 f g H1 → va_S A H0 H1 locs1 → W p l e R s m args below meth c H1 locs1 cells slots Q (F0 m (pc + 3) ls rest)) : W p l e R s m args below meth c H locs cells slots Q (F0 m pc ls (.int (iI x) :: .ref (ad 27) :: rest)) := va_put (D := D) (ci := 2) (ty := .int) (C := RX2) (T := TX2) (N := 4) C.1 C.2.1 C.2.2.1 gLx2 tyX2 tyX2_ok nmX2 C.2.2.2.1 C.2.2.2.2 hP.1 (hD v f g) hS 27 rfl rfl 1 (by decide) (C.2.2.1 _ hm) (fun _ h9 => h9) rfl (by decide +kernel) rfl rfl (Nat.le_of_ble_eq_true rfl) hdg (fun H1 locs1 h1 _ h3 => kk H1 locs1 ⟨hv ▸ (show va_P D vwCl ((rwW k ad) (va_up v 22 x) f g) H1 from h1), hv2.elim (fun q => q ▸ gR_up hP.2 22 hx) id⟩ h3)
theorem rwG_field_latest (C : gC D k p s m args c cc own) (hP : gWd D (rwW k ad) v f g H) (hm : Cond.fieldLink own idx "RouteWall$Field" "latest" "[I" ∈ gWs) (hdg : decode cc pc = .ok (.getfield idx, 3)) (kk : W p l e R s m args below meth c H locs cells slots Q (F0 m (pc + 3) ls (.ref (ad 28) :: rest))) : W p l e R s m args below meth c H locs cells slots Q (F0 m pc ls (.ref (ad 27) :: rest)) := va_get (D := D) (ci := 2) (C := RX2) (T := TX2) (N := 4) C.1 C.2.1 C.2.2.1 gLx2 C.2.2.2.1 C.2.2.2.2 hP.1 27 rfl rfl 2 (by decide) (C.2.2.1 _ hm) (fun _ h9 => h9) rfl hdg kk
theorem rwG_field_cutDay (C : gC D k p s m args c cc own) (hP : gWd D (rwW k ad) v f g H) (hm : Cond.fieldLink own idx "RouteWall$Field" "cutDay" "[I" ∈ gWs) (hdg : decode cc pc = .ok (.getfield idx, 3)) (kk : W p l e R s m args below meth c H locs cells slots Q (F0 m (pc + 3) ls (.ref (ad 29) :: rest))) : W p l e R s m args below meth c H locs cells slots Q (F0 m pc ls (.ref (ad 27) :: rest)) := va_get (D := D) (ci := 2) (C := RX2) (T := TX2) (N := 4) C.1 C.2.1 C.2.2.1 gLx2 C.2.2.2.1 C.2.2.2.2 hP.1 27 rfl rfl 3 (by decide) (C.2.2.1 _ hm) (fun _ h9 => h9) rfl hdg kk
theorem rwL_field_latest (C : gC D k p s m args c cc own) (hP : gWd D (rwW k ad) v f g H) {i : Int} (h0 : 0 ≤ i) (h1 : i < 16) (hdg : decode cc pc = .ok (.iaload, 1)) (kk : W p l e R s m args below meth c H locs cells slots Q (F0 m (pc + 1) ls (.int (iI (f 18 i)) :: rest))) : W p l e R s m args below meth c H locs cells slots Q (F0 m pc ls (.int (iI i) :: .ref (ad 28) :: rest)) := g_iald C hP.1 28 rfl (by decide) h0 h1 hdg kk
theorem rwS_field_latest (C : gC D k p s m args c cc own) (hP : gWd D (rwW k ad) v f g H) (hD : rwD A k ad) (hS : va_S A H0 H locs) {i x : Int} {f1 : gF} (h0 : 0 ≤ i) (h1 : i < 16) (hx : inR x) (hv : (rwW k ad) v (va_up f 18 (u1 (f 18) i x)) g = (rwW k ad) v f1 g) (hv2 : va_up f 18 (u1 (f 18) i x) = f1 ∨ gOk v f1) (hdg : decode cc pc = .ok (.iastore, 1)) (kk : ∀ (H1 : Heap) (locs1 : List Loc), gWd D (rwW k ad) v f1 g H1 → va_S A H0 H1 locs1 → W p l e R s m args below meth c H1 locs1 cells slots Q (F0 m (pc + 1) ls rest)) : W p l e R s m args below meth c H locs cells slots Q (F0 m pc ls (.int (iI x) :: .int (iI i) :: .ref (ad 28) :: rest)) := g_iast C hP.1 (hD v f g) hS 28 rfl (by decide) h0 h1 (ws' := (rwW k ad) v f1 g) (by rw [← hv]; rfl) hdg (fun H1 locs1 h1 h3 => kk H1 locs1 ⟨h1, hv2.elim (fun q => q ▸ gF_up hP.2 18 (u1_rng (hP.2.2 18) hx)) id⟩ h3)
theorem rwN_field_latest (C : gC D k p s m args c cc own) (hP : gWd D (rwW k ad) v f g H) (hdg : decode cc pc = .ok (.arraylength, 1)) (kk : W p l e R s m args below meth c H locs cells slots Q (F0 m (pc + 1) ls (.int (iI 16) :: rest))) : W p l e R s m args below meth c H locs cells slots Q (F0 m pc ls (.ref (ad 28) :: rest)) := va_alen (D := D) C.1 C.2.1 C.2.2.2.2 hP.1 28 0 rfl rfl (v := iI 16) rfl hdg kk
theorem rwL_field_cutDay (C : gC D k p s m args c cc own) (hP : gWd D (rwW k ad) v f g H) {i : Int} (h0 : 0 ≤ i) (h1 : i < 4) (hdg : decode cc pc = .ok (.iaload, 1)) (kk : W p l e R s m args below meth c H locs cells slots Q (F0 m (pc + 1) ls (.int (iI (f 19 i)) :: rest))) : W p l e R s m args below meth c H locs cells slots Q (F0 m pc ls (.int (iI i) :: .ref (ad 29) :: rest)) := g_iald C hP.1 29 rfl (by decide) h0 h1 hdg kk
theorem rwS_field_cutDay (C : gC D k p s m args c cc own) (hP : gWd D (rwW k ad) v f g H) (hD : rwD A k ad) (hS : va_S A H0 H locs) {i x : Int} {f1 : gF} (h0 : 0 ≤ i) (h1 : i < 4) (hx : inR x) (hv : (rwW k ad) v (va_up f 19 (u1 (f 19) i x)) g = (rwW k ad) v f1 g) (hv2 : va_up f 19 (u1 (f 19) i x) = f1 ∨ gOk v f1) (hdg : decode cc pc = .ok (.iastore, 1)) (kk : ∀ (H1 : Heap) (locs1 : List Loc), gWd D (rwW k ad) v f1 g H1 → va_S A H0 H1 locs1 → W p l e R s m args below meth c H1 locs1 cells slots Q (F0 m (pc + 1) ls rest)) : W p l e R s m args below meth c H locs cells slots Q (F0 m pc ls (.int (iI x) :: .int (iI i) :: .ref (ad 29) :: rest)) := g_iast C hP.1 (hD v f g) hS 29 rfl (by decide) h0 h1 (ws' := (rwW k ad) v f1 g) (by rw [← hv]; rfl) hdg (fun H1 locs1 h1 h3 => kk H1 locs1 ⟨h1, hv2.elim (fun q => q ▸ gF_up hP.2 19 (u1_rng (hP.2.2 19) hx)) id⟩ h3)
theorem rwN_field_cutDay (C : gC D k p s m args c cc own) (hP : gWd D (rwW k ad) v f g H) (hdg : decode cc pc = .ok (.arraylength, 1)) (kk : W p l e R s m args below meth c H locs cells slots Q (F0 m (pc + 1) ls (.int (iI 4) :: rest))) : W p l e R s m args below meth c H locs cells slots Q (F0 m pc ls (.ref (ad 29) :: rest)) := va_alen (D := D) C.1 C.2.1 C.2.2.2.2 hP.1 29 0 rfl rfl (v := iI 4) rfl hdg kk
theorem rwG_tries_many (C : gC D k p s m args c cc own) (hP : gWd D (rwW k ad) v f g H) (hm : Cond.fieldLink own idx "RouteWall$Tries" "many" "I" ∈ gWs) (hdg : decode cc pc = .ok (.getfield idx, 3)) (kk : W p l e R s m args below meth c H locs cells slots Q (F0 m (pc + 3) ls (.int (iI (v 23)) :: rest))) : W p l e R s m args below meth c H locs cells slots Q (F0 m pc ls (.ref (ad 30) :: rest)) := va_get (D := D) (ci := 7) (C := RX7) (T := TX7) (N := 9) C.1 C.2.1 C.2.2.1 gLx7 C.2.2.2.1 C.2.2.2.2 hP.1 30 rfl rfl 0 (by decide) (C.2.2.1 _ hm) (fun _ h9 => h9) rfl hdg kk
theorem rwP_tries_many (C : gC D k p s m args c cc own) (hP : gWd D (rwW k ad) v f g H) (hD : rwD A k ad) (hS : va_S A H0 H locs) (hm : Cond.fieldLink own idx "RouteWall$Tries" "many" "I" ∈ gWs) {x : Int} {v1 : gV} (hx : inR x) (hv : (rwW k ad) (va_up v 23 x) f g = (rwW k ad) v1 f g) (hv2 : va_up v 23 x = v1 ∨ gOk v1 f) (hdg : decode cc pc = .ok (.putfield idx, 3)) (kk : ∀ (H1 : Heap) (locs1 : List Loc), gWd D (rwW k ad) v1 f g H1 → va_S A H0 H1 locs1 → W p l e R s m args below meth c H1 locs1 cells slots Q (F0 m (pc + 3) ls rest)) : W p l e R s m args below meth c H locs cells slots Q (F0 m pc ls (.int (iI x) :: .ref (ad 30) :: rest)) := va_put (D := D) (ci := 7) (ty := .int) (C := RX7) (T := TX7) (N := 9) C.1 C.2.1 C.2.2.1 gLx7 tyX7 tyX7_ok nmX7 C.2.2.2.1 C.2.2.2.2 hP.1 (hD v f g) hS 30 rfl rfl 0 (by decide) (C.2.2.1 _ hm) (fun _ h9 => h9) rfl (by decide +kernel) rfl rfl (Nat.le_of_ble_eq_true rfl) hdg (fun H1 locs1 h1 _ h3 => kk H1 locs1 ⟨hv ▸ (show va_P D vwCl ((rwW k ad) (va_up v 23 x) f g) H1 from h1), hv2.elim (fun q => q ▸ gR_up hP.2 23 hx) id⟩ h3)
theorem rwG_tries_climber (C : gC D k p s m args c cc own) (hP : gWd D (rwW k ad) v f g H) (hm : Cond.fieldLink own idx "RouteWall$Tries" "climber" "[I" ∈ gWs) (hdg : decode cc pc = .ok (.getfield idx, 3)) (kk : W p l e R s m args below meth c H locs cells slots Q (F0 m (pc + 3) ls (.ref (ad 31) :: rest))) : W p l e R s m args below meth c H locs cells slots Q (F0 m pc ls (.ref (ad 30) :: rest)) := va_get (D := D) (ci := 7) (C := RX7) (T := TX7) (N := 9) C.1 C.2.1 C.2.2.1 gLx7 C.2.2.2.1 C.2.2.2.2 hP.1 30 rfl rfl 1 (by decide) (C.2.2.1 _ hm) (fun _ h9 => h9) rfl hdg kk
theorem rwG_tries_round (C : gC D k p s m args c cc own) (hP : gWd D (rwW k ad) v f g H) (hm : Cond.fieldLink own idx "RouteWall$Tries" "round" "[I" ∈ gWs) (hdg : decode cc pc = .ok (.getfield idx, 3)) (kk : W p l e R s m args below meth c H locs cells slots Q (F0 m (pc + 3) ls (.ref (ad 32) :: rest))) : W p l e R s m args below meth c H locs cells slots Q (F0 m pc ls (.ref (ad 30) :: rest)) := va_get (D := D) (ci := 7) (C := RX7) (T := TX7) (N := 9) C.1 C.2.1 C.2.2.1 gLx7 C.2.2.2.1 C.2.2.2.2 hP.1 30 rfl rfl 2 (by decide) (C.2.2.1 _ hm) (fun _ h9 => h9) rfl hdg kk
theorem rwG_tries_route (C : gC D k p s m args c cc own) (hP : gWd D (rwW k ad) v f g H) (hm : Cond.fieldLink own idx "RouteWall$Tries" "route" "[I" ∈ gWs) (hdg : decode cc pc = .ok (.getfield idx, 3)) (kk : W p l e R s m args below meth c H locs cells slots Q (F0 m (pc + 3) ls (.ref (ad 33) :: rest))) : W p l e R s m args below meth c H locs cells slots Q (F0 m pc ls (.ref (ad 30) :: rest)) := va_get (D := D) (ci := 7) (C := RX7) (T := TX7) (N := 9) C.1 C.2.1 C.2.2.1 gLx7 C.2.2.2.1 C.2.2.2.2 hP.1 30 rfl rfl 3 (by decide) (C.2.2.1 _ hm) (fun _ h9 => h9) rfl hdg kk
theorem rwG_tries_begun (C : gC D k p s m args c cc own) (hP : gWd D (rwW k ad) v f g H) (hm : Cond.fieldLink own idx "RouteWall$Tries" "begun" "[I" ∈ gWs) (hdg : decode cc pc = .ok (.getfield idx, 3)) (kk : W p l e R s m args below meth c H locs cells slots Q (F0 m (pc + 3) ls (.ref (ad 34) :: rest))) : W p l e R s m args below meth c H locs cells slots Q (F0 m pc ls (.ref (ad 30) :: rest)) := va_get (D := D) (ci := 7) (C := RX7) (T := TX7) (N := 9) C.1 C.2.1 C.2.2.1 gLx7 C.2.2.2.1 C.2.2.2.2 hP.1 30 rfl rfl 4 (by decide) (C.2.2.1 _ hm) (fun _ h9 => h9) rfl hdg kk
theorem rwG_tries_ended (C : gC D k p s m args c cc own) (hP : gWd D (rwW k ad) v f g H) (hm : Cond.fieldLink own idx "RouteWall$Tries" "ended" "[I" ∈ gWs) (hdg : decode cc pc = .ok (.getfield idx, 3)) (kk : W p l e R s m args below meth c H locs cells slots Q (F0 m (pc + 3) ls (.ref (ad 35) :: rest))) : W p l e R s m args below meth c H locs cells slots Q (F0 m pc ls (.ref (ad 30) :: rest)) := va_get (D := D) (ci := 7) (C := RX7) (T := TX7) (N := 9) C.1 C.2.1 C.2.2.1 gLx7 C.2.2.2.1 C.2.2.2.2 hP.1 30 rfl rfl 5 (by decide) (C.2.2.1 _ hm) (fun _ h9 => h9) rfl hdg kk
theorem rwG_tries_hold (C : gC D k p s m args c cc own) (hP : gWd D (rwW k ad) v f g H) (hm : Cond.fieldLink own idx "RouteWall$Tries" "hold" "[I" ∈ gWs) (hdg : decode cc pc = .ok (.getfield idx, 3)) (kk : W p l e R s m args below meth c H locs cells slots Q (F0 m (pc + 3) ls (.ref (ad 36) :: rest))) : W p l e R s m args below meth c H locs cells slots Q (F0 m pc ls (.ref (ad 30) :: rest)) := va_get (D := D) (ci := 7) (C := RX7) (T := TX7) (N := 9) C.1 C.2.1 C.2.2.1 gLx7 C.2.2.2.1 C.2.2.2.2 hP.1 30 rfl rfl 6 (by decide) (C.2.2.1 _ hm) (fun _ h9 => h9) rfl hdg kk
theorem rwG_tries_how (C : gC D k p s m args c cc own) (hP : gWd D (rwW k ad) v f g H) (hm : Cond.fieldLink own idx "RouteWall$Tries" "how" "[I" ∈ gWs) (hdg : decode cc pc = .ok (.getfield idx, 3)) (kk : W p l e R s m args below meth c H locs cells slots Q (F0 m (pc + 3) ls (.ref (ad 37) :: rest))) : W p l e R s m args below meth c H locs cells slots Q (F0 m pc ls (.ref (ad 30) :: rest)) := va_get (D := D) (ci := 7) (C := RX7) (T := TX7) (N := 9) C.1 C.2.1 C.2.2.1 gLx7 C.2.2.2.1 C.2.2.2.2 hP.1 30 rfl rfl 7 (by decide) (C.2.2.1 _ hm) (fun _ h9 => h9) rfl hdg kk
theorem rwG_tries_openNext (C : gC D k p s m args c cc own) (hP : gWd D (rwW k ad) v f g H) (hm : Cond.fieldLink own idx "RouteWall$Tries" "openNext" "[I" ∈ gWs) (hdg : decode cc pc = .ok (.getfield idx, 3)) (kk : W p l e R s m args below meth c H locs cells slots Q (F0 m (pc + 3) ls (.ref (ad 38) :: rest))) : W p l e R s m args below meth c H locs cells slots Q (F0 m pc ls (.ref (ad 30) :: rest)) := va_get (D := D) (ci := 7) (C := RX7) (T := TX7) (N := 9) C.1 C.2.1 C.2.2.1 gLx7 C.2.2.2.1 C.2.2.2.2 hP.1 30 rfl rfl 8 (by decide) (C.2.2.1 _ hm) (fun _ h9 => h9) rfl hdg kk
theorem rwL_tries_climber (C : gC D k p s m args c cc own) (hP : gWd D (rwW k ad) v f g H) {i : Int} (h0 : 0 ≤ i) (h1 : i < 300) (hdg : decode cc pc = .ok (.iaload, 1)) (kk : W p l e R s m args below meth c H locs cells slots Q (F0 m (pc + 1) ls (.int (iI (f 20 i)) :: rest))) : W p l e R s m args below meth c H locs cells slots Q (F0 m pc ls (.int (iI i) :: .ref (ad 31) :: rest)) := g_iald C hP.1 31 rfl (by decide) h0 h1 hdg kk
theorem rwS_tries_climber (C : gC D k p s m args c cc own) (hP : gWd D (rwW k ad) v f g H) (hD : rwD A k ad) (hS : va_S A H0 H locs) {i x : Int} {f1 : gF} (h0 : 0 ≤ i) (h1 : i < 300) (hx : inR x) (hv : (rwW k ad) v (va_up f 20 (u1 (f 20) i x)) g = (rwW k ad) v f1 g) (hv2 : va_up f 20 (u1 (f 20) i x) = f1 ∨ gOk v f1) (hdg : decode cc pc = .ok (.iastore, 1)) (kk : ∀ (H1 : Heap) (locs1 : List Loc), gWd D (rwW k ad) v f1 g H1 → va_S A H0 H1 locs1 → W p l e R s m args below meth c H1 locs1 cells slots Q (F0 m (pc + 1) ls rest)) : W p l e R s m args below meth c H locs cells slots Q (F0 m pc ls (.int (iI x) :: .int (iI i) :: .ref (ad 31) :: rest)) := g_iast C hP.1 (hD v f g) hS 31 rfl (by decide) h0 h1 (ws' := (rwW k ad) v f1 g) (by rw [← hv]; rfl) hdg (fun H1 locs1 h1 h3 => kk H1 locs1 ⟨h1, hv2.elim (fun q => q ▸ gF_up hP.2 20 (u1_rng (hP.2.2 20) hx)) id⟩ h3)
theorem rwN_tries_climber (C : gC D k p s m args c cc own) (hP : gWd D (rwW k ad) v f g H) (hdg : decode cc pc = .ok (.arraylength, 1)) (kk : W p l e R s m args below meth c H locs cells slots Q (F0 m (pc + 1) ls (.int (iI 300) :: rest))) : W p l e R s m args below meth c H locs cells slots Q (F0 m pc ls (.ref (ad 31) :: rest)) := va_alen (D := D) C.1 C.2.1 C.2.2.2.2 hP.1 31 0 rfl rfl (v := iI 300) rfl hdg kk
theorem rwL_tries_round (C : gC D k p s m args c cc own) (hP : gWd D (rwW k ad) v f g H) {i : Int} (h0 : 0 ≤ i) (h1 : i < 300) (hdg : decode cc pc = .ok (.iaload, 1)) (kk : W p l e R s m args below meth c H locs cells slots Q (F0 m (pc + 1) ls (.int (iI (f 21 i)) :: rest))) : W p l e R s m args below meth c H locs cells slots Q (F0 m pc ls (.int (iI i) :: .ref (ad 32) :: rest)) := g_iald C hP.1 32 rfl (by decide) h0 h1 hdg kk
theorem rwS_tries_round (C : gC D k p s m args c cc own) (hP : gWd D (rwW k ad) v f g H) (hD : rwD A k ad) (hS : va_S A H0 H locs) {i x : Int} {f1 : gF} (h0 : 0 ≤ i) (h1 : i < 300) (hx : inR x) (hv : (rwW k ad) v (va_up f 21 (u1 (f 21) i x)) g = (rwW k ad) v f1 g) (hv2 : va_up f 21 (u1 (f 21) i x) = f1 ∨ gOk v f1) (hdg : decode cc pc = .ok (.iastore, 1)) (kk : ∀ (H1 : Heap) (locs1 : List Loc), gWd D (rwW k ad) v f1 g H1 → va_S A H0 H1 locs1 → W p l e R s m args below meth c H1 locs1 cells slots Q (F0 m (pc + 1) ls rest)) : W p l e R s m args below meth c H locs cells slots Q (F0 m pc ls (.int (iI x) :: .int (iI i) :: .ref (ad 32) :: rest)) := g_iast C hP.1 (hD v f g) hS 32 rfl (by decide) h0 h1 (ws' := (rwW k ad) v f1 g) (by rw [← hv]; rfl) hdg (fun H1 locs1 h1 h3 => kk H1 locs1 ⟨h1, hv2.elim (fun q => q ▸ gF_up hP.2 21 (u1_rng (hP.2.2 21) hx)) id⟩ h3)
theorem rwN_tries_round (C : gC D k p s m args c cc own) (hP : gWd D (rwW k ad) v f g H) (hdg : decode cc pc = .ok (.arraylength, 1)) (kk : W p l e R s m args below meth c H locs cells slots Q (F0 m (pc + 1) ls (.int (iI 300) :: rest))) : W p l e R s m args below meth c H locs cells slots Q (F0 m pc ls (.ref (ad 32) :: rest)) := va_alen (D := D) C.1 C.2.1 C.2.2.2.2 hP.1 32 0 rfl rfl (v := iI 300) rfl hdg kk
theorem rwL_tries_route (C : gC D k p s m args c cc own) (hP : gWd D (rwW k ad) v f g H) {i : Int} (h0 : 0 ≤ i) (h1 : i < 300) (hdg : decode cc pc = .ok (.iaload, 1)) (kk : W p l e R s m args below meth c H locs cells slots Q (F0 m (pc + 1) ls (.int (iI (f 22 i)) :: rest))) : W p l e R s m args below meth c H locs cells slots Q (F0 m pc ls (.int (iI i) :: .ref (ad 33) :: rest)) := g_iald C hP.1 33 rfl (by decide) h0 h1 hdg kk
theorem rwS_tries_route (C : gC D k p s m args c cc own) (hP : gWd D (rwW k ad) v f g H) (hD : rwD A k ad) (hS : va_S A H0 H locs) {i x : Int} {f1 : gF} (h0 : 0 ≤ i) (h1 : i < 300) (hx : inR x) (hv : (rwW k ad) v (va_up f 22 (u1 (f 22) i x)) g = (rwW k ad) v f1 g) (hv2 : va_up f 22 (u1 (f 22) i x) = f1 ∨ gOk v f1) (hdg : decode cc pc = .ok (.iastore, 1)) (kk : ∀ (H1 : Heap) (locs1 : List Loc), gWd D (rwW k ad) v f1 g H1 → va_S A H0 H1 locs1 → W p l e R s m args below meth c H1 locs1 cells slots Q (F0 m (pc + 1) ls rest)) : W p l e R s m args below meth c H locs cells slots Q (F0 m pc ls (.int (iI x) :: .int (iI i) :: .ref (ad 33) :: rest)) := g_iast C hP.1 (hD v f g) hS 33 rfl (by decide) h0 h1 (ws' := (rwW k ad) v f1 g) (by rw [← hv]; rfl) hdg (fun H1 locs1 h1 h3 => kk H1 locs1 ⟨h1, hv2.elim (fun q => q ▸ gF_up hP.2 22 (u1_rng (hP.2.2 22) hx)) id⟩ h3)
theorem rwN_tries_route (C : gC D k p s m args c cc own) (hP : gWd D (rwW k ad) v f g H) (hdg : decode cc pc = .ok (.arraylength, 1)) (kk : W p l e R s m args below meth c H locs cells slots Q (F0 m (pc + 1) ls (.int (iI 300) :: rest))) : W p l e R s m args below meth c H locs cells slots Q (F0 m pc ls (.ref (ad 33) :: rest)) := va_alen (D := D) C.1 C.2.1 C.2.2.2.2 hP.1 33 0 rfl rfl (v := iI 300) rfl hdg kk
theorem rwL_tries_begun (C : gC D k p s m args c cc own) (hP : gWd D (rwW k ad) v f g H) {i : Int} (h0 : 0 ≤ i) (h1 : i < 300) (hdg : decode cc pc = .ok (.iaload, 1)) (kk : W p l e R s m args below meth c H locs cells slots Q (F0 m (pc + 1) ls (.int (iI (f 23 i)) :: rest))) : W p l e R s m args below meth c H locs cells slots Q (F0 m pc ls (.int (iI i) :: .ref (ad 34) :: rest)) := g_iald C hP.1 34 rfl (by decide) h0 h1 hdg kk
theorem rwS_tries_begun (C : gC D k p s m args c cc own) (hP : gWd D (rwW k ad) v f g H) (hD : rwD A k ad) (hS : va_S A H0 H locs) {i x : Int} {f1 : gF} (h0 : 0 ≤ i) (h1 : i < 300) (hx : inR x) (hv : (rwW k ad) v (va_up f 23 (u1 (f 23) i x)) g = (rwW k ad) v f1 g) (hv2 : va_up f 23 (u1 (f 23) i x) = f1 ∨ gOk v f1) (hdg : decode cc pc = .ok (.iastore, 1)) (kk : ∀ (H1 : Heap) (locs1 : List Loc), gWd D (rwW k ad) v f1 g H1 → va_S A H0 H1 locs1 → W p l e R s m args below meth c H1 locs1 cells slots Q (F0 m (pc + 1) ls rest)) : W p l e R s m args below meth c H locs cells slots Q (F0 m pc ls (.int (iI x) :: .int (iI i) :: .ref (ad 34) :: rest)) := g_iast C hP.1 (hD v f g) hS 34 rfl (by decide) h0 h1 (ws' := (rwW k ad) v f1 g) (by rw [← hv]; rfl) hdg (fun H1 locs1 h1 h3 => kk H1 locs1 ⟨h1, hv2.elim (fun q => q ▸ gF_up hP.2 23 (u1_rng (hP.2.2 23) hx)) id⟩ h3)
theorem rwN_tries_begun (C : gC D k p s m args c cc own) (hP : gWd D (rwW k ad) v f g H) (hdg : decode cc pc = .ok (.arraylength, 1)) (kk : W p l e R s m args below meth c H locs cells slots Q (F0 m (pc + 1) ls (.int (iI 300) :: rest))) : W p l e R s m args below meth c H locs cells slots Q (F0 m pc ls (.ref (ad 34) :: rest)) := va_alen (D := D) C.1 C.2.1 C.2.2.2.2 hP.1 34 0 rfl rfl (v := iI 300) rfl hdg kk
theorem rwL_tries_ended (C : gC D k p s m args c cc own) (hP : gWd D (rwW k ad) v f g H) {i : Int} (h0 : 0 ≤ i) (h1 : i < 300) (hdg : decode cc pc = .ok (.iaload, 1)) (kk : W p l e R s m args below meth c H locs cells slots Q (F0 m (pc + 1) ls (.int (iI (f 24 i)) :: rest))) : W p l e R s m args below meth c H locs cells slots Q (F0 m pc ls (.int (iI i) :: .ref (ad 35) :: rest)) := g_iald C hP.1 35 rfl (by decide) h0 h1 hdg kk
theorem rwS_tries_ended (C : gC D k p s m args c cc own) (hP : gWd D (rwW k ad) v f g H) (hD : rwD A k ad) (hS : va_S A H0 H locs) {i x : Int} {f1 : gF} (h0 : 0 ≤ i) (h1 : i < 300) (hx : inR x) (hv : (rwW k ad) v (va_up f 24 (u1 (f 24) i x)) g = (rwW k ad) v f1 g) (hv2 : va_up f 24 (u1 (f 24) i x) = f1 ∨ gOk v f1) (hdg : decode cc pc = .ok (.iastore, 1)) (kk : ∀ (H1 : Heap) (locs1 : List Loc), gWd D (rwW k ad) v f1 g H1 → va_S A H0 H1 locs1 → W p l e R s m args below meth c H1 locs1 cells slots Q (F0 m (pc + 1) ls rest)) : W p l e R s m args below meth c H locs cells slots Q (F0 m pc ls (.int (iI x) :: .int (iI i) :: .ref (ad 35) :: rest)) := g_iast C hP.1 (hD v f g) hS 35 rfl (by decide) h0 h1 (ws' := (rwW k ad) v f1 g) (by rw [← hv]; rfl) hdg (fun H1 locs1 h1 h3 => kk H1 locs1 ⟨h1, hv2.elim (fun q => q ▸ gF_up hP.2 24 (u1_rng (hP.2.2 24) hx)) id⟩ h3)
theorem rwN_tries_ended (C : gC D k p s m args c cc own) (hP : gWd D (rwW k ad) v f g H) (hdg : decode cc pc = .ok (.arraylength, 1)) (kk : W p l e R s m args below meth c H locs cells slots Q (F0 m (pc + 1) ls (.int (iI 300) :: rest))) : W p l e R s m args below meth c H locs cells slots Q (F0 m pc ls (.ref (ad 35) :: rest)) := va_alen (D := D) C.1 C.2.1 C.2.2.2.2 hP.1 35 0 rfl rfl (v := iI 300) rfl hdg kk
theorem rwL_tries_hold (C : gC D k p s m args c cc own) (hP : gWd D (rwW k ad) v f g H) {i : Int} (h0 : 0 ≤ i) (h1 : i < 300) (hdg : decode cc pc = .ok (.iaload, 1)) (kk : W p l e R s m args below meth c H locs cells slots Q (F0 m (pc + 1) ls (.int (iI (f 25 i)) :: rest))) : W p l e R s m args below meth c H locs cells slots Q (F0 m pc ls (.int (iI i) :: .ref (ad 36) :: rest)) := g_iald C hP.1 36 rfl (by decide) h0 h1 hdg kk
theorem rwS_tries_hold (C : gC D k p s m args c cc own) (hP : gWd D (rwW k ad) v f g H) (hD : rwD A k ad) (hS : va_S A H0 H locs) {i x : Int} {f1 : gF} (h0 : 0 ≤ i) (h1 : i < 300) (hx : inR x) (hv : (rwW k ad) v (va_up f 25 (u1 (f 25) i x)) g = (rwW k ad) v f1 g) (hv2 : va_up f 25 (u1 (f 25) i x) = f1 ∨ gOk v f1) (hdg : decode cc pc = .ok (.iastore, 1)) (kk : ∀ (H1 : Heap) (locs1 : List Loc), gWd D (rwW k ad) v f1 g H1 → va_S A H0 H1 locs1 → W p l e R s m args below meth c H1 locs1 cells slots Q (F0 m (pc + 1) ls rest)) : W p l e R s m args below meth c H locs cells slots Q (F0 m pc ls (.int (iI x) :: .int (iI i) :: .ref (ad 36) :: rest)) := g_iast C hP.1 (hD v f g) hS 36 rfl (by decide) h0 h1 (ws' := (rwW k ad) v f1 g) (by rw [← hv]; rfl) hdg (fun H1 locs1 h1 h3 => kk H1 locs1 ⟨h1, hv2.elim (fun q => q ▸ gF_up hP.2 25 (u1_rng (hP.2.2 25) hx)) id⟩ h3)
theorem rwN_tries_hold (C : gC D k p s m args c cc own) (hP : gWd D (rwW k ad) v f g H) (hdg : decode cc pc = .ok (.arraylength, 1)) (kk : W p l e R s m args below meth c H locs cells slots Q (F0 m (pc + 1) ls (.int (iI 300) :: rest))) : W p l e R s m args below meth c H locs cells slots Q (F0 m pc ls (.ref (ad 36) :: rest)) := va_alen (D := D) C.1 C.2.1 C.2.2.2.2 hP.1 36 0 rfl rfl (v := iI 300) rfl hdg kk
theorem rwL_tries_how (C : gC D k p s m args c cc own) (hP : gWd D (rwW k ad) v f g H) {i : Int} (h0 : 0 ≤ i) (h1 : i < 300) (hdg : decode cc pc = .ok (.iaload, 1)) (kk : W p l e R s m args below meth c H locs cells slots Q (F0 m (pc + 1) ls (.int (iI (f 26 i)) :: rest))) : W p l e R s m args below meth c H locs cells slots Q (F0 m pc ls (.int (iI i) :: .ref (ad 37) :: rest)) := g_iald C hP.1 37 rfl (by decide) h0 h1 hdg kk
theorem rwS_tries_how (C : gC D k p s m args c cc own) (hP : gWd D (rwW k ad) v f g H) (hD : rwD A k ad) (hS : va_S A H0 H locs) {i x : Int} {f1 : gF} (h0 : 0 ≤ i) (h1 : i < 300) (hx : inR x) (hv : (rwW k ad) v (va_up f 26 (u1 (f 26) i x)) g = (rwW k ad) v f1 g) (hv2 : va_up f 26 (u1 (f 26) i x) = f1 ∨ gOk v f1) (hdg : decode cc pc = .ok (.iastore, 1)) (kk : ∀ (H1 : Heap) (locs1 : List Loc), gWd D (rwW k ad) v f1 g H1 → va_S A H0 H1 locs1 → W p l e R s m args below meth c H1 locs1 cells slots Q (F0 m (pc + 1) ls rest)) : W p l e R s m args below meth c H locs cells slots Q (F0 m pc ls (.int (iI x) :: .int (iI i) :: .ref (ad 37) :: rest)) := g_iast C hP.1 (hD v f g) hS 37 rfl (by decide) h0 h1 (ws' := (rwW k ad) v f1 g) (by rw [← hv]; rfl) hdg (fun H1 locs1 h1 h3 => kk H1 locs1 ⟨h1, hv2.elim (fun q => q ▸ gF_up hP.2 26 (u1_rng (hP.2.2 26) hx)) id⟩ h3)
theorem rwN_tries_how (C : gC D k p s m args c cc own) (hP : gWd D (rwW k ad) v f g H) (hdg : decode cc pc = .ok (.arraylength, 1)) (kk : W p l e R s m args below meth c H locs cells slots Q (F0 m (pc + 1) ls (.int (iI 300) :: rest))) : W p l e R s m args below meth c H locs cells slots Q (F0 m pc ls (.ref (ad 37) :: rest)) := va_alen (D := D) C.1 C.2.1 C.2.2.2.2 hP.1 37 0 rfl rfl (v := iI 300) rfl hdg kk
theorem rwL_tries_openNext (C : gC D k p s m args c cc own) (hP : gWd D (rwW k ad) v f g H) {i : Int} (h0 : 0 ≤ i) (h1 : i < 16) (hdg : decode cc pc = .ok (.iaload, 1)) (kk : W p l e R s m args below meth c H locs cells slots Q (F0 m (pc + 1) ls (.int (iI (f 27 i)) :: rest))) : W p l e R s m args below meth c H locs cells slots Q (F0 m pc ls (.int (iI i) :: .ref (ad 38) :: rest)) := g_iald C hP.1 38 rfl (by decide) h0 h1 hdg kk
theorem rwS_tries_openNext (C : gC D k p s m args c cc own) (hP : gWd D (rwW k ad) v f g H) (hD : rwD A k ad) (hS : va_S A H0 H locs) {i x : Int} {f1 : gF} (h0 : 0 ≤ i) (h1 : i < 16) (hx : inR x) (hv : (rwW k ad) v (va_up f 27 (u1 (f 27) i x)) g = (rwW k ad) v f1 g) (hv2 : va_up f 27 (u1 (f 27) i x) = f1 ∨ gOk v f1) (hdg : decode cc pc = .ok (.iastore, 1)) (kk : ∀ (H1 : Heap) (locs1 : List Loc), gWd D (rwW k ad) v f1 g H1 → va_S A H0 H1 locs1 → W p l e R s m args below meth c H1 locs1 cells slots Q (F0 m (pc + 1) ls rest)) : W p l e R s m args below meth c H locs cells slots Q (F0 m pc ls (.int (iI x) :: .int (iI i) :: .ref (ad 38) :: rest)) := g_iast C hP.1 (hD v f g) hS 38 rfl (by decide) h0 h1 (ws' := (rwW k ad) v f1 g) (by rw [← hv]; rfl) hdg (fun H1 locs1 h1 h3 => kk H1 locs1 ⟨h1, hv2.elim (fun q => q ▸ gF_up hP.2 27 (u1_rng (hP.2.2 27) hx)) id⟩ h3)
theorem rwN_tries_openNext (C : gC D k p s m args c cc own) (hP : gWd D (rwW k ad) v f g H) (hdg : decode cc pc = .ok (.arraylength, 1)) (kk : W p l e R s m args below meth c H locs cells slots Q (F0 m (pc + 1) ls (.int (iI 16) :: rest))) : W p l e R s m args below meth c H locs cells slots Q (F0 m pc ls (.ref (ad 38) :: rest)) := va_alen (D := D) C.1 C.2.1 C.2.2.2.2 hP.1 38 0 rfl rfl (v := iI 16) rfl hdg kk
theorem rwG_appeals_many (C : gC D k p s m args c cc own) (hP : gWd D (rwW k ad) v f g H) (hm : Cond.fieldLink own idx "RouteWall$Appeals" "many" "I" ∈ gWs) (hdg : decode cc pc = .ok (.getfield idx, 3)) (kk : W p l e R s m args below meth c H locs cells slots Q (F0 m (pc + 3) ls (.int (iI (v 24)) :: rest))) : W p l e R s m args below meth c H locs cells slots Q (F0 m pc ls (.ref (ad 39) :: rest)) := va_get (D := D) (ci := 0) (C := RX0) (T := TX0) (N := 4) C.1 C.2.1 C.2.2.1 gLx0 C.2.2.2.1 C.2.2.2.2 hP.1 39 rfl rfl 0 (by decide) (C.2.2.1 _ hm) (fun _ h9 => h9) rfl hdg kk
theorem rwP_appeals_many (C : gC D k p s m args c cc own) (hP : gWd D (rwW k ad) v f g H) (hD : rwD A k ad) (hS : va_S A H0 H locs) (hm : Cond.fieldLink own idx "RouteWall$Appeals" "many" "I" ∈ gWs) {x : Int} {v1 : gV} (hx : inR x) (hv : (rwW k ad) (va_up v 24 x) f g = (rwW k ad) v1 f g) (hv2 : va_up v 24 x = v1 ∨ gOk v1 f) (hdg : decode cc pc = .ok (.putfield idx, 3)) (kk : ∀ (H1 : Heap) (locs1 : List Loc), gWd D (rwW k ad) v1 f g H1 → va_S A H0 H1 locs1 → W p l e R s m args below meth c H1 locs1 cells slots Q (F0 m (pc + 3) ls rest)) : W p l e R s m args below meth c H locs cells slots Q (F0 m pc ls (.int (iI x) :: .ref (ad 39) :: rest)) := va_put (D := D) (ci := 0) (ty := .int) (C := RX0) (T := TX0) (N := 4) C.1 C.2.1 C.2.2.1 gLx0 tyX0 tyX0_ok nmX0 C.2.2.2.1 C.2.2.2.2 hP.1 (hD v f g) hS 39 rfl rfl 0 (by decide) (C.2.2.1 _ hm) (fun _ h9 => h9) rfl (by decide +kernel) rfl rfl (Nat.le_of_ble_eq_true rfl) hdg (fun H1 locs1 h1 _ h3 => kk H1 locs1 ⟨hv ▸ (show va_P D vwCl ((rwW k ad) (va_up v 24 x) f g) H1 from h1), hv2.elim (fun q => q ▸ gR_up hP.2 24 hx) id⟩ h3)
theorem rwG_appeals_number (C : gC D k p s m args c cc own) (hP : gWd D (rwW k ad) v f g H) (hm : Cond.fieldLink own idx "RouteWall$Appeals" "number" "[I" ∈ gWs) (hdg : decode cc pc = .ok (.getfield idx, 3)) (kk : W p l e R s m args below meth c H locs cells slots Q (F0 m (pc + 3) ls (.ref (ad 40) :: rest))) : W p l e R s m args below meth c H locs cells slots Q (F0 m pc ls (.ref (ad 39) :: rest)) := va_get (D := D) (ci := 0) (C := RX0) (T := TX0) (N := 4) C.1 C.2.1 C.2.2.1 gLx0 C.2.2.2.1 C.2.2.2.2 hP.1 39 rfl rfl 1 (by decide) (C.2.2.1 _ hm) (fun _ h9 => h9) rfl hdg kk
theorem rwG_appeals_hold (C : gC D k p s m args c cc own) (hP : gWd D (rwW k ad) v f g H) (hm : Cond.fieldLink own idx "RouteWall$Appeals" "hold" "[I" ∈ gWs) (hdg : decode cc pc = .ok (.getfield idx, 3)) (kk : W p l e R s m args below meth c H locs cells slots Q (F0 m (pc + 3) ls (.ref (ad 41) :: rest))) : W p l e R s m args below meth c H locs cells slots Q (F0 m pc ls (.ref (ad 39) :: rest)) := va_get (D := D) (ci := 0) (C := RX0) (T := TX0) (N := 4) C.1 C.2.1 C.2.2.1 gLx0 C.2.2.2.1 C.2.2.2.2 hP.1 39 rfl rfl 2 (by decide) (C.2.2.1 _ hm) (fun _ h9 => h9) rfl hdg kk
theorem rwG_appeals_day (C : gC D k p s m args c cc own) (hP : gWd D (rwW k ad) v f g H) (hm : Cond.fieldLink own idx "RouteWall$Appeals" "day" "[I" ∈ gWs) (hdg : decode cc pc = .ok (.getfield idx, 3)) (kk : W p l e R s m args below meth c H locs cells slots Q (F0 m (pc + 3) ls (.ref (ad 42) :: rest))) : W p l e R s m args below meth c H locs cells slots Q (F0 m pc ls (.ref (ad 39) :: rest)) := va_get (D := D) (ci := 0) (C := RX0) (T := TX0) (N := 4) C.1 C.2.1 C.2.2.1 gLx0 C.2.2.2.1 C.2.2.2.2 hP.1 39 rfl rfl 3 (by decide) (C.2.2.1 _ hm) (fun _ h9 => h9) rfl hdg kk
theorem rwL_appeals_number (C : gC D k p s m args c cc own) (hP : gWd D (rwW k ad) v f g H) {i : Int} (h0 : 0 ≤ i) (h1 : i < 40) (hdg : decode cc pc = .ok (.iaload, 1)) (kk : W p l e R s m args below meth c H locs cells slots Q (F0 m (pc + 1) ls (.int (iI (f 28 i)) :: rest))) : W p l e R s m args below meth c H locs cells slots Q (F0 m pc ls (.int (iI i) :: .ref (ad 40) :: rest)) := g_iald C hP.1 40 rfl (by decide) h0 h1 hdg kk
theorem rwS_appeals_number (C : gC D k p s m args c cc own) (hP : gWd D (rwW k ad) v f g H) (hD : rwD A k ad) (hS : va_S A H0 H locs) {i x : Int} {f1 : gF} (h0 : 0 ≤ i) (h1 : i < 40) (hx : inR x) (hv : (rwW k ad) v (va_up f 28 (u1 (f 28) i x)) g = (rwW k ad) v f1 g) (hv2 : va_up f 28 (u1 (f 28) i x) = f1 ∨ gOk v f1) (hdg : decode cc pc = .ok (.iastore, 1)) (kk : ∀ (H1 : Heap) (locs1 : List Loc), gWd D (rwW k ad) v f1 g H1 → va_S A H0 H1 locs1 → W p l e R s m args below meth c H1 locs1 cells slots Q (F0 m (pc + 1) ls rest)) : W p l e R s m args below meth c H locs cells slots Q (F0 m pc ls (.int (iI x) :: .int (iI i) :: .ref (ad 40) :: rest)) := g_iast C hP.1 (hD v f g) hS 40 rfl (by decide) h0 h1 (ws' := (rwW k ad) v f1 g) (by rw [← hv]; rfl) hdg (fun H1 locs1 h1 h3 => kk H1 locs1 ⟨h1, hv2.elim (fun q => q ▸ gF_up hP.2 28 (u1_rng (hP.2.2 28) hx)) id⟩ h3)
theorem rwN_appeals_number (C : gC D k p s m args c cc own) (hP : gWd D (rwW k ad) v f g H) (hdg : decode cc pc = .ok (.arraylength, 1)) (kk : W p l e R s m args below meth c H locs cells slots Q (F0 m (pc + 1) ls (.int (iI 40) :: rest))) : W p l e R s m args below meth c H locs cells slots Q (F0 m pc ls (.ref (ad 40) :: rest)) := va_alen (D := D) C.1 C.2.1 C.2.2.2.2 hP.1 40 0 rfl rfl (v := iI 40) rfl hdg kk
theorem rwL_appeals_hold (C : gC D k p s m args c cc own) (hP : gWd D (rwW k ad) v f g H) {i : Int} (h0 : 0 ≤ i) (h1 : i < 40) (hdg : decode cc pc = .ok (.iaload, 1)) (kk : W p l e R s m args below meth c H locs cells slots Q (F0 m (pc + 1) ls (.int (iI (f 29 i)) :: rest))) : W p l e R s m args below meth c H locs cells slots Q (F0 m pc ls (.int (iI i) :: .ref (ad 41) :: rest)) := g_iald C hP.1 41 rfl (by decide) h0 h1 hdg kk
theorem rwS_appeals_hold (C : gC D k p s m args c cc own) (hP : gWd D (rwW k ad) v f g H) (hD : rwD A k ad) (hS : va_S A H0 H locs) {i x : Int} {f1 : gF} (h0 : 0 ≤ i) (h1 : i < 40) (hx : inR x) (hv : (rwW k ad) v (va_up f 29 (u1 (f 29) i x)) g = (rwW k ad) v f1 g) (hv2 : va_up f 29 (u1 (f 29) i x) = f1 ∨ gOk v f1) (hdg : decode cc pc = .ok (.iastore, 1)) (kk : ∀ (H1 : Heap) (locs1 : List Loc), gWd D (rwW k ad) v f1 g H1 → va_S A H0 H1 locs1 → W p l e R s m args below meth c H1 locs1 cells slots Q (F0 m (pc + 1) ls rest)) : W p l e R s m args below meth c H locs cells slots Q (F0 m pc ls (.int (iI x) :: .int (iI i) :: .ref (ad 41) :: rest)) := g_iast C hP.1 (hD v f g) hS 41 rfl (by decide) h0 h1 (ws' := (rwW k ad) v f1 g) (by rw [← hv]; rfl) hdg (fun H1 locs1 h1 h3 => kk H1 locs1 ⟨h1, hv2.elim (fun q => q ▸ gF_up hP.2 29 (u1_rng (hP.2.2 29) hx)) id⟩ h3)
theorem rwN_appeals_hold (C : gC D k p s m args c cc own) (hP : gWd D (rwW k ad) v f g H) (hdg : decode cc pc = .ok (.arraylength, 1)) (kk : W p l e R s m args below meth c H locs cells slots Q (F0 m (pc + 1) ls (.int (iI 40) :: rest))) : W p l e R s m args below meth c H locs cells slots Q (F0 m pc ls (.ref (ad 41) :: rest)) := va_alen (D := D) C.1 C.2.1 C.2.2.2.2 hP.1 41 0 rfl rfl (v := iI 40) rfl hdg kk
theorem rwL_appeals_day (C : gC D k p s m args c cc own) (hP : gWd D (rwW k ad) v f g H) {i : Int} (h0 : 0 ≤ i) (h1 : i < 40) (hdg : decode cc pc = .ok (.iaload, 1)) (kk : W p l e R s m args below meth c H locs cells slots Q (F0 m (pc + 1) ls (.int (iI (f 30 i)) :: rest))) : W p l e R s m args below meth c H locs cells slots Q (F0 m pc ls (.int (iI i) :: .ref (ad 42) :: rest)) := g_iald C hP.1 42 rfl (by decide) h0 h1 hdg kk
theorem rwS_appeals_day (C : gC D k p s m args c cc own) (hP : gWd D (rwW k ad) v f g H) (hD : rwD A k ad) (hS : va_S A H0 H locs) {i x : Int} {f1 : gF} (h0 : 0 ≤ i) (h1 : i < 40) (hx : inR x) (hv : (rwW k ad) v (va_up f 30 (u1 (f 30) i x)) g = (rwW k ad) v f1 g) (hv2 : va_up f 30 (u1 (f 30) i x) = f1 ∨ gOk v f1) (hdg : decode cc pc = .ok (.iastore, 1)) (kk : ∀ (H1 : Heap) (locs1 : List Loc), gWd D (rwW k ad) v f1 g H1 → va_S A H0 H1 locs1 → W p l e R s m args below meth c H1 locs1 cells slots Q (F0 m (pc + 1) ls rest)) : W p l e R s m args below meth c H locs cells slots Q (F0 m pc ls (.int (iI x) :: .int (iI i) :: .ref (ad 42) :: rest)) := g_iast C hP.1 (hD v f g) hS 42 rfl (by decide) h0 h1 (ws' := (rwW k ad) v f1 g) (by rw [← hv]; rfl) hdg (fun H1 locs1 h1 h3 => kk H1 locs1 ⟨h1, hv2.elim (fun q => q ▸ gF_up hP.2 30 (u1_rng (hP.2.2 30) hx)) id⟩ h3)
theorem rwN_appeals_day (C : gC D k p s m args c cc own) (hP : gWd D (rwW k ad) v f g H) (hdg : decode cc pc = .ok (.arraylength, 1)) (kk : W p l e R s m args below meth c H locs cells slots Q (F0 m (pc + 1) ls (.int (iI 40) :: rest))) : W p l e R s m args below meth c H locs cells slots Q (F0 m pc ls (.ref (ad 42) :: rest)) := va_alen (D := D) C.1 C.2.1 C.2.2.2.2 hP.1 42 0 rfl rfl (v := iI 40) rfl hdg kk
theorem rwG_watch_times (C : gC D k p s m args c cc own) (hP : gWd D (rwW k ad) v f g H) (hm : Cond.fieldLink own idx "RouteWall$Watch" "times" "[I" ∈ gWs) (hdg : decode cc pc = .ok (.getfield idx, 3)) (kk : W p l e R s m args below meth c H locs cells slots Q (F0 m (pc + 3) ls (.ref (ad 44) :: rest))) : W p l e R s m args below meth c H locs cells slots Q (F0 m pc ls (.ref (ad 43) :: rest)) := va_get (D := D) (ci := 9) (C := RX9) (T := TX9) (N := 3) C.1 C.2.1 C.2.2.1 gLx9 C.2.2.2.1 C.2.2.2.2 hP.1 43 rfl rfl 0 (by decide) (C.2.2.1 _ hm) (fun _ h9 => h9) rfl hdg kk
theorem rwG_watch_wentOut (C : gC D k p s m args c cc own) (hP : gWd D (rwW k ad) v f g H) (hm : Cond.fieldLink own idx "RouteWall$Watch" "wentOut" "[I" ∈ gWs) (hdg : decode cc pc = .ok (.getfield idx, 3)) (kk : W p l e R s m args below meth c H locs cells slots Q (F0 m (pc + 3) ls (.ref (ad 45) :: rest))) : W p l e R s m args below meth c H locs cells slots Q (F0 m pc ls (.ref (ad 43) :: rest)) := va_get (D := D) (ci := 9) (C := RX9) (T := TX9) (N := 3) C.1 C.2.1 C.2.2.1 gLx9 C.2.2.2.1 C.2.2.2.2 hP.1 43 rfl rfl 1 (by decide) (C.2.2.1 _ hm) (fun _ h9 => h9) rfl hdg kk
theorem rwG_watch_cameIn (C : gC D k p s m args c cc own) (hP : gWd D (rwW k ad) v f g H) (hm : Cond.fieldLink own idx "RouteWall$Watch" "cameIn" "[I" ∈ gWs) (hdg : decode cc pc = .ok (.getfield idx, 3)) (kk : W p l e R s m args below meth c H locs cells slots Q (F0 m (pc + 3) ls (.ref (ad 46) :: rest))) : W p l e R s m args below meth c H locs cells slots Q (F0 m pc ls (.ref (ad 43) :: rest)) := va_get (D := D) (ci := 9) (C := RX9) (T := TX9) (N := 3) C.1 C.2.1 C.2.2.1 gLx9 C.2.2.2.1 C.2.2.2.2 hP.1 43 rfl rfl 2 (by decide) (C.2.2.1 _ hm) (fun _ h9 => h9) rfl hdg kk
theorem rwL_watch_times (C : gC D k p s m args c cc own) (hP : gWd D (rwW k ad) v f g H) {i : Int} (h0 : 0 ≤ i) (h1 : i < 16) (hdg : decode cc pc = .ok (.iaload, 1)) (kk : W p l e R s m args below meth c H locs cells slots Q (F0 m (pc + 1) ls (.int (iI (f 31 i)) :: rest))) : W p l e R s m args below meth c H locs cells slots Q (F0 m pc ls (.int (iI i) :: .ref (ad 44) :: rest)) := g_iald C hP.1 44 rfl (by decide) h0 h1 hdg kk
theorem rwS_watch_times (C : gC D k p s m args c cc own) (hP : gWd D (rwW k ad) v f g H) (hD : rwD A k ad) (hS : va_S A H0 H locs) {i x : Int} {f1 : gF} (h0 : 0 ≤ i) (h1 : i < 16) (hx : inR x) (hv : (rwW k ad) v (va_up f 31 (u1 (f 31) i x)) g = (rwW k ad) v f1 g) (hv2 : va_up f 31 (u1 (f 31) i x) = f1 ∨ gOk v f1) (hdg : decode cc pc = .ok (.iastore, 1)) (kk : ∀ (H1 : Heap) (locs1 : List Loc), gWd D (rwW k ad) v f1 g H1 → va_S A H0 H1 locs1 → W p l e R s m args below meth c H1 locs1 cells slots Q (F0 m (pc + 1) ls rest)) : W p l e R s m args below meth c H locs cells slots Q (F0 m pc ls (.int (iI x) :: .int (iI i) :: .ref (ad 44) :: rest)) := g_iast C hP.1 (hD v f g) hS 44 rfl (by decide) h0 h1 (ws' := (rwW k ad) v f1 g) (by rw [← hv]; rfl) hdg (fun H1 locs1 h1 h3 => kk H1 locs1 ⟨h1, hv2.elim (fun q => q ▸ gF_up hP.2 31 (u1_rng (hP.2.2 31) hx)) id⟩ h3)
theorem rwN_watch_times (C : gC D k p s m args c cc own) (hP : gWd D (rwW k ad) v f g H) (hdg : decode cc pc = .ok (.arraylength, 1)) (kk : W p l e R s m args below meth c H locs cells slots Q (F0 m (pc + 1) ls (.int (iI 16) :: rest))) : W p l e R s m args below meth c H locs cells slots Q (F0 m pc ls (.ref (ad 44) :: rest)) := va_alen (D := D) C.1 C.2.1 C.2.2.2.2 hP.1 44 0 rfl rfl (v := iI 16) rfl hdg kk
theorem rwL_watch_wentOut (C : gC D k p s m args c cc own) (hP : gWd D (rwW k ad) v f g H) {i : Int} (h0 : 0 ≤ i) (h1 : i < 320) (hdg : decode cc pc = .ok (.iaload, 1)) (kk : W p l e R s m args below meth c H locs cells slots Q (F0 m (pc + 1) ls (.int (iI (f 32 i)) :: rest))) : W p l e R s m args below meth c H locs cells slots Q (F0 m pc ls (.int (iI i) :: .ref (ad 45) :: rest)) := g_iald C hP.1 45 rfl (by decide) h0 h1 hdg kk
theorem rwS_watch_wentOut (C : gC D k p s m args c cc own) (hP : gWd D (rwW k ad) v f g H) (hD : rwD A k ad) (hS : va_S A H0 H locs) {i x : Int} {f1 : gF} (h0 : 0 ≤ i) (h1 : i < 320) (hx : inR x) (hv : (rwW k ad) v (va_up f 32 (u1 (f 32) i x)) g = (rwW k ad) v f1 g) (hv2 : va_up f 32 (u1 (f 32) i x) = f1 ∨ gOk v f1) (hdg : decode cc pc = .ok (.iastore, 1)) (kk : ∀ (H1 : Heap) (locs1 : List Loc), gWd D (rwW k ad) v f1 g H1 → va_S A H0 H1 locs1 → W p l e R s m args below meth c H1 locs1 cells slots Q (F0 m (pc + 1) ls rest)) : W p l e R s m args below meth c H locs cells slots Q (F0 m pc ls (.int (iI x) :: .int (iI i) :: .ref (ad 45) :: rest)) := g_iast C hP.1 (hD v f g) hS 45 rfl (by decide) h0 h1 (ws' := (rwW k ad) v f1 g) (by rw [← hv]; rfl) hdg (fun H1 locs1 h1 h3 => kk H1 locs1 ⟨h1, hv2.elim (fun q => q ▸ gF_up hP.2 32 (u1_rng (hP.2.2 32) hx)) id⟩ h3)
theorem rwN_watch_wentOut (C : gC D k p s m args c cc own) (hP : gWd D (rwW k ad) v f g H) (hdg : decode cc pc = .ok (.arraylength, 1)) (kk : W p l e R s m args below meth c H locs cells slots Q (F0 m (pc + 1) ls (.int (iI 320) :: rest))) : W p l e R s m args below meth c H locs cells slots Q (F0 m pc ls (.ref (ad 45) :: rest)) := va_alen (D := D) C.1 C.2.1 C.2.2.2.2 hP.1 45 0 rfl rfl (v := iI 320) rfl hdg kk
theorem rwL_watch_cameIn (C : gC D k p s m args c cc own) (hP : gWd D (rwW k ad) v f g H) {i : Int} (h0 : 0 ≤ i) (h1 : i < 320) (hdg : decode cc pc = .ok (.iaload, 1)) (kk : W p l e R s m args below meth c H locs cells slots Q (F0 m (pc + 1) ls (.int (iI (f 33 i)) :: rest))) : W p l e R s m args below meth c H locs cells slots Q (F0 m pc ls (.int (iI i) :: .ref (ad 46) :: rest)) := g_iald C hP.1 46 rfl (by decide) h0 h1 hdg kk
theorem rwS_watch_cameIn (C : gC D k p s m args c cc own) (hP : gWd D (rwW k ad) v f g H) (hD : rwD A k ad) (hS : va_S A H0 H locs) {i x : Int} {f1 : gF} (h0 : 0 ≤ i) (h1 : i < 320) (hx : inR x) (hv : (rwW k ad) v (va_up f 33 (u1 (f 33) i x)) g = (rwW k ad) v f1 g) (hv2 : va_up f 33 (u1 (f 33) i x) = f1 ∨ gOk v f1) (hdg : decode cc pc = .ok (.iastore, 1)) (kk : ∀ (H1 : Heap) (locs1 : List Loc), gWd D (rwW k ad) v f1 g H1 → va_S A H0 H1 locs1 → W p l e R s m args below meth c H1 locs1 cells slots Q (F0 m (pc + 1) ls rest)) : W p l e R s m args below meth c H locs cells slots Q (F0 m pc ls (.int (iI x) :: .int (iI i) :: .ref (ad 46) :: rest)) := g_iast C hP.1 (hD v f g) hS 46 rfl (by decide) h0 h1 (ws' := (rwW k ad) v f1 g) (by rw [← hv]; rfl) hdg (fun H1 locs1 h1 h3 => kk H1 locs1 ⟨h1, hv2.elim (fun q => q ▸ gF_up hP.2 33 (u1_rng (hP.2.2 33) hx)) id⟩ h3)
theorem rwN_watch_cameIn (C : gC D k p s m args c cc own) (hP : gWd D (rwW k ad) v f g H) (hdg : decode cc pc = .ok (.arraylength, 1)) (kk : W p l e R s m args below meth c H locs cells slots Q (F0 m (pc + 1) ls (.int (iI 320) :: rest))) : W p l e R s m args below meth c H locs cells slots Q (F0 m pc ls (.ref (ad 46) :: rest)) := va_alen (D := D) C.1 C.2.1 C.2.2.2.2 hP.1 46 0 rfl rfl (v := iI 320) rfl hdg kk
theorem rwG_results_laws (C : gC D k p s m args c cc own) (hP : gWd D (rwW k ad) v f g H) (hm : Cond.fieldLink own idx "RouteWall$Results" "laws" "LRouteWall$Laws;" ∈ gWs) (hdg : decode cc pc = .ok (.getfield idx, 3)) (kk : W p l e R s m args below meth c H locs cells slots Q (F0 m (pc + 3) ls (.ref (ad 2) :: rest))) : W p l e R s m args below meth c H locs cells slots Q (F0 m pc ls (.ref (ad 47) :: rest)) := va_get (D := D) (ci := 5) (C := RX5) (T := TX5) (N := 15) C.1 C.2.1 C.2.2.1 gLx5 C.2.2.2.1 C.2.2.2.2 hP.1 47 rfl rfl 0 (by decide) (C.2.2.1 _ hm) (fun _ h9 => h9) rfl hdg kk
theorem rwG_results_wall (C : gC D k p s m args c cc own) (hP : gWd D (rwW k ad) v f g H) (hm : Cond.fieldLink own idx "RouteWall$Results" "wall" "LRouteWall$Wall;" ∈ gWs) (hdg : decode cc pc = .ok (.getfield idx, 3)) (kk : W p l e R s m args below meth c H locs cells slots Q (F0 m (pc + 3) ls (.ref (ad 23) :: rest))) : W p l e R s m args below meth c H locs cells slots Q (F0 m pc ls (.ref (ad 47) :: rest)) := va_get (D := D) (ci := 5) (C := RX5) (T := TX5) (N := 15) C.1 C.2.1 C.2.2.1 gLx5 C.2.2.2.1 C.2.2.2.2 hP.1 47 rfl rfl 1 (by decide) (C.2.2.1 _ hm) (fun _ h9 => h9) rfl hdg kk
theorem rwG_results_field (C : gC D k p s m args c cc own) (hP : gWd D (rwW k ad) v f g H) (hm : Cond.fieldLink own idx "RouteWall$Results" "field" "LRouteWall$Field;" ∈ gWs) (hdg : decode cc pc = .ok (.getfield idx, 3)) (kk : W p l e R s m args below meth c H locs cells slots Q (F0 m (pc + 3) ls (.ref (ad 27) :: rest))) : W p l e R s m args below meth c H locs cells slots Q (F0 m pc ls (.ref (ad 47) :: rest)) := va_get (D := D) (ci := 5) (C := RX5) (T := TX5) (N := 15) C.1 C.2.1 C.2.2.1 gLx5 C.2.2.2.1 C.2.2.2.2 hP.1 47 rfl rfl 2 (by decide) (C.2.2.1 _ hm) (fun _ h9 => h9) rfl hdg kk
theorem rwG_results_tries (C : gC D k p s m args c cc own) (hP : gWd D (rwW k ad) v f g H) (hm : Cond.fieldLink own idx "RouteWall$Results" "tries" "LRouteWall$Tries;" ∈ gWs) (hdg : decode cc pc = .ok (.getfield idx, 3)) (kk : W p l e R s m args below meth c H locs cells slots Q (F0 m (pc + 3) ls (.ref (ad 30) :: rest))) : W p l e R s m args below meth c H locs cells slots Q (F0 m pc ls (.ref (ad 47) :: rest)) := va_get (D := D) (ci := 5) (C := RX5) (T := TX5) (N := 15) C.1 C.2.1 C.2.2.1 gLx5 C.2.2.2.1 C.2.2.2.2 hP.1 47 rfl rfl 3 (by decide) (C.2.2.1 _ hm) (fun _ h9 => h9) rfl hdg kk
theorem rwG_results_appeals (C : gC D k p s m args c cc own) (hP : gWd D (rwW k ad) v f g H) (hm : Cond.fieldLink own idx "RouteWall$Results" "appeals" "LRouteWall$Appeals;" ∈ gWs) (hdg : decode cc pc = .ok (.getfield idx, 3)) (kk : W p l e R s m args below meth c H locs cells slots Q (F0 m (pc + 3) ls (.ref (ad 39) :: rest))) : W p l e R s m args below meth c H locs cells slots Q (F0 m pc ls (.ref (ad 47) :: rest)) := va_get (D := D) (ci := 5) (C := RX5) (T := TX5) (N := 15) C.1 C.2.1 C.2.2.1 gLx5 C.2.2.2.1 C.2.2.2.2 hP.1 47 rfl rfl 4 (by decide) (C.2.2.1 _ hm) (fun _ h9 => h9) rfl hdg kk
theorem rwG_results_known (C : gC D k p s m args c cc own) (hP : gWd D (rwW k ad) v f g H) (hm : Cond.fieldLink own idx "RouteWall$Results" "known" "[I" ∈ gWs) (hdg : decode cc pc = .ok (.getfield idx, 3)) (kk : W p l e R s m args below meth c H locs cells slots Q (F0 m (pc + 3) ls (.ref (ad 48) :: rest))) : W p l e R s m args below meth c H locs cells slots Q (F0 m pc ls (.ref (ad 47) :: rest)) := va_get (D := D) (ci := 5) (C := RX5) (T := TX5) (N := 15) C.1 C.2.1 C.2.2.1 gLx5 C.2.2.2.1 C.2.2.2.2 hP.1 47 rfl rfl 5 (by decide) (C.2.2.1 _ hm) (fun _ h9 => h9) rfl hdg kk
theorem rwG_results_knownDay (C : gC D k p s m args c cc own) (hP : gWd D (rwW k ad) v f g H) (hm : Cond.fieldLink own idx "RouteWall$Results" "knownDay" "[I" ∈ gWs) (hdg : decode cc pc = .ok (.getfield idx, 3)) (kk : W p l e R s m args below meth c H locs cells slots Q (F0 m (pc + 3) ls (.ref (ad 49) :: rest))) : W p l e R s m args below meth c H locs cells slots Q (F0 m pc ls (.ref (ad 47) :: rest)) := va_get (D := D) (ci := 5) (C := RX5) (T := TX5) (N := 15) C.1 C.2.1 C.2.2.1 gLx5 C.2.2.2.1 C.2.2.2.2 hP.1 47 rfl rfl 6 (by decide) (C.2.2.1 _ hm) (fun _ h9 => h9) rfl hdg kk
theorem rwG_results_counted (C : gC D k p s m args c cc own) (hP : gWd D (rwW k ad) v f g H) (hm : Cond.fieldLink own idx "RouteWall$Results" "counted" "[I" ∈ gWs) (hdg : decode cc pc = .ok (.getfield idx, 3)) (kk : W p l e R s m args below meth c H locs cells slots Q (F0 m (pc + 3) ls (.ref (ad 50) :: rest))) : W p l e R s m args below meth c H locs cells slots Q (F0 m pc ls (.ref (ad 47) :: rest)) := va_get (D := D) (ci := 5) (C := RX5) (T := TX5) (N := 15) C.1 C.2.1 C.2.2.1 gLx5 C.2.2.2.1 C.2.2.2.2 hP.1 47 rfl rfl 7 (by decide) (C.2.2.1 _ hm) (fun _ h9 => h9) rfl hdg kk
theorem rwG_results_best (C : gC D k p s m args c cc own) (hP : gWd D (rwW k ad) v f g H) (hm : Cond.fieldLink own idx "RouteWall$Results" "best" "[I" ∈ gWs) (hdg : decode cc pc = .ok (.getfield idx, 3)) (kk : W p l e R s m args below meth c H locs cells slots Q (F0 m (pc + 3) ls (.ref (ad 51) :: rest))) : W p l e R s m args below meth c H locs cells slots Q (F0 m pc ls (.ref (ad 47) :: rest)) := va_get (D := D) (ci := 5) (C := RX5) (T := TX5) (N := 15) C.1 C.2.1 C.2.2.1 gLx5 C.2.2.2.1 C.2.2.2.2 hP.1 47 rfl rfl 8 (by decide) (C.2.2.1 _ hm) (fun _ h9 => h9) rfl hdg kk
theorem rwG_results_bestNumber (C : gC D k p s m args c cc own) (hP : gWd D (rwW k ad) v f g H) (hm : Cond.fieldLink own idx "RouteWall$Results" "bestNumber" "[I" ∈ gWs) (hdg : decode cc pc = .ok (.getfield idx, 3)) (kk : W p l e R s m args below meth c H locs cells slots Q (F0 m (pc + 3) ls (.ref (ad 52) :: rest))) : W p l e R s m args below meth c H locs cells slots Q (F0 m pc ls (.ref (ad 47) :: rest)) := va_get (D := D) (ci := 5) (C := RX5) (T := TX5) (N := 15) C.1 C.2.1 C.2.2.1 gLx5 C.2.2.2.1 C.2.2.2.2 hP.1 47 rfl rfl 9 (by decide) (C.2.2.1 _ hm) (fun _ h9 => h9) rfl hdg kk
theorem rwG_results_facts (C : gC D k p s m args c cc own) (hP : gWd D (rwW k ad) v f g H) (hm : Cond.fieldLink own idx "RouteWall$Results" "facts" "[I" ∈ gWs) (hdg : decode cc pc = .ok (.getfield idx, 3)) (kk : W p l e R s m args below meth c H locs cells slots Q (F0 m (pc + 3) ls (.ref (ad 53) :: rest))) : W p l e R s m args below meth c H locs cells slots Q (F0 m pc ls (.ref (ad 47) :: rest)) := va_get (D := D) (ci := 5) (C := RX5) (T := TX5) (N := 15) C.1 C.2.1 C.2.2.1 gLx5 C.2.2.2.1 C.2.2.2.2 hP.1 47 rfl rfl 10 (by decide) (C.2.2.1 _ hm) (fun _ h9 => h9) rfl hdg kk
theorem rwG_results_points (C : gC D k p s m args c cc own) (hP : gWd D (rwW k ad) v f g H) (hm : Cond.fieldLink own idx "RouteWall$Results" "points" "[I" ∈ gWs) (hdg : decode cc pc = .ok (.getfield idx, 3)) (kk : W p l e R s m args below meth c H locs cells slots Q (F0 m (pc + 3) ls (.ref (ad 54) :: rest))) : W p l e R s m args below meth c H locs cells slots Q (F0 m pc ls (.ref (ad 47) :: rest)) := va_get (D := D) (ci := 5) (C := RX5) (T := TX5) (N := 15) C.1 C.2.1 C.2.2.1 gLx5 C.2.2.2.1 C.2.2.2.2 hP.1 47 rfl rfl 11 (by decide) (C.2.2.1 _ hm) (fun _ h9 => h9) rfl hdg kk
theorem rwG_results_totals (C : gC D k p s m args c cc own) (hP : gWd D (rwW k ad) v f g H) (hm : Cond.fieldLink own idx "RouteWall$Results" "totals" "[J" ∈ gWs) (hdg : decode cc pc = .ok (.getfield idx, 3)) (kk : W p l e R s m args below meth c H locs cells slots Q (F0 m (pc + 3) ls (.ref (ad 55) :: rest))) : W p l e R s m args below meth c H locs cells slots Q (F0 m pc ls (.ref (ad 47) :: rest)) := va_get (D := D) (ci := 5) (C := RX5) (T := TX5) (N := 15) C.1 C.2.1 C.2.2.1 gLx5 C.2.2.2.1 C.2.2.2.2 hP.1 47 rfl rfl 12 (by decide) (C.2.2.1 _ hm) (fun _ h9 => h9) rfl hdg kk
theorem rwG_results_keyRows (C : gC D k p s m args c cc own) (hP : gWd D (rwW k ad) v f g H) (hm : Cond.fieldLink own idx "RouteWall$Results" "keyRows" "[J" ∈ gWs) (hdg : decode cc pc = .ok (.getfield idx, 3)) (kk : W p l e R s m args below meth c H locs cells slots Q (F0 m (pc + 3) ls (.ref (ad 56) :: rest))) : W p l e R s m args below meth c H locs cells slots Q (F0 m pc ls (.ref (ad 47) :: rest)) := va_get (D := D) (ci := 5) (C := RX5) (T := TX5) (N := 15) C.1 C.2.1 C.2.2.1 gLx5 C.2.2.2.1 C.2.2.2.2 hP.1 47 rfl rfl 13 (by decide) (C.2.2.1 _ hm) (fun _ h9 => h9) rfl hdg kk
theorem rwG_results_ranks (C : gC D k p s m args c cc own) (hP : gWd D (rwW k ad) v f g H) (hm : Cond.fieldLink own idx "RouteWall$Results" "ranks" "[I" ∈ gWs) (hdg : decode cc pc = .ok (.getfield idx, 3)) (kk : W p l e R s m args below meth c H locs cells slots Q (F0 m (pc + 3) ls (.ref (ad 57) :: rest))) : W p l e R s m args below meth c H locs cells slots Q (F0 m pc ls (.ref (ad 47) :: rest)) := va_get (D := D) (ci := 5) (C := RX5) (T := TX5) (N := 15) C.1 C.2.1 C.2.2.1 gLx5 C.2.2.2.1 C.2.2.2.2 hP.1 47 rfl rfl 14 (by decide) (C.2.2.1 _ hm) (fun _ h9 => h9) rfl hdg kk
theorem rwL_results_known (C : gC D k p s m args c cc own) (hP : gWd D (rwW k ad) v f g H) {i : Int} (h0 : 0 ≤ i) (h1 : i < 300) (hdg : decode cc pc = .ok (.iaload, 1)) (kk : W p l e R s m args below meth c H locs cells slots Q (F0 m (pc + 1) ls (.int (iI (f 34 i)) :: rest))) : W p l e R s m args below meth c H locs cells slots Q (F0 m pc ls (.int (iI i) :: .ref (ad 48) :: rest)) := g_iald C hP.1 48 rfl (by decide) h0 h1 hdg kk
theorem rwS_results_known (C : gC D k p s m args c cc own) (hP : gWd D (rwW k ad) v f g H) (hD : rwD A k ad) (hS : va_S A H0 H locs) {i x : Int} {f1 : gF} (h0 : 0 ≤ i) (h1 : i < 300) (hx : inR x) (hv : (rwW k ad) v (va_up f 34 (u1 (f 34) i x)) g = (rwW k ad) v f1 g) (hv2 : va_up f 34 (u1 (f 34) i x) = f1 ∨ gOk v f1) (hdg : decode cc pc = .ok (.iastore, 1)) (kk : ∀ (H1 : Heap) (locs1 : List Loc), gWd D (rwW k ad) v f1 g H1 → va_S A H0 H1 locs1 → W p l e R s m args below meth c H1 locs1 cells slots Q (F0 m (pc + 1) ls rest)) : W p l e R s m args below meth c H locs cells slots Q (F0 m pc ls (.int (iI x) :: .int (iI i) :: .ref (ad 48) :: rest)) := g_iast C hP.1 (hD v f g) hS 48 rfl (by decide) h0 h1 (ws' := (rwW k ad) v f1 g) (by rw [← hv]; rfl) hdg (fun H1 locs1 h1 h3 => kk H1 locs1 ⟨h1, hv2.elim (fun q => q ▸ gF_up hP.2 34 (u1_rng (hP.2.2 34) hx)) id⟩ h3)
theorem rwN_results_known (C : gC D k p s m args c cc own) (hP : gWd D (rwW k ad) v f g H) (hdg : decode cc pc = .ok (.arraylength, 1)) (kk : W p l e R s m args below meth c H locs cells slots Q (F0 m (pc + 1) ls (.int (iI 300) :: rest))) : W p l e R s m args below meth c H locs cells slots Q (F0 m pc ls (.ref (ad 48) :: rest)) := va_alen (D := D) C.1 C.2.1 C.2.2.2.2 hP.1 48 0 rfl rfl (v := iI 300) rfl hdg kk
theorem rwL_results_knownDay (C : gC D k p s m args c cc own) (hP : gWd D (rwW k ad) v f g H) {i : Int} (h0 : 0 ≤ i) (h1 : i < 300) (hdg : decode cc pc = .ok (.iaload, 1)) (kk : W p l e R s m args below meth c H locs cells slots Q (F0 m (pc + 1) ls (.int (iI (f 35 i)) :: rest))) : W p l e R s m args below meth c H locs cells slots Q (F0 m pc ls (.int (iI i) :: .ref (ad 49) :: rest)) := g_iald C hP.1 49 rfl (by decide) h0 h1 hdg kk
theorem rwS_results_knownDay (C : gC D k p s m args c cc own) (hP : gWd D (rwW k ad) v f g H) (hD : rwD A k ad) (hS : va_S A H0 H locs) {i x : Int} {f1 : gF} (h0 : 0 ≤ i) (h1 : i < 300) (hx : inR x) (hv : (rwW k ad) v (va_up f 35 (u1 (f 35) i x)) g = (rwW k ad) v f1 g) (hv2 : va_up f 35 (u1 (f 35) i x) = f1 ∨ gOk v f1) (hdg : decode cc pc = .ok (.iastore, 1)) (kk : ∀ (H1 : Heap) (locs1 : List Loc), gWd D (rwW k ad) v f1 g H1 → va_S A H0 H1 locs1 → W p l e R s m args below meth c H1 locs1 cells slots Q (F0 m (pc + 1) ls rest)) : W p l e R s m args below meth c H locs cells slots Q (F0 m pc ls (.int (iI x) :: .int (iI i) :: .ref (ad 49) :: rest)) := g_iast C hP.1 (hD v f g) hS 49 rfl (by decide) h0 h1 (ws' := (rwW k ad) v f1 g) (by rw [← hv]; rfl) hdg (fun H1 locs1 h1 h3 => kk H1 locs1 ⟨h1, hv2.elim (fun q => q ▸ gF_up hP.2 35 (u1_rng (hP.2.2 35) hx)) id⟩ h3)
theorem rwN_results_knownDay (C : gC D k p s m args c cc own) (hP : gWd D (rwW k ad) v f g H) (hdg : decode cc pc = .ok (.arraylength, 1)) (kk : W p l e R s m args below meth c H locs cells slots Q (F0 m (pc + 1) ls (.int (iI 300) :: rest))) : W p l e R s m args below meth c H locs cells slots Q (F0 m pc ls (.ref (ad 49) :: rest)) := va_alen (D := D) C.1 C.2.1 C.2.2.2.2 hP.1 49 0 rfl rfl (v := iI 300) rfl hdg kk
theorem rwL_results_counted (C : gC D k p s m args c cc own) (hP : gWd D (rwW k ad) v f g H) {i : Int} (h0 : 0 ≤ i) (h1 : i < 320) (hdg : decode cc pc = .ok (.iaload, 1)) (kk : W p l e R s m args below meth c H locs cells slots Q (F0 m (pc + 1) ls (.int (iI (f 36 i)) :: rest))) : W p l e R s m args below meth c H locs cells slots Q (F0 m pc ls (.int (iI i) :: .ref (ad 50) :: rest)) := g_iald C hP.1 50 rfl (by decide) h0 h1 hdg kk
theorem rwS_results_counted (C : gC D k p s m args c cc own) (hP : gWd D (rwW k ad) v f g H) (hD : rwD A k ad) (hS : va_S A H0 H locs) {i x : Int} {f1 : gF} (h0 : 0 ≤ i) (h1 : i < 320) (hx : inR x) (hv : (rwW k ad) v (va_up f 36 (u1 (f 36) i x)) g = (rwW k ad) v f1 g) (hv2 : va_up f 36 (u1 (f 36) i x) = f1 ∨ gOk v f1) (hdg : decode cc pc = .ok (.iastore, 1)) (kk : ∀ (H1 : Heap) (locs1 : List Loc), gWd D (rwW k ad) v f1 g H1 → va_S A H0 H1 locs1 → W p l e R s m args below meth c H1 locs1 cells slots Q (F0 m (pc + 1) ls rest)) : W p l e R s m args below meth c H locs cells slots Q (F0 m pc ls (.int (iI x) :: .int (iI i) :: .ref (ad 50) :: rest)) := g_iast C hP.1 (hD v f g) hS 50 rfl (by decide) h0 h1 (ws' := (rwW k ad) v f1 g) (by rw [← hv]; rfl) hdg (fun H1 locs1 h1 h3 => kk H1 locs1 ⟨h1, hv2.elim (fun q => q ▸ gF_up hP.2 36 (u1_rng (hP.2.2 36) hx)) id⟩ h3)
theorem rwN_results_counted (C : gC D k p s m args c cc own) (hP : gWd D (rwW k ad) v f g H) (hdg : decode cc pc = .ok (.arraylength, 1)) (kk : W p l e R s m args below meth c H locs cells slots Q (F0 m (pc + 1) ls (.int (iI 320) :: rest))) : W p l e R s m args below meth c H locs cells slots Q (F0 m pc ls (.ref (ad 50) :: rest)) := va_alen (D := D) C.1 C.2.1 C.2.2.2.2 hP.1 50 0 rfl rfl (v := iI 320) rfl hdg kk
theorem rwL_results_best (C : gC D k p s m args c cc own) (hP : gWd D (rwW k ad) v f g H) {i : Int} (h0 : 0 ≤ i) (h1 : i < 320) (hdg : decode cc pc = .ok (.iaload, 1)) (kk : W p l e R s m args below meth c H locs cells slots Q (F0 m (pc + 1) ls (.int (iI (f 37 i)) :: rest))) : W p l e R s m args below meth c H locs cells slots Q (F0 m pc ls (.int (iI i) :: .ref (ad 51) :: rest)) := g_iald C hP.1 51 rfl (by decide) h0 h1 hdg kk
theorem rwS_results_best (C : gC D k p s m args c cc own) (hP : gWd D (rwW k ad) v f g H) (hD : rwD A k ad) (hS : va_S A H0 H locs) {i x : Int} {f1 : gF} (h0 : 0 ≤ i) (h1 : i < 320) (hx : inR x) (hv : (rwW k ad) v (va_up f 37 (u1 (f 37) i x)) g = (rwW k ad) v f1 g) (hv2 : va_up f 37 (u1 (f 37) i x) = f1 ∨ gOk v f1) (hdg : decode cc pc = .ok (.iastore, 1)) (kk : ∀ (H1 : Heap) (locs1 : List Loc), gWd D (rwW k ad) v f1 g H1 → va_S A H0 H1 locs1 → W p l e R s m args below meth c H1 locs1 cells slots Q (F0 m (pc + 1) ls rest)) : W p l e R s m args below meth c H locs cells slots Q (F0 m pc ls (.int (iI x) :: .int (iI i) :: .ref (ad 51) :: rest)) := g_iast C hP.1 (hD v f g) hS 51 rfl (by decide) h0 h1 (ws' := (rwW k ad) v f1 g) (by rw [← hv]; rfl) hdg (fun H1 locs1 h1 h3 => kk H1 locs1 ⟨h1, hv2.elim (fun q => q ▸ gF_up hP.2 37 (u1_rng (hP.2.2 37) hx)) id⟩ h3)
theorem rwN_results_best (C : gC D k p s m args c cc own) (hP : gWd D (rwW k ad) v f g H) (hdg : decode cc pc = .ok (.arraylength, 1)) (kk : W p l e R s m args below meth c H locs cells slots Q (F0 m (pc + 1) ls (.int (iI 320) :: rest))) : W p l e R s m args below meth c H locs cells slots Q (F0 m pc ls (.ref (ad 51) :: rest)) := va_alen (D := D) C.1 C.2.1 C.2.2.2.2 hP.1 51 0 rfl rfl (v := iI 320) rfl hdg kk
theorem rwL_results_bestNumber (C : gC D k p s m args c cc own) (hP : gWd D (rwW k ad) v f g H) {i : Int} (h0 : 0 ≤ i) (h1 : i < 320) (hdg : decode cc pc = .ok (.iaload, 1)) (kk : W p l e R s m args below meth c H locs cells slots Q (F0 m (pc + 1) ls (.int (iI (f 38 i)) :: rest))) : W p l e R s m args below meth c H locs cells slots Q (F0 m pc ls (.int (iI i) :: .ref (ad 52) :: rest)) := g_iald C hP.1 52 rfl (by decide) h0 h1 hdg kk
theorem rwS_results_bestNumber (C : gC D k p s m args c cc own) (hP : gWd D (rwW k ad) v f g H) (hD : rwD A k ad) (hS : va_S A H0 H locs) {i x : Int} {f1 : gF} (h0 : 0 ≤ i) (h1 : i < 320) (hx : inR x) (hv : (rwW k ad) v (va_up f 38 (u1 (f 38) i x)) g = (rwW k ad) v f1 g) (hv2 : va_up f 38 (u1 (f 38) i x) = f1 ∨ gOk v f1) (hdg : decode cc pc = .ok (.iastore, 1)) (kk : ∀ (H1 : Heap) (locs1 : List Loc), gWd D (rwW k ad) v f1 g H1 → va_S A H0 H1 locs1 → W p l e R s m args below meth c H1 locs1 cells slots Q (F0 m (pc + 1) ls rest)) : W p l e R s m args below meth c H locs cells slots Q (F0 m pc ls (.int (iI x) :: .int (iI i) :: .ref (ad 52) :: rest)) := g_iast C hP.1 (hD v f g) hS 52 rfl (by decide) h0 h1 (ws' := (rwW k ad) v f1 g) (by rw [← hv]; rfl) hdg (fun H1 locs1 h1 h3 => kk H1 locs1 ⟨h1, hv2.elim (fun q => q ▸ gF_up hP.2 38 (u1_rng (hP.2.2 38) hx)) id⟩ h3)
theorem rwN_results_bestNumber (C : gC D k p s m args c cc own) (hP : gWd D (rwW k ad) v f g H) (hdg : decode cc pc = .ok (.arraylength, 1)) (kk : W p l e R s m args below meth c H locs cells slots Q (F0 m (pc + 1) ls (.int (iI 320) :: rest))) : W p l e R s m args below meth c H locs cells slots Q (F0 m pc ls (.ref (ad 52) :: rest)) := va_alen (D := D) C.1 C.2.1 C.2.2.2.2 hP.1 52 0 rfl rfl (v := iI 320) rfl hdg kk
theorem rwL_results_facts (C : gC D k p s m args c cc own) (hP : gWd D (rwW k ad) v f g H) {i : Int} (h0 : 0 ≤ i) (h1 : i < 6) (hdg : decode cc pc = .ok (.iaload, 1)) (kk : W p l e R s m args below meth c H locs cells slots Q (F0 m (pc + 1) ls (.int (iI (f 39 i)) :: rest))) : W p l e R s m args below meth c H locs cells slots Q (F0 m pc ls (.int (iI i) :: .ref (ad 53) :: rest)) := g_iald C hP.1 53 rfl (by decide) h0 h1 hdg kk
theorem rwS_results_facts (C : gC D k p s m args c cc own) (hP : gWd D (rwW k ad) v f g H) (hD : rwD A k ad) (hS : va_S A H0 H locs) {i x : Int} {f1 : gF} (h0 : 0 ≤ i) (h1 : i < 6) (hx : inR x) (hv : (rwW k ad) v (va_up f 39 (u1 (f 39) i x)) g = (rwW k ad) v f1 g) (hv2 : va_up f 39 (u1 (f 39) i x) = f1 ∨ gOk v f1) (hdg : decode cc pc = .ok (.iastore, 1)) (kk : ∀ (H1 : Heap) (locs1 : List Loc), gWd D (rwW k ad) v f1 g H1 → va_S A H0 H1 locs1 → W p l e R s m args below meth c H1 locs1 cells slots Q (F0 m (pc + 1) ls rest)) : W p l e R s m args below meth c H locs cells slots Q (F0 m pc ls (.int (iI x) :: .int (iI i) :: .ref (ad 53) :: rest)) := g_iast C hP.1 (hD v f g) hS 53 rfl (by decide) h0 h1 (ws' := (rwW k ad) v f1 g) (by rw [← hv]; rfl) hdg (fun H1 locs1 h1 h3 => kk H1 locs1 ⟨h1, hv2.elim (fun q => q ▸ gF_up hP.2 39 (u1_rng (hP.2.2 39) hx)) id⟩ h3)
theorem rwN_results_facts (C : gC D k p s m args c cc own) (hP : gWd D (rwW k ad) v f g H) (hdg : decode cc pc = .ok (.arraylength, 1)) (kk : W p l e R s m args below meth c H locs cells slots Q (F0 m (pc + 1) ls (.int (iI 6) :: rest))) : W p l e R s m args below meth c H locs cells slots Q (F0 m pc ls (.ref (ad 53) :: rest)) := va_alen (D := D) C.1 C.2.1 C.2.2.2.2 hP.1 53 0 rfl rfl (v := iI 6) rfl hdg kk
theorem rwL_results_points (C : gC D k p s m args c cc own) (hP : gWd D (rwW k ad) v f g H) {i : Int} (h0 : 0 ≤ i) (h1 : i < 80) (hdg : decode cc pc = .ok (.iaload, 1)) (kk : W p l e R s m args below meth c H locs cells slots Q (F0 m (pc + 1) ls (.int (iI (f 40 i)) :: rest))) : W p l e R s m args below meth c H locs cells slots Q (F0 m pc ls (.int (iI i) :: .ref (ad 54) :: rest)) := g_iald C hP.1 54 rfl (by decide) h0 h1 hdg kk
theorem rwS_results_points (C : gC D k p s m args c cc own) (hP : gWd D (rwW k ad) v f g H) (hD : rwD A k ad) (hS : va_S A H0 H locs) {i x : Int} {f1 : gF} (h0 : 0 ≤ i) (h1 : i < 80) (hx : inR x) (hv : (rwW k ad) v (va_up f 40 (u1 (f 40) i x)) g = (rwW k ad) v f1 g) (hv2 : va_up f 40 (u1 (f 40) i x) = f1 ∨ gOk v f1) (hdg : decode cc pc = .ok (.iastore, 1)) (kk : ∀ (H1 : Heap) (locs1 : List Loc), gWd D (rwW k ad) v f1 g H1 → va_S A H0 H1 locs1 → W p l e R s m args below meth c H1 locs1 cells slots Q (F0 m (pc + 1) ls rest)) : W p l e R s m args below meth c H locs cells slots Q (F0 m pc ls (.int (iI x) :: .int (iI i) :: .ref (ad 54) :: rest)) := g_iast C hP.1 (hD v f g) hS 54 rfl (by decide) h0 h1 (ws' := (rwW k ad) v f1 g) (by rw [← hv]; rfl) hdg (fun H1 locs1 h1 h3 => kk H1 locs1 ⟨h1, hv2.elim (fun q => q ▸ gF_up hP.2 40 (u1_rng (hP.2.2 40) hx)) id⟩ h3)
theorem rwN_results_points (C : gC D k p s m args c cc own) (hP : gWd D (rwW k ad) v f g H) (hdg : decode cc pc = .ok (.arraylength, 1)) (kk : W p l e R s m args below meth c H locs cells slots Q (F0 m (pc + 1) ls (.int (iI 80) :: rest))) : W p l e R s m args below meth c H locs cells slots Q (F0 m pc ls (.ref (ad 54) :: rest)) := va_alen (D := D) C.1 C.2.1 C.2.2.2.2 hP.1 54 0 rfl rfl (v := iI 80) rfl hdg kk
theorem rwL_results_totals (C : gC D k p s m args c cc own) (hP : gWd D (rwW k ad) v f g H) {i : Int} (h0 : 0 ≤ i) (h1 : i < 4) (hdg : decode cc pc = .ok (.laload, 1)) (kk : W p l e R s m args below meth c H locs cells slots Q (F0 m (pc + 1) ls (.long (iL (g 2 i)) :: rest))) : W p l e R s m args below meth c H locs cells slots Q (F0 m pc ls (.int (iI i) :: .ref (ad 55) :: rest)) := g_lald C hP.1 55 rfl (by decide) h0 h1 hdg kk
theorem rwS_results_totals (C : gC D k p s m args c cc own) (hP : gWd D (rwW k ad) v f g H) (hD : rwD A k ad) (hS : va_S A H0 H locs) {i x : Int} {g1 : gF} (h0 : 0 ≤ i) (h1 : i < 4) (hv : (rwW k ad) v f (va_up g 2 (u1 (g 2) i x)) = (rwW k ad) v f g1) (hdg : decode cc pc = .ok (.lastore, 1)) (kk : ∀ (H1 : Heap) (locs1 : List Loc), gWd D (rwW k ad) v f g1 H1 → va_S A H0 H1 locs1 → W p l e R s m args below meth c H1 locs1 cells slots Q (F0 m (pc + 1) ls rest)) : W p l e R s m args below meth c H locs cells slots Q (F0 m pc ls (.long (iL x) :: .int (iI i) :: .ref (ad 55) :: rest)) := g_last C hP.1 (hD v f g) hS 55 rfl (by decide) h0 h1 (ws' := (rwW k ad) v f g1) (by rw [← hv]; rfl) hdg (fun H1 locs1 h1 h3 => kk H1 locs1 ⟨h1, hP.2⟩ h3)
theorem rwN_results_totals (C : gC D k p s m args c cc own) (hP : gWd D (rwW k ad) v f g H) (hdg : decode cc pc = .ok (.arraylength, 1)) (kk : W p l e R s m args below meth c H locs cells slots Q (F0 m (pc + 1) ls (.int (iI 4) :: rest))) : W p l e R s m args below meth c H locs cells slots Q (F0 m pc ls (.ref (ad 55) :: rest)) := va_alen (D := D) C.1 C.2.1 C.2.2.2.2 hP.1 55 1 rfl rfl (v := iI 4) rfl hdg kk
theorem rwL_results_keyRows (C : gC D k p s m args c cc own) (hP : gWd D (rwW k ad) v f g H) {i : Int} (h0 : 0 ≤ i) (h1 : i < 256) (hdg : decode cc pc = .ok (.laload, 1)) (kk : W p l e R s m args below meth c H locs cells slots Q (F0 m (pc + 1) ls (.long (iL (g 3 i)) :: rest))) : W p l e R s m args below meth c H locs cells slots Q (F0 m pc ls (.int (iI i) :: .ref (ad 56) :: rest)) := g_lald C hP.1 56 rfl (by decide) h0 h1 hdg kk
theorem rwS_results_keyRows (C : gC D k p s m args c cc own) (hP : gWd D (rwW k ad) v f g H) (hD : rwD A k ad) (hS : va_S A H0 H locs) {i x : Int} {g1 : gF} (h0 : 0 ≤ i) (h1 : i < 256) (hv : (rwW k ad) v f (va_up g 3 (u1 (g 3) i x)) = (rwW k ad) v f g1) (hdg : decode cc pc = .ok (.lastore, 1)) (kk : ∀ (H1 : Heap) (locs1 : List Loc), gWd D (rwW k ad) v f g1 H1 → va_S A H0 H1 locs1 → W p l e R s m args below meth c H1 locs1 cells slots Q (F0 m (pc + 1) ls rest)) : W p l e R s m args below meth c H locs cells slots Q (F0 m pc ls (.long (iL x) :: .int (iI i) :: .ref (ad 56) :: rest)) := g_last C hP.1 (hD v f g) hS 56 rfl (by decide) h0 h1 (ws' := (rwW k ad) v f g1) (by rw [← hv]; rfl) hdg (fun H1 locs1 h1 h3 => kk H1 locs1 ⟨h1, hP.2⟩ h3)
theorem rwN_results_keyRows (C : gC D k p s m args c cc own) (hP : gWd D (rwW k ad) v f g H) (hdg : decode cc pc = .ok (.arraylength, 1)) (kk : W p l e R s m args below meth c H locs cells slots Q (F0 m (pc + 1) ls (.int (iI 256) :: rest))) : W p l e R s m args below meth c H locs cells slots Q (F0 m pc ls (.ref (ad 56) :: rest)) := va_alen (D := D) C.1 C.2.1 C.2.2.2.2 hP.1 56 1 rfl rfl (v := iI 256) rfl hdg kk
theorem rwL_results_ranks (C : gC D k p s m args c cc own) (hP : gWd D (rwW k ad) v f g H) {i : Int} (h0 : 0 ≤ i) (h1 : i < 16) (hdg : decode cc pc = .ok (.iaload, 1)) (kk : W p l e R s m args below meth c H locs cells slots Q (F0 m (pc + 1) ls (.int (iI (f 41 i)) :: rest))) : W p l e R s m args below meth c H locs cells slots Q (F0 m pc ls (.int (iI i) :: .ref (ad 57) :: rest)) := g_iald C hP.1 57 rfl (by decide) h0 h1 hdg kk
theorem rwS_results_ranks (C : gC D k p s m args c cc own) (hP : gWd D (rwW k ad) v f g H) (hD : rwD A k ad) (hS : va_S A H0 H locs) {i x : Int} {f1 : gF} (h0 : 0 ≤ i) (h1 : i < 16) (hx : inR x) (hv : (rwW k ad) v (va_up f 41 (u1 (f 41) i x)) g = (rwW k ad) v f1 g) (hv2 : va_up f 41 (u1 (f 41) i x) = f1 ∨ gOk v f1) (hdg : decode cc pc = .ok (.iastore, 1)) (kk : ∀ (H1 : Heap) (locs1 : List Loc), gWd D (rwW k ad) v f1 g H1 → va_S A H0 H1 locs1 → W p l e R s m args below meth c H1 locs1 cells slots Q (F0 m (pc + 1) ls rest)) : W p l e R s m args below meth c H locs cells slots Q (F0 m pc ls (.int (iI x) :: .int (iI i) :: .ref (ad 57) :: rest)) := g_iast C hP.1 (hD v f g) hS 57 rfl (by decide) h0 h1 (ws' := (rwW k ad) v f1 g) (by rw [← hv]; rfl) hdg (fun H1 locs1 h1 h3 => kk H1 locs1 ⟨h1, hv2.elim (fun q => q ▸ gF_up hP.2 41 (u1_rng (hP.2.2 41) hx)) id⟩ h3)
theorem rwN_results_ranks (C : gC D k p s m args c cc own) (hP : gWd D (rwW k ad) v f g H) (hdg : decode cc pc = .ok (.arraylength, 1)) (kk : W p l e R s m args below meth c H locs cells slots Q (F0 m (pc + 1) ls (.int (iI 16) :: rest))) : W p l e R s m args below meth c H locs cells slots Q (F0 m pc ls (.ref (ad 57) :: rest)) := va_alen (D := D) C.1 C.2.1 C.2.2.2.2 hP.1 57 0 rfl rfl (v := iI 16) rfl hdg kk
end Grw
end
section
def mdW (k : Nat → ClassId) (ad : Nat → Nat) (v : gV) (f g : gF) : va_W := [(ad 0, .inr (11, [.int (iI (v 0)), .int (iI (v 1)), .ref (ad 1), .int (iI (v 2)), .int (iI (v 3)), .int (iI (v 4)), .int (iI (v 5)), .int (iI (v 6)), .int (iI (v 7)), .int (iI (v 8)), .int (iI (v 9)), .int (iI (v 10)), .int (iI (v 11)), .long (iL (g 0 0)), .int (iI (v 12)), .int (iI (v 13)), .int (iI (v 14)), .int (iI (v 15)), .int (iI (v 16)), .int (iI (v 17)), .int (iI (v 18)), .int (iI (v 19)), .ref (ad 2), .ref (ad 3), .ref (ad 4), .ref (ad 5), .ref (ad 6), .ref (ad 7), .ref (ad 8), .ref (ad 9), .ref (ad 10), .ref (ad 11), .ref (ad 12), .ref (ad 13), .ref (ad 14), .ref (ad 15), .ref (ad 16), .ref (ad 17), .ref (ad 18), .int (iI (v 20)), .int (iI (v 21)), .ref (ad 19), .ref (ad 20), .ref (ad 21), .int (iI (v 22)), .int (iI (v 23)), .int (iI (v 24)), .ref (ad 22), .ref (ad 23), .ref (ad 24), .int (iI (v 25)), .ref (ad 25), .ref (ad 26), .ref (ad 27), .ref (ad 28), .ref (ad 29), .ref (ad 30), .ref (ad 31), .int (iI (v 26)), .ref (ad 32), .ref (ad 33), .ref (ad 34), .ref (ad 35), .ref (ad 36), .ref (ad 37), .int (iI (v 27)), .ref (ad 38), .ref (ad 39), .ref (ad 40), .ref (ad 41)])), (ad 1, rI (k 2) 700 (f 0)), (ad 2, rI (k 0) 4 (f 1)), (ad 3, rI (k 0) 4 (f 2)), (ad 4, rI (k 0) 4 (f 3)), (ad 5, rI (k 0) 4 (f 4)), (ad 6, rI (k 0) 5 (f 5)), (ad 7, rI (k 0) 5 (f 6)), (ad 8, rI (k 0) 5 (f 7)), (ad 9, rI (k 0) 5 (f 8)), (ad 10, rI (k 0) 40 (f 9)), (ad 11, rI (k 0) 40 (f 10)), (ad 12, rI (k 0) 41 (f 11)), (ad 13, rI (k 0) 41 (f 12)), (ad 14, rI (k 0) 4 (f 13)), (ad 15, rI (k 0) 5 (f 14)), (ad 16, rI (k 3) 4 (f 15)), (ad 17, rI (k 3) 5 (f 16)), (ad 18, rI (k 0) 64 (f 17)), (ad 19, rI (k 0) 20 (f 18)), (ad 20, rI (k 0) 60 (f 19)), (ad 21, rI (k 0) 20 (f 20)), (ad 22, rI (k 3) 64 (f 21)), (ad 23, rI (k 0) 64 (f 22)), (ad 24, rI (k 0) 4 (f 23)), (ad 25, rI (k 0) 300 (f 24)), (ad 26, rI (k 0) 300 (f 25)), (ad 27, rI (k 0) 300 (f 26)), (ad 28, rI (k 0) 300 (f 27)), (ad 29, rI (k 0) 300 (f 28)), (ad 30, rI (k 0) 300 (f 29)), (ad 31, rI (k 0) 300 (f 30)), (ad 32, rI (k 0) 40 (f 31)), (ad 33, rI (k 0) 40 (f 32)), (ad 34, rI (k 0) 40 (f 33)), (ad 35, rI (k 0) 16 (f 34)), (ad 36, rI (k 0) 320 (f 35)), (ad 37, rI (k 0) 320 (f 36)), (ad 38, rI (k 0) 6 (f 37)), (ad 39, rL (k 1) 41 (g 1)), (ad 40, rI (k 0) 16 (f 38)), (ad 41, rL (k 1) 16 (g 2))]
def mdD (A : Nat → Prop) (k : Nat → ClassId) (ad : Nat → Nat) : Prop := ∀ (v : gV) (f g : gF), va_D A (mdW k ad v f g)
section Gmd
variable {p : Program} {l : Launch} {e : Env} {R : Room} {s : State} {m : MethodId} {args : Array Value} {below : List Frame} {meth : Method} {c : Code} {H H0 : Heap} {locs : List Loc} {cells slots : Nat} {Q : State → Prop}
variable {cc : ByteArray} {pc idx : Nat} {ls : Array Slot} {rest : List Value} {own : String} {D : va_G} {k : Nat → ClassId} {A : Nat → Prop} {ad : Nat → Nat} {v : gV} {f g : gF}
theorem mdG_status (C : gC D k p s m args c cc own) (hP : gWd D (mdW k ad) v f g H) (hm : Cond.fieldLink own idx "RouteWallModel" "status" "I" ∈ gWs) (hdg : decode cc pc = .ok (.getfield idx, 3)) (kk : W p l e R s m args below meth c H locs cells slots Q (F0 m (pc + 3) ls (.int (iI (v 0)) :: rest))) : W p l e R s m args below meth c H locs cells slots Q (F0 m pc ls (.ref (ad 0) :: rest)) := va_get (D := D) (ci := 11) (C := RX11) (T := TX11) (N := 70) C.1 C.2.1 C.2.2.1 gLx11 C.2.2.2.1 C.2.2.2.2 hP.1 0 rfl rfl 0 (by decide) (C.2.2.1 _ hm) (fun _ h9 => h9) rfl hdg kk
theorem mdP_status (C : gC D k p s m args c cc own) (hP : gWd D (mdW k ad) v f g H) (hD : mdD A k ad) (hS : va_S A H0 H locs) (hm : Cond.fieldLink own idx "RouteWallModel" "status" "I" ∈ gWs) {x : Int} {v1 : gV} (hx : inR x) (hv : (mdW k ad) (va_up v 0 x) f g = (mdW k ad) v1 f g) (hv2 : va_up v 0 x = v1 ∨ gOk v1 f) (hdg : decode cc pc = .ok (.putfield idx, 3)) (kk : ∀ (H1 : Heap) (locs1 : List Loc), gWd D (mdW k ad) v1 f g H1 → va_S A H0 H1 locs1 → W p l e R s m args below meth c H1 locs1 cells slots Q (F0 m (pc + 3) ls rest)) : W p l e R s m args below meth c H locs cells slots Q (F0 m pc ls (.int (iI x) :: .ref (ad 0) :: rest)) := va_put (D := D) (ci := 11) (ty := .int) (C := RX11) (T := TX11) (N := 70) C.1 C.2.1 C.2.2.1 gLx11 tyX11 tyX11_ok nmX11 C.2.2.2.1 C.2.2.2.2 hP.1 (hD v f g) hS 0 rfl rfl 0 (by decide) (C.2.2.1 _ hm) (fun _ h9 => h9) rfl (by decide +kernel) rfl rfl (Nat.le_of_ble_eq_true rfl) hdg (fun H1 locs1 h1 _ h3 => kk H1 locs1 ⟨hv ▸ (show va_P D vwCl ((mdW k ad) (va_up v 0 x) f g) H1 from h1), hv2.elim (fun q => q ▸ gR_up hP.2 0 hx) id⟩ h3)
theorem mdG_thrown (C : gC D k p s m args c cc own) (hP : gWd D (mdW k ad) v f g H) (hm : Cond.fieldLink own idx "RouteWallModel" "thrown" "I" ∈ gWs) (hdg : decode cc pc = .ok (.getfield idx, 3)) (kk : W p l e R s m args below meth c H locs cells slots Q (F0 m (pc + 3) ls (.int (iI (v 1)) :: rest))) : W p l e R s m args below meth c H locs cells slots Q (F0 m pc ls (.ref (ad 0) :: rest)) := va_get (D := D) (ci := 11) (C := RX11) (T := TX11) (N := 70) C.1 C.2.1 C.2.2.1 gLx11 C.2.2.2.1 C.2.2.2.2 hP.1 0 rfl rfl 1 (by decide) (C.2.2.1 _ hm) (fun _ h9 => h9) rfl hdg kk
theorem mdP_thrown (C : gC D k p s m args c cc own) (hP : gWd D (mdW k ad) v f g H) (hD : mdD A k ad) (hS : va_S A H0 H locs) (hm : Cond.fieldLink own idx "RouteWallModel" "thrown" "I" ∈ gWs) {x : Int} {v1 : gV} (hx : inR x) (hv : (mdW k ad) (va_up v 1 x) f g = (mdW k ad) v1 f g) (hv2 : va_up v 1 x = v1 ∨ gOk v1 f) (hdg : decode cc pc = .ok (.putfield idx, 3)) (kk : ∀ (H1 : Heap) (locs1 : List Loc), gWd D (mdW k ad) v1 f g H1 → va_S A H0 H1 locs1 → W p l e R s m args below meth c H1 locs1 cells slots Q (F0 m (pc + 3) ls rest)) : W p l e R s m args below meth c H locs cells slots Q (F0 m pc ls (.int (iI x) :: .ref (ad 0) :: rest)) := va_put (D := D) (ci := 11) (ty := .int) (C := RX11) (T := TX11) (N := 70) C.1 C.2.1 C.2.2.1 gLx11 tyX11 tyX11_ok nmX11 C.2.2.2.1 C.2.2.2.2 hP.1 (hD v f g) hS 0 rfl rfl 1 (by decide) (C.2.2.1 _ hm) (fun _ h9 => h9) rfl (by decide +kernel) rfl rfl (Nat.le_of_ble_eq_true rfl) hdg (fun H1 locs1 h1 _ h3 => kk H1 locs1 ⟨hv ▸ (show va_P D vwCl ((mdW k ad) (va_up v 1 x) f g) H1 from h1), hv2.elim (fun q => q ▸ gR_up hP.2 1 hx) id⟩ h3)
theorem mdG_tape (C : gC D k p s m args c cc own) (hP : gWd D (mdW k ad) v f g H) (hm : Cond.fieldLink own idx "RouteWallModel" "tape" "[B" ∈ gWs) (hdg : decode cc pc = .ok (.getfield idx, 3)) (kk : W p l e R s m args below meth c H locs cells slots Q (F0 m (pc + 3) ls (.ref (ad 1) :: rest))) : W p l e R s m args below meth c H locs cells slots Q (F0 m pc ls (.ref (ad 0) :: rest)) := va_get (D := D) (ci := 11) (C := RX11) (T := TX11) (N := 70) C.1 C.2.1 C.2.2.1 gLx11 C.2.2.2.1 C.2.2.2.2 hP.1 0 rfl rfl 2 (by decide) (C.2.2.1 _ hm) (fun _ h9 => h9) rfl hdg kk
theorem mdG_taped (C : gC D k p s m args c cc own) (hP : gWd D (mdW k ad) v f g H) (hm : Cond.fieldLink own idx "RouteWallModel" "taped" "I" ∈ gWs) (hdg : decode cc pc = .ok (.getfield idx, 3)) (kk : W p l e R s m args below meth c H locs cells slots Q (F0 m (pc + 3) ls (.int (iI (v 2)) :: rest))) : W p l e R s m args below meth c H locs cells slots Q (F0 m pc ls (.ref (ad 0) :: rest)) := va_get (D := D) (ci := 11) (C := RX11) (T := TX11) (N := 70) C.1 C.2.1 C.2.2.1 gLx11 C.2.2.2.1 C.2.2.2.2 hP.1 0 rfl rfl 3 (by decide) (C.2.2.1 _ hm) (fun _ h9 => h9) rfl hdg kk
theorem mdP_taped (C : gC D k p s m args c cc own) (hP : gWd D (mdW k ad) v f g H) (hD : mdD A k ad) (hS : va_S A H0 H locs) (hm : Cond.fieldLink own idx "RouteWallModel" "taped" "I" ∈ gWs) {x : Int} {v1 : gV} (hx : inR x) (hv : (mdW k ad) (va_up v 2 x) f g = (mdW k ad) v1 f g) (hv2 : va_up v 2 x = v1 ∨ gOk v1 f) (hdg : decode cc pc = .ok (.putfield idx, 3)) (kk : ∀ (H1 : Heap) (locs1 : List Loc), gWd D (mdW k ad) v1 f g H1 → va_S A H0 H1 locs1 → W p l e R s m args below meth c H1 locs1 cells slots Q (F0 m (pc + 3) ls rest)) : W p l e R s m args below meth c H locs cells slots Q (F0 m pc ls (.int (iI x) :: .ref (ad 0) :: rest)) := va_put (D := D) (ci := 11) (ty := .int) (C := RX11) (T := TX11) (N := 70) C.1 C.2.1 C.2.2.1 gLx11 tyX11 tyX11_ok nmX11 C.2.2.2.1 C.2.2.2.2 hP.1 (hD v f g) hS 0 rfl rfl 3 (by decide) (C.2.2.1 _ hm) (fun _ h9 => h9) rfl (by decide +kernel) rfl rfl (Nat.le_of_ble_eq_true rfl) hdg (fun H1 locs1 h1 _ h3 => kk H1 locs1 ⟨hv ▸ (show va_P D vwCl ((mdW k ad) (va_up v 2 x) f g) H1 from h1), hv2.elim (fun q => q ▸ gR_up hP.2 2 hx) id⟩ h3)
theorem mdG_end (C : gC D k p s m args c cc own) (hP : gWd D (mdW k ad) v f g H) (hm : Cond.fieldLink own idx "RouteWallModel" "end" "I" ∈ gWs) (hdg : decode cc pc = .ok (.getfield idx, 3)) (kk : W p l e R s m args below meth c H locs cells slots Q (F0 m (pc + 3) ls (.int (iI (v 3)) :: rest))) : W p l e R s m args below meth c H locs cells slots Q (F0 m pc ls (.ref (ad 0) :: rest)) := va_get (D := D) (ci := 11) (C := RX11) (T := TX11) (N := 70) C.1 C.2.1 C.2.2.1 gLx11 C.2.2.2.1 C.2.2.2.2 hP.1 0 rfl rfl 4 (by decide) (C.2.2.1 _ hm) (fun _ h9 => h9) rfl hdg kk
theorem mdP_end (C : gC D k p s m args c cc own) (hP : gWd D (mdW k ad) v f g H) (hD : mdD A k ad) (hS : va_S A H0 H locs) (hm : Cond.fieldLink own idx "RouteWallModel" "end" "I" ∈ gWs) {x : Int} {v1 : gV} (hx : inR x) (hv : (mdW k ad) (va_up v 3 x) f g = (mdW k ad) v1 f g) (hv2 : va_up v 3 x = v1 ∨ gOk v1 f) (hdg : decode cc pc = .ok (.putfield idx, 3)) (kk : ∀ (H1 : Heap) (locs1 : List Loc), gWd D (mdW k ad) v1 f g H1 → va_S A H0 H1 locs1 → W p l e R s m args below meth c H1 locs1 cells slots Q (F0 m (pc + 3) ls rest)) : W p l e R s m args below meth c H locs cells slots Q (F0 m pc ls (.int (iI x) :: .ref (ad 0) :: rest)) := va_put (D := D) (ci := 11) (ty := .int) (C := RX11) (T := TX11) (N := 70) C.1 C.2.1 C.2.2.1 gLx11 tyX11 tyX11_ok nmX11 C.2.2.2.1 C.2.2.2.2 hP.1 (hD v f g) hS 0 rfl rfl 4 (by decide) (C.2.2.1 _ hm) (fun _ h9 => h9) rfl (by decide +kernel) rfl rfl (Nat.le_of_ble_eq_true rfl) hdg (fun H1 locs1 h1 _ h3 => kk H1 locs1 ⟨hv ▸ (show va_P D vwCl ((mdW k ad) (va_up v 3 x) f g) H1 from h1), hv2.elim (fun q => q ▸ gR_up hP.2 3 hx) id⟩ h3)
theorem mdG_faultKind (C : gC D k p s m args c cc own) (hP : gWd D (mdW k ad) v f g H) (hm : Cond.fieldLink own idx "RouteWallModel" "faultKind" "I" ∈ gWs) (hdg : decode cc pc = .ok (.getfield idx, 3)) (kk : W p l e R s m args below meth c H locs cells slots Q (F0 m (pc + 3) ls (.int (iI (v 4)) :: rest))) : W p l e R s m args below meth c H locs cells slots Q (F0 m pc ls (.ref (ad 0) :: rest)) := va_get (D := D) (ci := 11) (C := RX11) (T := TX11) (N := 70) C.1 C.2.1 C.2.2.1 gLx11 C.2.2.2.1 C.2.2.2.2 hP.1 0 rfl rfl 5 (by decide) (C.2.2.1 _ hm) (fun _ h9 => h9) rfl hdg kk
theorem mdP_faultKind (C : gC D k p s m args c cc own) (hP : gWd D (mdW k ad) v f g H) (hD : mdD A k ad) (hS : va_S A H0 H locs) (hm : Cond.fieldLink own idx "RouteWallModel" "faultKind" "I" ∈ gWs) {x : Int} {v1 : gV} (hx : inR x) (hv : (mdW k ad) (va_up v 4 x) f g = (mdW k ad) v1 f g) (hv2 : va_up v 4 x = v1 ∨ gOk v1 f) (hdg : decode cc pc = .ok (.putfield idx, 3)) (kk : ∀ (H1 : Heap) (locs1 : List Loc), gWd D (mdW k ad) v1 f g H1 → va_S A H0 H1 locs1 → W p l e R s m args below meth c H1 locs1 cells slots Q (F0 m (pc + 3) ls rest)) : W p l e R s m args below meth c H locs cells slots Q (F0 m pc ls (.int (iI x) :: .ref (ad 0) :: rest)) := va_put (D := D) (ci := 11) (ty := .int) (C := RX11) (T := TX11) (N := 70) C.1 C.2.1 C.2.2.1 gLx11 tyX11 tyX11_ok nmX11 C.2.2.2.1 C.2.2.2.2 hP.1 (hD v f g) hS 0 rfl rfl 5 (by decide) (C.2.2.1 _ hm) (fun _ h9 => h9) rfl (by decide +kernel) rfl rfl (Nat.le_of_ble_eq_true rfl) hdg (fun H1 locs1 h1 _ h3 => kk H1 locs1 ⟨hv ▸ (show va_P D vwCl ((mdW k ad) (va_up v 4 x) f g) H1 from h1), hv2.elim (fun q => q ▸ gR_up hP.2 4 hx) id⟩ h3)
theorem mdG_faultAt (C : gC D k p s m args c cc own) (hP : gWd D (mdW k ad) v f g H) (hm : Cond.fieldLink own idx "RouteWallModel" "faultAt" "I" ∈ gWs) (hdg : decode cc pc = .ok (.getfield idx, 3)) (kk : W p l e R s m args below meth c H locs cells slots Q (F0 m (pc + 3) ls (.int (iI (v 5)) :: rest))) : W p l e R s m args below meth c H locs cells slots Q (F0 m pc ls (.ref (ad 0) :: rest)) := va_get (D := D) (ci := 11) (C := RX11) (T := TX11) (N := 70) C.1 C.2.1 C.2.2.1 gLx11 C.2.2.2.1 C.2.2.2.2 hP.1 0 rfl rfl 6 (by decide) (C.2.2.1 _ hm) (fun _ h9 => h9) rfl hdg kk
theorem mdP_faultAt (C : gC D k p s m args c cc own) (hP : gWd D (mdW k ad) v f g H) (hD : mdD A k ad) (hS : va_S A H0 H locs) (hm : Cond.fieldLink own idx "RouteWallModel" "faultAt" "I" ∈ gWs) {x : Int} {v1 : gV} (hx : inR x) (hv : (mdW k ad) (va_up v 5 x) f g = (mdW k ad) v1 f g) (hv2 : va_up v 5 x = v1 ∨ gOk v1 f) (hdg : decode cc pc = .ok (.putfield idx, 3)) (kk : ∀ (H1 : Heap) (locs1 : List Loc), gWd D (mdW k ad) v1 f g H1 → va_S A H0 H1 locs1 → W p l e R s m args below meth c H1 locs1 cells slots Q (F0 m (pc + 3) ls rest)) : W p l e R s m args below meth c H locs cells slots Q (F0 m pc ls (.int (iI x) :: .ref (ad 0) :: rest)) := va_put (D := D) (ci := 11) (ty := .int) (C := RX11) (T := TX11) (N := 70) C.1 C.2.1 C.2.2.1 gLx11 tyX11 tyX11_ok nmX11 C.2.2.2.1 C.2.2.2.2 hP.1 (hD v f g) hS 0 rfl rfl 6 (by decide) (C.2.2.1 _ hm) (fun _ h9 => h9) rfl (by decide +kernel) rfl rfl (Nat.le_of_ble_eq_true rfl) hdg (fun H1 locs1 h1 _ h3 => kk H1 locs1 ⟨hv ▸ (show va_P D vwCl ((mdW k ad) (va_up v 5 x) f g) H1 from h1), hv2.elim (fun q => q ▸ gR_up hP.2 5 hx) id⟩ h3)
theorem mdG_bad (C : gC D k p s m args c cc own) (hP : gWd D (mdW k ad) v f g H) (hm : Cond.fieldLink own idx "RouteWallModel" "bad" "I" ∈ gWs) (hdg : decode cc pc = .ok (.getfield idx, 3)) (kk : W p l e R s m args below meth c H locs cells slots Q (F0 m (pc + 3) ls (.int (iI (v 6)) :: rest))) : W p l e R s m args below meth c H locs cells slots Q (F0 m pc ls (.ref (ad 0) :: rest)) := va_get (D := D) (ci := 11) (C := RX11) (T := TX11) (N := 70) C.1 C.2.1 C.2.2.1 gLx11 C.2.2.2.1 C.2.2.2.2 hP.1 0 rfl rfl 7 (by decide) (C.2.2.1 _ hm) (fun _ h9 => h9) rfl hdg kk
theorem mdP_bad (C : gC D k p s m args c cc own) (hP : gWd D (mdW k ad) v f g H) (hD : mdD A k ad) (hS : va_S A H0 H locs) (hm : Cond.fieldLink own idx "RouteWallModel" "bad" "I" ∈ gWs) {x : Int} {v1 : gV} (hx : inR x) (hv : (mdW k ad) (va_up v 6 x) f g = (mdW k ad) v1 f g) (hv2 : va_up v 6 x = v1 ∨ gOk v1 f) (hdg : decode cc pc = .ok (.putfield idx, 3)) (kk : ∀ (H1 : Heap) (locs1 : List Loc), gWd D (mdW k ad) v1 f g H1 → va_S A H0 H1 locs1 → W p l e R s m args below meth c H1 locs1 cells slots Q (F0 m (pc + 3) ls rest)) : W p l e R s m args below meth c H locs cells slots Q (F0 m pc ls (.int (iI x) :: .ref (ad 0) :: rest)) := va_put (D := D) (ci := 11) (ty := .int) (C := RX11) (T := TX11) (N := 70) C.1 C.2.1 C.2.2.1 gLx11 tyX11 tyX11_ok nmX11 C.2.2.2.1 C.2.2.2.2 hP.1 (hD v f g) hS 0 rfl rfl 7 (by decide) (C.2.2.1 _ hm) (fun _ h9 => h9) rfl (by decide +kernel) rfl rfl (Nat.le_of_ble_eq_true rfl) hdg (fun H1 locs1 h1 _ h3 => kk H1 locs1 ⟨hv ▸ (show va_P D vwCl ((mdW k ad) (va_up v 6 x) f g) H1 from h1), hv2.elim (fun q => q ▸ gR_up hP.2 6 hx) id⟩ h3)
theorem mdG_badAt (C : gC D k p s m args c cc own) (hP : gWd D (mdW k ad) v f g H) (hm : Cond.fieldLink own idx "RouteWallModel" "badAt" "I" ∈ gWs) (hdg : decode cc pc = .ok (.getfield idx, 3)) (kk : W p l e R s m args below meth c H locs cells slots Q (F0 m (pc + 3) ls (.int (iI (v 7)) :: rest))) : W p l e R s m args below meth c H locs cells slots Q (F0 m pc ls (.ref (ad 0) :: rest)) := va_get (D := D) (ci := 11) (C := RX11) (T := TX11) (N := 70) C.1 C.2.1 C.2.2.1 gLx11 C.2.2.2.1 C.2.2.2.2 hP.1 0 rfl rfl 8 (by decide) (C.2.2.1 _ hm) (fun _ h9 => h9) rfl hdg kk
theorem mdP_badAt (C : gC D k p s m args c cc own) (hP : gWd D (mdW k ad) v f g H) (hD : mdD A k ad) (hS : va_S A H0 H locs) (hm : Cond.fieldLink own idx "RouteWallModel" "badAt" "I" ∈ gWs) {x : Int} {v1 : gV} (hx : inR x) (hv : (mdW k ad) (va_up v 7 x) f g = (mdW k ad) v1 f g) (hv2 : va_up v 7 x = v1 ∨ gOk v1 f) (hdg : decode cc pc = .ok (.putfield idx, 3)) (kk : ∀ (H1 : Heap) (locs1 : List Loc), gWd D (mdW k ad) v1 f g H1 → va_S A H0 H1 locs1 → W p l e R s m args below meth c H1 locs1 cells slots Q (F0 m (pc + 3) ls rest)) : W p l e R s m args below meth c H locs cells slots Q (F0 m pc ls (.int (iI x) :: .ref (ad 0) :: rest)) := va_put (D := D) (ci := 11) (ty := .int) (C := RX11) (T := TX11) (N := 70) C.1 C.2.1 C.2.2.1 gLx11 tyX11 tyX11_ok nmX11 C.2.2.2.1 C.2.2.2.2 hP.1 (hD v f g) hS 0 rfl rfl 8 (by decide) (C.2.2.1 _ hm) (fun _ h9 => h9) rfl (by decide +kernel) rfl rfl (Nat.le_of_ble_eq_true rfl) hdg (fun H1 locs1 h1 _ h3 => kk H1 locs1 ⟨hv ▸ (show va_P D vwCl ((mdW k ad) (va_up v 7 x) f g) H1 from h1), hv2.elim (fun q => q ▸ gR_up hP.2 7 hx) id⟩ h3)
theorem mdG_sort (C : gC D k p s m args c cc own) (hP : gWd D (mdW k ad) v f g H) (hm : Cond.fieldLink own idx "RouteWallModel" "sort" "I" ∈ gWs) (hdg : decode cc pc = .ok (.getfield idx, 3)) (kk : W p l e R s m args below meth c H locs cells slots Q (F0 m (pc + 3) ls (.int (iI (v 8)) :: rest))) : W p l e R s m args below meth c H locs cells slots Q (F0 m pc ls (.ref (ad 0) :: rest)) := va_get (D := D) (ci := 11) (C := RX11) (T := TX11) (N := 70) C.1 C.2.1 C.2.2.1 gLx11 C.2.2.2.1 C.2.2.2.2 hP.1 0 rfl rfl 9 (by decide) (C.2.2.1 _ hm) (fun _ h9 => h9) rfl hdg kk
theorem mdP_sort (C : gC D k p s m args c cc own) (hP : gWd D (mdW k ad) v f g H) (hD : mdD A k ad) (hS : va_S A H0 H locs) (hm : Cond.fieldLink own idx "RouteWallModel" "sort" "I" ∈ gWs) {x : Int} {v1 : gV} (hx : inR x) (hv : (mdW k ad) (va_up v 8 x) f g = (mdW k ad) v1 f g) (hv2 : va_up v 8 x = v1 ∨ gOk v1 f) (hdg : decode cc pc = .ok (.putfield idx, 3)) (kk : ∀ (H1 : Heap) (locs1 : List Loc), gWd D (mdW k ad) v1 f g H1 → va_S A H0 H1 locs1 → W p l e R s m args below meth c H1 locs1 cells slots Q (F0 m (pc + 3) ls rest)) : W p l e R s m args below meth c H locs cells slots Q (F0 m pc ls (.int (iI x) :: .ref (ad 0) :: rest)) := va_put (D := D) (ci := 11) (ty := .int) (C := RX11) (T := TX11) (N := 70) C.1 C.2.1 C.2.2.1 gLx11 tyX11 tyX11_ok nmX11 C.2.2.2.1 C.2.2.2.2 hP.1 (hD v f g) hS 0 rfl rfl 9 (by decide) (C.2.2.1 _ hm) (fun _ h9 => h9) rfl (by decide +kernel) rfl rfl (Nat.le_of_ble_eq_true rfl) hdg (fun H1 locs1 h1 _ h3 => kk H1 locs1 ⟨hv ▸ (show va_P D vwCl ((mdW k ad) (va_up v 8 x) f g) H1 from h1), hv2.elim (fun q => q ▸ gR_up hP.2 8 hx) id⟩ h3)
theorem mdG_at (C : gC D k p s m args c cc own) (hP : gWd D (mdW k ad) v f g H) (hm : Cond.fieldLink own idx "RouteWallModel" "at" "I" ∈ gWs) (hdg : decode cc pc = .ok (.getfield idx, 3)) (kk : W p l e R s m args below meth c H locs cells slots Q (F0 m (pc + 3) ls (.int (iI (v 9)) :: rest))) : W p l e R s m args below meth c H locs cells slots Q (F0 m pc ls (.ref (ad 0) :: rest)) := va_get (D := D) (ci := 11) (C := RX11) (T := TX11) (N := 70) C.1 C.2.1 C.2.2.1 gLx11 C.2.2.2.1 C.2.2.2.2 hP.1 0 rfl rfl 10 (by decide) (C.2.2.1 _ hm) (fun _ h9 => h9) rfl hdg kk
theorem mdP_at (C : gC D k p s m args c cc own) (hP : gWd D (mdW k ad) v f g H) (hD : mdD A k ad) (hS : va_S A H0 H locs) (hm : Cond.fieldLink own idx "RouteWallModel" "at" "I" ∈ gWs) {x : Int} {v1 : gV} (hx : inR x) (hv : (mdW k ad) (va_up v 9 x) f g = (mdW k ad) v1 f g) (hv2 : va_up v 9 x = v1 ∨ gOk v1 f) (hdg : decode cc pc = .ok (.putfield idx, 3)) (kk : ∀ (H1 : Heap) (locs1 : List Loc), gWd D (mdW k ad) v1 f g H1 → va_S A H0 H1 locs1 → W p l e R s m args below meth c H1 locs1 cells slots Q (F0 m (pc + 3) ls rest)) : W p l e R s m args below meth c H locs cells slots Q (F0 m pc ls (.int (iI x) :: .ref (ad 0) :: rest)) := va_put (D := D) (ci := 11) (ty := .int) (C := RX11) (T := TX11) (N := 70) C.1 C.2.1 C.2.2.1 gLx11 tyX11 tyX11_ok nmX11 C.2.2.2.1 C.2.2.2.2 hP.1 (hD v f g) hS 0 rfl rfl 10 (by decide) (C.2.2.1 _ hm) (fun _ h9 => h9) rfl (by decide +kernel) rfl rfl (Nat.le_of_ble_eq_true rfl) hdg (fun H1 locs1 h1 _ h3 => kk H1 locs1 ⟨hv ▸ (show va_P D vwCl ((mdW k ad) (va_up v 9 x) f g) H1 from h1), hv2.elim (fun q => q ▸ gR_up hP.2 9 hx) id⟩ h3)
theorem mdG_behind (C : gC D k p s m args c cc own) (hP : gWd D (mdW k ad) v f g H) (hm : Cond.fieldLink own idx "RouteWallModel" "behind" "I" ∈ gWs) (hdg : decode cc pc = .ok (.getfield idx, 3)) (kk : W p l e R s m args below meth c H locs cells slots Q (F0 m (pc + 3) ls (.int (iI (v 10)) :: rest))) : W p l e R s m args below meth c H locs cells slots Q (F0 m pc ls (.ref (ad 0) :: rest)) := va_get (D := D) (ci := 11) (C := RX11) (T := TX11) (N := 70) C.1 C.2.1 C.2.2.1 gLx11 C.2.2.2.1 C.2.2.2.2 hP.1 0 rfl rfl 11 (by decide) (C.2.2.1 _ hm) (fun _ h9 => h9) rfl hdg kk
theorem mdP_behind (C : gC D k p s m args c cc own) (hP : gWd D (mdW k ad) v f g H) (hD : mdD A k ad) (hS : va_S A H0 H locs) (hm : Cond.fieldLink own idx "RouteWallModel" "behind" "I" ∈ gWs) {x : Int} {v1 : gV} (hx : inR x) (hv : (mdW k ad) (va_up v 10 x) f g = (mdW k ad) v1 f g) (hv2 : va_up v 10 x = v1 ∨ gOk v1 f) (hdg : decode cc pc = .ok (.putfield idx, 3)) (kk : ∀ (H1 : Heap) (locs1 : List Loc), gWd D (mdW k ad) v1 f g H1 → va_S A H0 H1 locs1 → W p l e R s m args below meth c H1 locs1 cells slots Q (F0 m (pc + 3) ls rest)) : W p l e R s m args below meth c H locs cells slots Q (F0 m pc ls (.int (iI x) :: .ref (ad 0) :: rest)) := va_put (D := D) (ci := 11) (ty := .int) (C := RX11) (T := TX11) (N := 70) C.1 C.2.1 C.2.2.1 gLx11 tyX11 tyX11_ok nmX11 C.2.2.2.1 C.2.2.2.2 hP.1 (hD v f g) hS 0 rfl rfl 11 (by decide) (C.2.2.1 _ hm) (fun _ h9 => h9) rfl (by decide +kernel) rfl rfl (Nat.le_of_ble_eq_true rfl) hdg (fun H1 locs1 h1 _ h3 => kk H1 locs1 ⟨hv ▸ (show va_P D vwCl ((mdW k ad) (va_up v 10 x) f g) H1 from h1), hv2.elim (fun q => q ▸ gR_up hP.2 10 hx) id⟩ h3)
theorem mdG_number (C : gC D k p s m args c cc own) (hP : gWd D (mdW k ad) v f g H) (hm : Cond.fieldLink own idx "RouteWallModel" "number" "I" ∈ gWs) (hdg : decode cc pc = .ok (.getfield idx, 3)) (kk : W p l e R s m args below meth c H locs cells slots Q (F0 m (pc + 3) ls (.int (iI (v 11)) :: rest))) : W p l e R s m args below meth c H locs cells slots Q (F0 m pc ls (.ref (ad 0) :: rest)) := va_get (D := D) (ci := 11) (C := RX11) (T := TX11) (N := 70) C.1 C.2.1 C.2.2.1 gLx11 C.2.2.2.1 C.2.2.2.2 hP.1 0 rfl rfl 12 (by decide) (C.2.2.1 _ hm) (fun _ h9 => h9) rfl hdg kk
theorem mdP_number (C : gC D k p s m args c cc own) (hP : gWd D (mdW k ad) v f g H) (hD : mdD A k ad) (hS : va_S A H0 H locs) (hm : Cond.fieldLink own idx "RouteWallModel" "number" "I" ∈ gWs) {x : Int} {v1 : gV} (hx : inR x) (hv : (mdW k ad) (va_up v 11 x) f g = (mdW k ad) v1 f g) (hv2 : va_up v 11 x = v1 ∨ gOk v1 f) (hdg : decode cc pc = .ok (.putfield idx, 3)) (kk : ∀ (H1 : Heap) (locs1 : List Loc), gWd D (mdW k ad) v1 f g H1 → va_S A H0 H1 locs1 → W p l e R s m args below meth c H1 locs1 cells slots Q (F0 m (pc + 3) ls rest)) : W p l e R s m args below meth c H locs cells slots Q (F0 m pc ls (.int (iI x) :: .ref (ad 0) :: rest)) := va_put (D := D) (ci := 11) (ty := .int) (C := RX11) (T := TX11) (N := 70) C.1 C.2.1 C.2.2.1 gLx11 tyX11 tyX11_ok nmX11 C.2.2.2.1 C.2.2.2.2 hP.1 (hD v f g) hS 0 rfl rfl 12 (by decide) (C.2.2.1 _ hm) (fun _ h9 => h9) rfl (by decide +kernel) rfl rfl (Nat.le_of_ble_eq_true rfl) hdg (fun H1 locs1 h1 _ h3 => kk H1 locs1 ⟨hv ▸ (show va_P D vwCl ((mdW k ad) (va_up v 11 x) f g) H1 from h1), hv2.elim (fun q => q ▸ gR_up hP.2 11 hx) id⟩ h3)
theorem mdG_word (C : gC D k p s m args c cc own) (hP : gWd D (mdW k ad) v f g H) (hm : Cond.fieldLink own idx "RouteWallModel" "word" "J" ∈ gWs) (hdg : decode cc pc = .ok (.getfield idx, 3)) (kk : W p l e R s m args below meth c H locs cells slots Q (F0 m (pc + 3) ls (.long (iL (g 0 0)) :: rest))) : W p l e R s m args below meth c H locs cells slots Q (F0 m pc ls (.ref (ad 0) :: rest)) := va_get (D := D) (ci := 11) (C := RX11) (T := TX11) (N := 70) C.1 C.2.1 C.2.2.1 gLx11 C.2.2.2.1 C.2.2.2.2 hP.1 0 rfl rfl 13 (by decide) (C.2.2.1 _ hm) (fun _ h9 => h9) rfl hdg kk
theorem mdP_word (C : gC D k p s m args c cc own) (hP : gWd D (mdW k ad) v f g H) (hD : mdD A k ad) (hS : va_S A H0 H locs) (hm : Cond.fieldLink own idx "RouteWallModel" "word" "J" ∈ gWs) {x : Int} {g1 : gF} (hv : (mdW k ad) v f (va_up g 0 (fun _ => x)) = (mdW k ad) v f g1) (hdg : decode cc pc = .ok (.putfield idx, 3)) (kk : ∀ (H1 : Heap) (locs1 : List Loc), gWd D (mdW k ad) v f g1 H1 → va_S A H0 H1 locs1 → W p l e R s m args below meth c H1 locs1 cells slots Q (F0 m (pc + 3) ls rest)) : W p l e R s m args below meth c H locs cells slots Q (F0 m pc ls (.long (iL x) :: .ref (ad 0) :: rest)) := va_put (D := D) (ci := 11) (ty := .long) (C := RX11) (T := TX11) (N := 70) C.1 C.2.1 C.2.2.1 gLx11 tyX11 tyX11_ok nmX11 C.2.2.2.1 C.2.2.2.2 hP.1 (hD v f g) hS 0 rfl rfl 13 (by decide) (C.2.2.1 _ hm) (fun _ h9 => h9) rfl (by decide +kernel) rfl rfl (Nat.le_of_ble_eq_true rfl) hdg (fun H1 locs1 h1 _ h3 => kk H1 locs1 ⟨hv ▸ (show va_P D vwCl ((mdW k ad) v f (va_up g 0 (fun _ => x))) H1 from h1), hP.2⟩ h3)
theorem mdG_rounds (C : gC D k p s m args c cc own) (hP : gWd D (mdW k ad) v f g H) (hm : Cond.fieldLink own idx "RouteWallModel" "rounds" "I" ∈ gWs) (hdg : decode cc pc = .ok (.getfield idx, 3)) (kk : W p l e R s m args below meth c H locs cells slots Q (F0 m (pc + 3) ls (.int (iI (v 12)) :: rest))) : W p l e R s m args below meth c H locs cells slots Q (F0 m pc ls (.ref (ad 0) :: rest)) := va_get (D := D) (ci := 11) (C := RX11) (T := TX11) (N := 70) C.1 C.2.1 C.2.2.1 gLx11 C.2.2.2.1 C.2.2.2.2 hP.1 0 rfl rfl 14 (by decide) (C.2.2.1 _ hm) (fun _ h9 => h9) rfl hdg kk
theorem mdP_rounds (C : gC D k p s m args c cc own) (hP : gWd D (mdW k ad) v f g H) (hD : mdD A k ad) (hS : va_S A H0 H locs) (hm : Cond.fieldLink own idx "RouteWallModel" "rounds" "I" ∈ gWs) {x : Int} {v1 : gV} (hx : inR x) (hv : (mdW k ad) (va_up v 12 x) f g = (mdW k ad) v1 f g) (hv2 : va_up v 12 x = v1 ∨ gOk v1 f) (hdg : decode cc pc = .ok (.putfield idx, 3)) (kk : ∀ (H1 : Heap) (locs1 : List Loc), gWd D (mdW k ad) v1 f g H1 → va_S A H0 H1 locs1 → W p l e R s m args below meth c H1 locs1 cells slots Q (F0 m (pc + 3) ls rest)) : W p l e R s m args below meth c H locs cells slots Q (F0 m pc ls (.int (iI x) :: .ref (ad 0) :: rest)) := va_put (D := D) (ci := 11) (ty := .int) (C := RX11) (T := TX11) (N := 70) C.1 C.2.1 C.2.2.1 gLx11 tyX11 tyX11_ok nmX11 C.2.2.2.1 C.2.2.2.2 hP.1 (hD v f g) hS 0 rfl rfl 14 (by decide) (C.2.2.1 _ hm) (fun _ h9 => h9) rfl (by decide +kernel) rfl rfl (Nat.le_of_ble_eq_true rfl) hdg (fun H1 locs1 h1 _ h3 => kk H1 locs1 ⟨hv ▸ (show va_P D vwCl ((mdW k ad) (va_up v 12 x) f g) H1 from h1), hv2.elim (fun q => q ▸ gR_up hP.2 12 hx) id⟩ h3)
theorem mdG_parts (C : gC D k p s m args c cc own) (hP : gWd D (mdW k ad) v f g H) (hm : Cond.fieldLink own idx "RouteWallModel" "parts" "I" ∈ gWs) (hdg : decode cc pc = .ok (.getfield idx, 3)) (kk : W p l e R s m args below meth c H locs cells slots Q (F0 m (pc + 3) ls (.int (iI (v 13)) :: rest))) : W p l e R s m args below meth c H locs cells slots Q (F0 m pc ls (.ref (ad 0) :: rest)) := va_get (D := D) (ci := 11) (C := RX11) (T := TX11) (N := 70) C.1 C.2.1 C.2.2.1 gLx11 C.2.2.2.1 C.2.2.2.2 hP.1 0 rfl rfl 15 (by decide) (C.2.2.1 _ hm) (fun _ h9 => h9) rfl hdg kk
theorem mdP_parts (C : gC D k p s m args c cc own) (hP : gWd D (mdW k ad) v f g H) (hD : mdD A k ad) (hS : va_S A H0 H locs) (hm : Cond.fieldLink own idx "RouteWallModel" "parts" "I" ∈ gWs) {x : Int} {v1 : gV} (hx : inR x) (hv : (mdW k ad) (va_up v 13 x) f g = (mdW k ad) v1 f g) (hv2 : va_up v 13 x = v1 ∨ gOk v1 f) (hdg : decode cc pc = .ok (.putfield idx, 3)) (kk : ∀ (H1 : Heap) (locs1 : List Loc), gWd D (mdW k ad) v1 f g H1 → va_S A H0 H1 locs1 → W p l e R s m args below meth c H1 locs1 cells slots Q (F0 m (pc + 3) ls rest)) : W p l e R s m args below meth c H locs cells slots Q (F0 m pc ls (.int (iI x) :: .ref (ad 0) :: rest)) := va_put (D := D) (ci := 11) (ty := .int) (C := RX11) (T := TX11) (N := 70) C.1 C.2.1 C.2.2.1 gLx11 tyX11 tyX11_ok nmX11 C.2.2.2.1 C.2.2.2.2 hP.1 (hD v f g) hS 0 rfl rfl 15 (by decide) (C.2.2.1 _ hm) (fun _ h9 => h9) rfl (by decide +kernel) rfl rfl (Nat.le_of_ble_eq_true rfl) hdg (fun H1 locs1 h1 _ h3 => kk H1 locs1 ⟨hv ▸ (show va_P D vwCl ((mdW k ad) (va_up v 13 x) f g) H1 from h1), hv2.elim (fun q => q ▸ gR_up hP.2 13 hx) id⟩ h3)
theorem mdG_keys (C : gC D k p s m args c cc own) (hP : gWd D (mdW k ad) v f g H) (hm : Cond.fieldLink own idx "RouteWallModel" "keys" "I" ∈ gWs) (hdg : decode cc pc = .ok (.getfield idx, 3)) (kk : W p l e R s m args below meth c H locs cells slots Q (F0 m (pc + 3) ls (.int (iI (v 14)) :: rest))) : W p l e R s m args below meth c H locs cells slots Q (F0 m pc ls (.ref (ad 0) :: rest)) := va_get (D := D) (ci := 11) (C := RX11) (T := TX11) (N := 70) C.1 C.2.1 C.2.2.1 gLx11 C.2.2.2.1 C.2.2.2.2 hP.1 0 rfl rfl 16 (by decide) (C.2.2.1 _ hm) (fun _ h9 => h9) rfl hdg kk
theorem mdP_keys (C : gC D k p s m args c cc own) (hP : gWd D (mdW k ad) v f g H) (hD : mdD A k ad) (hS : va_S A H0 H locs) (hm : Cond.fieldLink own idx "RouteWallModel" "keys" "I" ∈ gWs) {x : Int} {v1 : gV} (hx : inR x) (hv : (mdW k ad) (va_up v 14 x) f g = (mdW k ad) v1 f g) (hv2 : va_up v 14 x = v1 ∨ gOk v1 f) (hdg : decode cc pc = .ok (.putfield idx, 3)) (kk : ∀ (H1 : Heap) (locs1 : List Loc), gWd D (mdW k ad) v1 f g H1 → va_S A H0 H1 locs1 → W p l e R s m args below meth c H1 locs1 cells slots Q (F0 m (pc + 3) ls rest)) : W p l e R s m args below meth c H locs cells slots Q (F0 m pc ls (.int (iI x) :: .ref (ad 0) :: rest)) := va_put (D := D) (ci := 11) (ty := .int) (C := RX11) (T := TX11) (N := 70) C.1 C.2.1 C.2.2.1 gLx11 tyX11 tyX11_ok nmX11 C.2.2.2.1 C.2.2.2.2 hP.1 (hD v f g) hS 0 rfl rfl 16 (by decide) (C.2.2.1 _ hm) (fun _ h9 => h9) rfl (by decide +kernel) rfl rfl (Nat.le_of_ble_eq_true rfl) hdg (fun H1 locs1 h1 _ h3 => kk H1 locs1 ⟨hv ▸ (show va_P D vwCl ((mdW k ad) (va_up v 14 x) f g) H1 from h1), hv2.elim (fun q => q ▸ gR_up hP.2 14 hx) id⟩ h3)
theorem mdG_newRounds (C : gC D k p s m args c cc own) (hP : gWd D (mdW k ad) v f g H) (hm : Cond.fieldLink own idx "RouteWallModel" "newRounds" "I" ∈ gWs) (hdg : decode cc pc = .ok (.getfield idx, 3)) (kk : W p l e R s m args below meth c H locs cells slots Q (F0 m (pc + 3) ls (.int (iI (v 15)) :: rest))) : W p l e R s m args below meth c H locs cells slots Q (F0 m pc ls (.ref (ad 0) :: rest)) := va_get (D := D) (ci := 11) (C := RX11) (T := TX11) (N := 70) C.1 C.2.1 C.2.2.1 gLx11 C.2.2.2.1 C.2.2.2.2 hP.1 0 rfl rfl 17 (by decide) (C.2.2.1 _ hm) (fun _ h9 => h9) rfl hdg kk
theorem mdP_newRounds (C : gC D k p s m args c cc own) (hP : gWd D (mdW k ad) v f g H) (hD : mdD A k ad) (hS : va_S A H0 H locs) (hm : Cond.fieldLink own idx "RouteWallModel" "newRounds" "I" ∈ gWs) {x : Int} {v1 : gV} (hx : inR x) (hv : (mdW k ad) (va_up v 15 x) f g = (mdW k ad) v1 f g) (hv2 : va_up v 15 x = v1 ∨ gOk v1 f) (hdg : decode cc pc = .ok (.putfield idx, 3)) (kk : ∀ (H1 : Heap) (locs1 : List Loc), gWd D (mdW k ad) v1 f g H1 → va_S A H0 H1 locs1 → W p l e R s m args below meth c H1 locs1 cells slots Q (F0 m (pc + 3) ls rest)) : W p l e R s m args below meth c H locs cells slots Q (F0 m pc ls (.int (iI x) :: .ref (ad 0) :: rest)) := va_put (D := D) (ci := 11) (ty := .int) (C := RX11) (T := TX11) (N := 70) C.1 C.2.1 C.2.2.1 gLx11 tyX11 tyX11_ok nmX11 C.2.2.2.1 C.2.2.2.2 hP.1 (hD v f g) hS 0 rfl rfl 17 (by decide) (C.2.2.1 _ hm) (fun _ h9 => h9) rfl (by decide +kernel) rfl rfl (Nat.le_of_ble_eq_true rfl) hdg (fun H1 locs1 h1 _ h3 => kk H1 locs1 ⟨hv ▸ (show va_P D vwCl ((mdW k ad) (va_up v 15 x) f g) H1 from h1), hv2.elim (fun q => q ▸ gR_up hP.2 15 hx) id⟩ h3)
theorem mdG_newParts (C : gC D k p s m args c cc own) (hP : gWd D (mdW k ad) v f g H) (hm : Cond.fieldLink own idx "RouteWallModel" "newParts" "I" ∈ gWs) (hdg : decode cc pc = .ok (.getfield idx, 3)) (kk : W p l e R s m args below meth c H locs cells slots Q (F0 m (pc + 3) ls (.int (iI (v 16)) :: rest))) : W p l e R s m args below meth c H locs cells slots Q (F0 m pc ls (.ref (ad 0) :: rest)) := va_get (D := D) (ci := 11) (C := RX11) (T := TX11) (N := 70) C.1 C.2.1 C.2.2.1 gLx11 C.2.2.2.1 C.2.2.2.2 hP.1 0 rfl rfl 18 (by decide) (C.2.2.1 _ hm) (fun _ h9 => h9) rfl hdg kk
theorem mdP_newParts (C : gC D k p s m args c cc own) (hP : gWd D (mdW k ad) v f g H) (hD : mdD A k ad) (hS : va_S A H0 H locs) (hm : Cond.fieldLink own idx "RouteWallModel" "newParts" "I" ∈ gWs) {x : Int} {v1 : gV} (hx : inR x) (hv : (mdW k ad) (va_up v 16 x) f g = (mdW k ad) v1 f g) (hv2 : va_up v 16 x = v1 ∨ gOk v1 f) (hdg : decode cc pc = .ok (.putfield idx, 3)) (kk : ∀ (H1 : Heap) (locs1 : List Loc), gWd D (mdW k ad) v1 f g H1 → va_S A H0 H1 locs1 → W p l e R s m args below meth c H1 locs1 cells slots Q (F0 m (pc + 3) ls rest)) : W p l e R s m args below meth c H locs cells slots Q (F0 m pc ls (.int (iI x) :: .ref (ad 0) :: rest)) := va_put (D := D) (ci := 11) (ty := .int) (C := RX11) (T := TX11) (N := 70) C.1 C.2.1 C.2.2.1 gLx11 tyX11 tyX11_ok nmX11 C.2.2.2.1 C.2.2.2.2 hP.1 (hD v f g) hS 0 rfl rfl 18 (by decide) (C.2.2.1 _ hm) (fun _ h9 => h9) rfl (by decide +kernel) rfl rfl (Nat.le_of_ble_eq_true rfl) hdg (fun H1 locs1 h1 _ h3 => kk H1 locs1 ⟨hv ▸ (show va_P D vwCl ((mdW k ad) (va_up v 16 x) f g) H1 from h1), hv2.elim (fun q => q ▸ gR_up hP.2 16 hx) id⟩ h3)
theorem mdG_newKeys (C : gC D k p s m args c cc own) (hP : gWd D (mdW k ad) v f g H) (hm : Cond.fieldLink own idx "RouteWallModel" "newKeys" "I" ∈ gWs) (hdg : decode cc pc = .ok (.getfield idx, 3)) (kk : W p l e R s m args below meth c H locs cells slots Q (F0 m (pc + 3) ls (.int (iI (v 17)) :: rest))) : W p l e R s m args below meth c H locs cells slots Q (F0 m pc ls (.ref (ad 0) :: rest)) := va_get (D := D) (ci := 11) (C := RX11) (T := TX11) (N := 70) C.1 C.2.1 C.2.2.1 gLx11 C.2.2.2.1 C.2.2.2.2 hP.1 0 rfl rfl 19 (by decide) (C.2.2.1 _ hm) (fun _ h9 => h9) rfl hdg kk
theorem mdP_newKeys (C : gC D k p s m args c cc own) (hP : gWd D (mdW k ad) v f g H) (hD : mdD A k ad) (hS : va_S A H0 H locs) (hm : Cond.fieldLink own idx "RouteWallModel" "newKeys" "I" ∈ gWs) {x : Int} {v1 : gV} (hx : inR x) (hv : (mdW k ad) (va_up v 17 x) f g = (mdW k ad) v1 f g) (hv2 : va_up v 17 x = v1 ∨ gOk v1 f) (hdg : decode cc pc = .ok (.putfield idx, 3)) (kk : ∀ (H1 : Heap) (locs1 : List Loc), gWd D (mdW k ad) v1 f g H1 → va_S A H0 H1 locs1 → W p l e R s m args below meth c H1 locs1 cells slots Q (F0 m (pc + 3) ls rest)) : W p l e R s m args below meth c H locs cells slots Q (F0 m pc ls (.int (iI x) :: .ref (ad 0) :: rest)) := va_put (D := D) (ci := 11) (ty := .int) (C := RX11) (T := TX11) (N := 70) C.1 C.2.1 C.2.2.1 gLx11 tyX11 tyX11_ok nmX11 C.2.2.2.1 C.2.2.2.2 hP.1 (hD v f g) hS 0 rfl rfl 19 (by decide) (C.2.2.1 _ hm) (fun _ h9 => h9) rfl (by decide +kernel) rfl rfl (Nat.le_of_ble_eq_true rfl) hdg (fun H1 locs1 h1 _ h3 => kk H1 locs1 ⟨hv ▸ (show va_P D vwCl ((mdW k ad) (va_up v 17 x) f g) H1 from h1), hv2.elim (fun q => q ▸ gR_up hP.2 17 hx) id⟩ h3)
theorem mdG_goesBack (C : gC D k p s m args c cc own) (hP : gWd D (mdW k ad) v f g H) (hm : Cond.fieldLink own idx "RouteWallModel" "goesBack" "Z" ∈ gWs) (hdg : decode cc pc = .ok (.getfield idx, 3)) (kk : W p l e R s m args below meth c H locs cells slots Q (F0 m (pc + 3) ls (.int (iI (v 18)) :: rest))) : W p l e R s m args below meth c H locs cells slots Q (F0 m pc ls (.ref (ad 0) :: rest)) := va_get (D := D) (ci := 11) (C := RX11) (T := TX11) (N := 70) C.1 C.2.1 C.2.2.1 gLx11 C.2.2.2.1 C.2.2.2.2 hP.1 0 rfl rfl 20 (by decide) (C.2.2.1 _ hm) (fun _ h9 => h9) rfl hdg kk
theorem mdP_goesBack (C : gC D k p s m args c cc own) (hP : gWd D (mdW k ad) v f g H) (hD : mdD A k ad) (hS : va_S A H0 H locs) (hm : Cond.fieldLink own idx "RouteWallModel" "goesBack" "Z" ∈ gWs) {x : Int} {v1 : gV} (hx : inR x) (hb : x = 0 ∨ x = 1) (hv : (mdW k ad) (va_up v 18 x) f g = (mdW k ad) v1 f g) (hv2 : va_up v 18 x = v1 ∨ gOk v1 f) (hdg : decode cc pc = .ok (.putfield idx, 3)) (kk : ∀ (H1 : Heap) (locs1 : List Loc), gWd D (mdW k ad) v1 f g H1 → va_S A H0 H1 locs1 → W p l e R s m args below meth c H1 locs1 cells slots Q (F0 m (pc + 3) ls rest)) : W p l e R s m args below meth c H locs cells slots Q (F0 m pc ls (.int (iI x) :: .ref (ad 0) :: rest)) := va_put (D := D) (ci := 11) (ty := .boolean) (C := RX11) (T := TX11) (N := 70) C.1 C.2.1 C.2.2.1 gLx11 tyX11 tyX11_ok nmX11 C.2.2.2.1 C.2.2.2.2 hP.1 (hD v f g) hS 0 rfl rfl 20 (by decide) (C.2.2.1 _ hm) (fun _ h9 => h9) rfl (by decide +kernel) (by rcases hb with rfl | rfl <;> rfl) (by rcases hb with rfl | rfl <;> rfl) (Nat.le_of_ble_eq_true rfl) hdg (fun H1 locs1 h1 _ h3 => kk H1 locs1 ⟨hv ▸ (show va_P D vwCl ((mdW k ad) (va_up v 18 x) f g) H1 from h1), hv2.elim (fun q => q ▸ gR_up hP.2 18 hx) id⟩ h3)
theorem mdG_newBack (C : gC D k p s m args c cc own) (hP : gWd D (mdW k ad) v f g H) (hm : Cond.fieldLink own idx "RouteWallModel" "newBack" "Z" ∈ gWs) (hdg : decode cc pc = .ok (.getfield idx, 3)) (kk : W p l e R s m args below meth c H locs cells slots Q (F0 m (pc + 3) ls (.int (iI (v 19)) :: rest))) : W p l e R s m args below meth c H locs cells slots Q (F0 m pc ls (.ref (ad 0) :: rest)) := va_get (D := D) (ci := 11) (C := RX11) (T := TX11) (N := 70) C.1 C.2.1 C.2.2.1 gLx11 C.2.2.2.1 C.2.2.2.2 hP.1 0 rfl rfl 21 (by decide) (C.2.2.1 _ hm) (fun _ h9 => h9) rfl hdg kk
theorem mdP_newBack (C : gC D k p s m args c cc own) (hP : gWd D (mdW k ad) v f g H) (hD : mdD A k ad) (hS : va_S A H0 H locs) (hm : Cond.fieldLink own idx "RouteWallModel" "newBack" "Z" ∈ gWs) {x : Int} {v1 : gV} (hx : inR x) (hb : x = 0 ∨ x = 1) (hv : (mdW k ad) (va_up v 19 x) f g = (mdW k ad) v1 f g) (hv2 : va_up v 19 x = v1 ∨ gOk v1 f) (hdg : decode cc pc = .ok (.putfield idx, 3)) (kk : ∀ (H1 : Heap) (locs1 : List Loc), gWd D (mdW k ad) v1 f g H1 → va_S A H0 H1 locs1 → W p l e R s m args below meth c H1 locs1 cells slots Q (F0 m (pc + 3) ls rest)) : W p l e R s m args below meth c H locs cells slots Q (F0 m pc ls (.int (iI x) :: .ref (ad 0) :: rest)) := va_put (D := D) (ci := 11) (ty := .boolean) (C := RX11) (T := TX11) (N := 70) C.1 C.2.1 C.2.2.1 gLx11 tyX11 tyX11_ok nmX11 C.2.2.2.1 C.2.2.2.2 hP.1 (hD v f g) hS 0 rfl rfl 21 (by decide) (C.2.2.1 _ hm) (fun _ h9 => h9) rfl (by decide +kernel) (by rcases hb with rfl | rfl <;> rfl) (by rcases hb with rfl | rfl <;> rfl) (Nat.le_of_ble_eq_true rfl) hdg (fun H1 locs1 h1 _ h3 => kk H1 locs1 ⟨hv ▸ (show va_P D vwCl ((mdW k ad) (va_up v 19 x) f g) H1 from h1), hv2.elim (fun q => q ▸ gR_up hP.2 19 hx) id⟩ h3)
theorem mdG_routes (C : gC D k p s m args c cc own) (hP : gWd D (mdW k ad) v f g H) (hm : Cond.fieldLink own idx "RouteWallModel" "routes" "[I" ∈ gWs) (hdg : decode cc pc = .ok (.getfield idx, 3)) (kk : W p l e R s m args below meth c H locs cells slots Q (F0 m (pc + 3) ls (.ref (ad 2) :: rest))) : W p l e R s m args below meth c H locs cells slots Q (F0 m pc ls (.ref (ad 0) :: rest)) := va_get (D := D) (ci := 11) (C := RX11) (T := TX11) (N := 70) C.1 C.2.1 C.2.2.1 gLx11 C.2.2.2.1 C.2.2.2.2 hP.1 0 rfl rfl 22 (by decide) (C.2.2.1 _ hm) (fun _ h9 => h9) rfl hdg kk
theorem mdG_tries (C : gC D k p s m args c cc own) (hP : gWd D (mdW k ad) v f g H) (hm : Cond.fieldLink own idx "RouteWallModel" "tries" "[I" ∈ gWs) (hdg : decode cc pc = .ok (.getfield idx, 3)) (kk : W p l e R s m args below meth c H locs cells slots Q (F0 m (pc + 3) ls (.ref (ad 3) :: rest))) : W p l e R s m args below meth c H locs cells slots Q (F0 m pc ls (.ref (ad 0) :: rest)) := va_get (D := D) (ci := 11) (C := RX11) (T := TX11) (N := 70) C.1 C.2.1 C.2.2.1 gLx11 C.2.2.2.1 C.2.2.2.2 hP.1 0 rfl rfl 23 (by decide) (C.2.2.1 _ hm) (fun _ h9 => h9) rfl hdg kk
theorem mdG_seconds (C : gC D k p s m args c cc own) (hP : gWd D (mdW k ad) v f g H) (hm : Cond.fieldLink own idx "RouteWallModel" "seconds" "[I" ∈ gWs) (hdg : decode cc pc = .ok (.getfield idx, 3)) (kk : W p l e R s m args below meth c H locs cells slots Q (F0 m (pc + 3) ls (.ref (ad 4) :: rest))) : W p l e R s m args below meth c H locs cells slots Q (F0 m pc ls (.ref (ad 0) :: rest)) := va_get (D := D) (ci := 11) (C := RX11) (T := TX11) (N := 70) C.1 C.2.1 C.2.2.1 gLx11 C.2.2.2.1 C.2.2.2.2 hP.1 0 rfl rfl 24 (by decide) (C.2.2.1 _ hm) (fun _ h9 => h9) rfl hdg kk
theorem mdG_rest (C : gC D k p s m args c cc own) (hP : gWd D (mdW k ad) v f g H) (hm : Cond.fieldLink own idx "RouteWallModel" "rest" "[I" ∈ gWs) (hdg : decode cc pc = .ok (.getfield idx, 3)) (kk : W p l e R s m args below meth c H locs cells slots Q (F0 m (pc + 3) ls (.ref (ad 5) :: rest))) : W p l e R s m args below meth c H locs cells slots Q (F0 m pc ls (.ref (ad 0) :: rest)) := va_get (D := D) (ci := 11) (C := RX11) (T := TX11) (N := 70) C.1 C.2.1 C.2.2.1 gLx11 C.2.2.2.1 C.2.2.2.2 hP.1 0 rfl rfl 25 (by decide) (C.2.2.1 _ hm) (fun _ h9 => h9) rfl hdg kk
theorem mdG_newRoutes (C : gC D k p s m args c cc own) (hP : gWd D (mdW k ad) v f g H) (hm : Cond.fieldLink own idx "RouteWallModel" "newRoutes" "[I" ∈ gWs) (hdg : decode cc pc = .ok (.getfield idx, 3)) (kk : W p l e R s m args below meth c H locs cells slots Q (F0 m (pc + 3) ls (.ref (ad 6) :: rest))) : W p l e R s m args below meth c H locs cells slots Q (F0 m pc ls (.ref (ad 0) :: rest)) := va_get (D := D) (ci := 11) (C := RX11) (T := TX11) (N := 70) C.1 C.2.1 C.2.2.1 gLx11 C.2.2.2.1 C.2.2.2.2 hP.1 0 rfl rfl 26 (by decide) (C.2.2.1 _ hm) (fun _ h9 => h9) rfl hdg kk
theorem mdG_newTries (C : gC D k p s m args c cc own) (hP : gWd D (mdW k ad) v f g H) (hm : Cond.fieldLink own idx "RouteWallModel" "newTries" "[I" ∈ gWs) (hdg : decode cc pc = .ok (.getfield idx, 3)) (kk : W p l e R s m args below meth c H locs cells slots Q (F0 m (pc + 3) ls (.ref (ad 7) :: rest))) : W p l e R s m args below meth c H locs cells slots Q (F0 m pc ls (.ref (ad 0) :: rest)) := va_get (D := D) (ci := 11) (C := RX11) (T := TX11) (N := 70) C.1 C.2.1 C.2.2.1 gLx11 C.2.2.2.1 C.2.2.2.2 hP.1 0 rfl rfl 27 (by decide) (C.2.2.1 _ hm) (fun _ h9 => h9) rfl hdg kk
theorem mdG_newSeconds (C : gC D k p s m args c cc own) (hP : gWd D (mdW k ad) v f g H) (hm : Cond.fieldLink own idx "RouteWallModel" "newSeconds" "[I" ∈ gWs) (hdg : decode cc pc = .ok (.getfield idx, 3)) (kk : W p l e R s m args below meth c H locs cells slots Q (F0 m (pc + 3) ls (.ref (ad 8) :: rest))) : W p l e R s m args below meth c H locs cells slots Q (F0 m pc ls (.ref (ad 0) :: rest)) := va_get (D := D) (ci := 11) (C := RX11) (T := TX11) (N := 70) C.1 C.2.1 C.2.2.1 gLx11 C.2.2.2.1 C.2.2.2.2 hP.1 0 rfl rfl 28 (by decide) (C.2.2.1 _ hm) (fun _ h9 => h9) rfl hdg kk
theorem mdG_newRest (C : gC D k p s m args c cc own) (hP : gWd D (mdW k ad) v f g H) (hm : Cond.fieldLink own idx "RouteWallModel" "newRest" "[I" ∈ gWs) (hdg : decode cc pc = .ok (.getfield idx, 3)) (kk : W p l e R s m args below meth c H locs cells slots Q (F0 m (pc + 3) ls (.ref (ad 9) :: rest))) : W p l e R s m args below meth c H locs cells slots Q (F0 m pc ls (.ref (ad 0) :: rest)) := va_get (D := D) (ci := 11) (C := RX11) (T := TX11) (N := 70) C.1 C.2.1 C.2.2.1 gLx11 C.2.2.2.1 C.2.2.2.2 hP.1 0 rfl rfl 29 (by decide) (C.2.2.1 _ hm) (fun _ h9 => h9) rfl hdg kk
theorem mdG_part (C : gC D k p s m args c cc own) (hP : gWd D (mdW k ad) v f g H) (hm : Cond.fieldLink own idx "RouteWallModel" "part" "[I" ∈ gWs) (hdg : decode cc pc = .ok (.getfield idx, 3)) (kk : W p l e R s m args below meth c H locs cells slots Q (F0 m (pc + 3) ls (.ref (ad 10) :: rest))) : W p l e R s m args below meth c H locs cells slots Q (F0 m pc ls (.ref (ad 0) :: rest)) := va_get (D := D) (ci := 11) (C := RX11) (T := TX11) (N := 70) C.1 C.2.1 C.2.2.1 gLx11 C.2.2.2.1 C.2.2.2.2 hP.1 0 rfl rfl 30 (by decide) (C.2.2.1 _ hm) (fun _ h9 => h9) rfl hdg kk
theorem mdG_partNumber (C : gC D k p s m args c cc own) (hP : gWd D (mdW k ad) v f g H) (hm : Cond.fieldLink own idx "RouteWallModel" "partNumber" "[I" ∈ gWs) (hdg : decode cc pc = .ok (.getfield idx, 3)) (kk : W p l e R s m args below meth c H locs cells slots Q (F0 m (pc + 3) ls (.ref (ad 11) :: rest))) : W p l e R s m args below meth c H locs cells slots Q (F0 m pc ls (.ref (ad 0) :: rest)) := va_get (D := D) (ci := 11) (C := RX11) (T := TX11) (N := 70) C.1 C.2.1 C.2.2.1 gLx11 C.2.2.2.1 C.2.2.2.2 hP.1 0 rfl rfl 31 (by decide) (C.2.2.1 _ hm) (fun _ h9 => h9) rfl hdg kk
theorem mdG_newPart (C : gC D k p s m args c cc own) (hP : gWd D (mdW k ad) v f g H) (hm : Cond.fieldLink own idx "RouteWallModel" "newPart" "[I" ∈ gWs) (hdg : decode cc pc = .ok (.getfield idx, 3)) (kk : W p l e R s m args below meth c H locs cells slots Q (F0 m (pc + 3) ls (.ref (ad 12) :: rest))) : W p l e R s m args below meth c H locs cells slots Q (F0 m pc ls (.ref (ad 0) :: rest)) := va_get (D := D) (ci := 11) (C := RX11) (T := TX11) (N := 70) C.1 C.2.1 C.2.2.1 gLx11 C.2.2.2.1 C.2.2.2.2 hP.1 0 rfl rfl 32 (by decide) (C.2.2.1 _ hm) (fun _ h9 => h9) rfl hdg kk
theorem mdG_newNumber (C : gC D k p s m args c cc own) (hP : gWd D (mdW k ad) v f g H) (hm : Cond.fieldLink own idx "RouteWallModel" "newNumber" "[I" ∈ gWs) (hdg : decode cc pc = .ok (.getfield idx, 3)) (kk : W p l e R s m args below meth c H locs cells slots Q (F0 m (pc + 3) ls (.ref (ad 13) :: rest))) : W p l e R s m args below meth c H locs cells slots Q (F0 m pc ls (.ref (ad 0) :: rest)) := va_get (D := D) (ci := 11) (C := RX11) (T := TX11) (N := 70) C.1 C.2.1 C.2.2.1 gLx11 C.2.2.2.1 C.2.2.2.2 hP.1 0 rfl rfl 33 (by decide) (C.2.2.1 _ hm) (fun _ h9 => h9) rfl hdg kk
theorem mdG_key (C : gC D k p s m args c cc own) (hP : gWd D (mdW k ad) v f g H) (hm : Cond.fieldLink own idx "RouteWallModel" "key" "[I" ∈ gWs) (hdg : decode cc pc = .ok (.getfield idx, 3)) (kk : W p l e R s m args below meth c H locs cells slots Q (F0 m (pc + 3) ls (.ref (ad 14) :: rest))) : W p l e R s m args below meth c H locs cells slots Q (F0 m pc ls (.ref (ad 0) :: rest)) := va_get (D := D) (ci := 11) (C := RX11) (T := TX11) (N := 70) C.1 C.2.1 C.2.2.1 gLx11 C.2.2.2.1 C.2.2.2.2 hP.1 0 rfl rfl 34 (by decide) (C.2.2.1 _ hm) (fun _ h9 => h9) rfl hdg kk
theorem mdG_newKey (C : gC D k p s m args c cc own) (hP : gWd D (mdW k ad) v f g H) (hm : Cond.fieldLink own idx "RouteWallModel" "newKey" "[I" ∈ gWs) (hdg : decode cc pc = .ok (.getfield idx, 3)) (kk : W p l e R s m args below meth c H locs cells slots Q (F0 m (pc + 3) ls (.ref (ad 15) :: rest))) : W p l e R s m args below meth c H locs cells slots Q (F0 m pc ls (.ref (ad 0) :: rest)) := va_get (D := D) (ci := 11) (C := RX11) (T := TX11) (N := 70) C.1 C.2.1 C.2.2.1 gLx11 C.2.2.2.1 C.2.2.2.2 hP.1 0 rfl rfl 35 (by decide) (C.2.2.1 _ hm) (fun _ h9 => h9) rfl hdg kk
theorem mdG_isUp (C : gC D k p s m args c cc own) (hP : gWd D (mdW k ad) v f g H) (hm : Cond.fieldLink own idx "RouteWallModel" "isUp" "[Z" ∈ gWs) (hdg : decode cc pc = .ok (.getfield idx, 3)) (kk : W p l e R s m args below meth c H locs cells slots Q (F0 m (pc + 3) ls (.ref (ad 16) :: rest))) : W p l e R s m args below meth c H locs cells slots Q (F0 m pc ls (.ref (ad 0) :: rest)) := va_get (D := D) (ci := 11) (C := RX11) (T := TX11) (N := 70) C.1 C.2.1 C.2.2.1 gLx11 C.2.2.2.1 C.2.2.2.2 hP.1 0 rfl rfl 36 (by decide) (C.2.2.1 _ hm) (fun _ h9 => h9) rfl hdg kk
theorem mdG_newUp (C : gC D k p s m args c cc own) (hP : gWd D (mdW k ad) v f g H) (hm : Cond.fieldLink own idx "RouteWallModel" "newUp" "[Z" ∈ gWs) (hdg : decode cc pc = .ok (.getfield idx, 3)) (kk : W p l e R s m args below meth c H locs cells slots Q (F0 m (pc + 3) ls (.ref (ad 17) :: rest))) : W p l e R s m args below meth c H locs cells slots Q (F0 m pc ls (.ref (ad 0) :: rest)) := va_get (D := D) (ci := 11) (C := RX11) (T := TX11) (N := 70) C.1 C.2.1 C.2.2.1 gLx11 C.2.2.2.1 C.2.2.2.2 hP.1 0 rfl rfl 37 (by decide) (C.2.2.1 _ hm) (fun _ h9 => h9) rfl hdg kk
theorem mdG_waits (C : gC D k p s m args c cc own) (hP : gWd D (mdW k ad) v f g H) (hm : Cond.fieldLink own idx "RouteWallModel" "waits" "[I" ∈ gWs) (hdg : decode cc pc = .ok (.getfield idx, 3)) (kk : W p l e R s m args below meth c H locs cells slots Q (F0 m (pc + 3) ls (.ref (ad 18) :: rest))) : W p l e R s m args below meth c H locs cells slots Q (F0 m pc ls (.ref (ad 0) :: rest)) := va_get (D := D) (ci := 11) (C := RX11) (T := TX11) (N := 70) C.1 C.2.1 C.2.2.1 gLx11 C.2.2.2.1 C.2.2.2.2 hP.1 0 rfl rfl 38 (by decide) (C.2.2.1 _ hm) (fun _ h9 => h9) rfl hdg kk
theorem mdG_waiting (C : gC D k p s m args c cc own) (hP : gWd D (mdW k ad) v f g H) (hm : Cond.fieldLink own idx "RouteWallModel" "waiting" "I" ∈ gWs) (hdg : decode cc pc = .ok (.getfield idx, 3)) (kk : W p l e R s m args below meth c H locs cells slots Q (F0 m (pc + 3) ls (.int (iI (v 20)) :: rest))) : W p l e R s m args below meth c H locs cells slots Q (F0 m pc ls (.ref (ad 0) :: rest)) := va_get (D := D) (ci := 11) (C := RX11) (T := TX11) (N := 70) C.1 C.2.1 C.2.2.1 gLx11 C.2.2.2.1 C.2.2.2.2 hP.1 0 rfl rfl 39 (by decide) (C.2.2.1 _ hm) (fun _ h9 => h9) rfl hdg kk
theorem mdP_waiting (C : gC D k p s m args c cc own) (hP : gWd D (mdW k ad) v f g H) (hD : mdD A k ad) (hS : va_S A H0 H locs) (hm : Cond.fieldLink own idx "RouteWallModel" "waiting" "I" ∈ gWs) {x : Int} {v1 : gV} (hx : inR x) (hv : (mdW k ad) (va_up v 20 x) f g = (mdW k ad) v1 f g) (hv2 : va_up v 20 x = v1 ∨ gOk v1 f) (hdg : decode cc pc = .ok (.putfield idx, 3)) (kk : ∀ (H1 : Heap) (locs1 : List Loc), gWd D (mdW k ad) v1 f g H1 → va_S A H0 H1 locs1 → W p l e R s m args below meth c H1 locs1 cells slots Q (F0 m (pc + 3) ls rest)) : W p l e R s m args below meth c H locs cells slots Q (F0 m pc ls (.int (iI x) :: .ref (ad 0) :: rest)) := va_put (D := D) (ci := 11) (ty := .int) (C := RX11) (T := TX11) (N := 70) C.1 C.2.1 C.2.2.1 gLx11 tyX11 tyX11_ok nmX11 C.2.2.2.1 C.2.2.2.2 hP.1 (hD v f g) hS 0 rfl rfl 39 (by decide) (C.2.2.1 _ hm) (fun _ h9 => h9) rfl (by decide +kernel) rfl rfl (Nat.le_of_ble_eq_true rfl) hdg (fun H1 locs1 h1 _ h3 => kk H1 locs1 ⟨hv ▸ (show va_P D vwCl ((mdW k ad) (va_up v 20 x) f g) H1 from h1), hv2.elim (fun q => q ▸ gR_up hP.2 20 hx) id⟩ h3)
theorem mdG_deep (C : gC D k p s m args c cc own) (hP : gWd D (mdW k ad) v f g H) (hm : Cond.fieldLink own idx "RouteWallModel" "deep" "I" ∈ gWs) (hdg : decode cc pc = .ok (.getfield idx, 3)) (kk : W p l e R s m args below meth c H locs cells slots Q (F0 m (pc + 3) ls (.int (iI (v 21)) :: rest))) : W p l e R s m args below meth c H locs cells slots Q (F0 m pc ls (.ref (ad 0) :: rest)) := va_get (D := D) (ci := 11) (C := RX11) (T := TX11) (N := 70) C.1 C.2.1 C.2.2.1 gLx11 C.2.2.2.1 C.2.2.2.2 hP.1 0 rfl rfl 40 (by decide) (C.2.2.1 _ hm) (fun _ h9 => h9) rfl hdg kk
theorem mdP_deep (C : gC D k p s m args c cc own) (hP : gWd D (mdW k ad) v f g H) (hD : mdD A k ad) (hS : va_S A H0 H locs) (hm : Cond.fieldLink own idx "RouteWallModel" "deep" "I" ∈ gWs) {x : Int} {v1 : gV} (hx : inR x) (hv : (mdW k ad) (va_up v 21 x) f g = (mdW k ad) v1 f g) (hv2 : va_up v 21 x = v1 ∨ gOk v1 f) (hdg : decode cc pc = .ok (.putfield idx, 3)) (kk : ∀ (H1 : Heap) (locs1 : List Loc), gWd D (mdW k ad) v1 f g H1 → va_S A H0 H1 locs1 → W p l e R s m args below meth c H1 locs1 cells slots Q (F0 m (pc + 3) ls rest)) : W p l e R s m args below meth c H locs cells slots Q (F0 m pc ls (.int (iI x) :: .ref (ad 0) :: rest)) := va_put (D := D) (ci := 11) (ty := .int) (C := RX11) (T := TX11) (N := 70) C.1 C.2.1 C.2.2.1 gLx11 tyX11 tyX11_ok nmX11 C.2.2.2.1 C.2.2.2.2 hP.1 (hD v f g) hS 0 rfl rfl 40 (by decide) (C.2.2.1 _ hm) (fun _ h9 => h9) rfl (by decide +kernel) rfl rfl (Nat.le_of_ble_eq_true rfl) hdg (fun H1 locs1 h1 _ h3 => kk H1 locs1 ⟨hv ▸ (show va_P D vwCl ((mdW k ad) (va_up v 21 x) f g) H1 from h1), hv2.elim (fun q => q ▸ gR_up hP.2 21 hx) id⟩ h3)
theorem mdG_holds (C : gC D k p s m args c cc own) (hP : gWd D (mdW k ad) v f g H) (hm : Cond.fieldLink own idx "RouteWallModel" "holds" "[I" ∈ gWs) (hdg : decode cc pc = .ok (.getfield idx, 3)) (kk : W p l e R s m args below meth c H locs cells slots Q (F0 m (pc + 3) ls (.ref (ad 19) :: rest))) : W p l e R s m args below meth c H locs cells slots Q (F0 m pc ls (.ref (ad 0) :: rest)) := va_get (D := D) (ci := 11) (C := RX11) (T := TX11) (N := 70) C.1 C.2.1 C.2.2.1 gLx11 C.2.2.2.1 C.2.2.2.2 hP.1 0 rfl rfl 41 (by decide) (C.2.2.1 _ hm) (fun _ h9 => h9) rfl hdg kk
theorem mdG_zones (C : gC D k p s m args c cc own) (hP : gWd D (mdW k ad) v f g H) (hm : Cond.fieldLink own idx "RouteWallModel" "zones" "[I" ∈ gWs) (hdg : decode cc pc = .ok (.getfield idx, 3)) (kk : W p l e R s m args below meth c H locs cells slots Q (F0 m (pc + 3) ls (.ref (ad 20) :: rest))) : W p l e R s m args below meth c H locs cells slots Q (F0 m pc ls (.ref (ad 0) :: rest)) := va_get (D := D) (ci := 11) (C := RX11) (T := TX11) (N := 70) C.1 C.2.1 C.2.2.1 gLx11 C.2.2.2.1 C.2.2.2.2 hP.1 0 rfl rfl 42 (by decide) (C.2.2.1 _ hm) (fun _ h9 => h9) rfl hdg kk
theorem mdG_begun (C : gC D k p s m args c cc own) (hP : gWd D (mdW k ad) v f g H) (hm : Cond.fieldLink own idx "RouteWallModel" "begun" "[I" ∈ gWs) (hdg : decode cc pc = .ok (.getfield idx, 3)) (kk : W p l e R s m args below meth c H locs cells slots Q (F0 m (pc + 3) ls (.ref (ad 21) :: rest))) : W p l e R s m args below meth c H locs cells slots Q (F0 m pc ls (.ref (ad 0) :: rest)) := va_get (D := D) (ci := 11) (C := RX11) (T := TX11) (N := 70) C.1 C.2.1 C.2.2.1 gLx11 C.2.2.2.1 C.2.2.2.2 hP.1 0 rfl rfl 43 (by decide) (C.2.2.1 _ hm) (fun _ h9 => h9) rfl hdg kk
theorem mdG_climbers (C : gC D k p s m args c cc own) (hP : gWd D (mdW k ad) v f g H) (hm : Cond.fieldLink own idx "RouteWallModel" "climbers" "I" ∈ gWs) (hdg : decode cc pc = .ok (.getfield idx, 3)) (kk : W p l e R s m args below meth c H locs cells slots Q (F0 m (pc + 3) ls (.int (iI (v 22)) :: rest))) : W p l e R s m args below meth c H locs cells slots Q (F0 m pc ls (.ref (ad 0) :: rest)) := va_get (D := D) (ci := 11) (C := RX11) (T := TX11) (N := 70) C.1 C.2.1 C.2.2.1 gLx11 C.2.2.2.1 C.2.2.2.2 hP.1 0 rfl rfl 44 (by decide) (C.2.2.1 _ hm) (fun _ h9 => h9) rfl hdg kk
theorem mdP_climbers (C : gC D k p s m args c cc own) (hP : gWd D (mdW k ad) v f g H) (hD : mdD A k ad) (hS : va_S A H0 H locs) (hm : Cond.fieldLink own idx "RouteWallModel" "climbers" "I" ∈ gWs) {x : Int} {v1 : gV} (hx : inR x) (hv : (mdW k ad) (va_up v 22 x) f g = (mdW k ad) v1 f g) (hv2 : va_up v 22 x = v1 ∨ gOk v1 f) (hdg : decode cc pc = .ok (.putfield idx, 3)) (kk : ∀ (H1 : Heap) (locs1 : List Loc), gWd D (mdW k ad) v1 f g H1 → va_S A H0 H1 locs1 → W p l e R s m args below meth c H1 locs1 cells slots Q (F0 m (pc + 3) ls rest)) : W p l e R s m args below meth c H locs cells slots Q (F0 m pc ls (.int (iI x) :: .ref (ad 0) :: rest)) := va_put (D := D) (ci := 11) (ty := .int) (C := RX11) (T := TX11) (N := 70) C.1 C.2.1 C.2.2.1 gLx11 tyX11 tyX11_ok nmX11 C.2.2.2.1 C.2.2.2.2 hP.1 (hD v f g) hS 0 rfl rfl 44 (by decide) (C.2.2.1 _ hm) (fun _ h9 => h9) rfl (by decide +kernel) rfl rfl (Nat.le_of_ble_eq_true rfl) hdg (fun H1 locs1 h1 _ h3 => kk H1 locs1 ⟨hv ▸ (show va_P D vwCl ((mdW k ad) (va_up v 22 x) f g) H1 from h1), hv2.elim (fun q => q ▸ gR_up hP.2 22 hx) id⟩ h3)
theorem mdG_open (C : gC D k p s m args c cc own) (hP : gWd D (mdW k ad) v f g H) (hm : Cond.fieldLink own idx "RouteWallModel" "open" "I" ∈ gWs) (hdg : decode cc pc = .ok (.getfield idx, 3)) (kk : W p l e R s m args below meth c H locs cells slots Q (F0 m (pc + 3) ls (.int (iI (v 23)) :: rest))) : W p l e R s m args below meth c H locs cells slots Q (F0 m pc ls (.ref (ad 0) :: rest)) := va_get (D := D) (ci := 11) (C := RX11) (T := TX11) (N := 70) C.1 C.2.1 C.2.2.1 gLx11 C.2.2.2.1 C.2.2.2.2 hP.1 0 rfl rfl 45 (by decide) (C.2.2.1 _ hm) (fun _ h9 => h9) rfl hdg kk
theorem mdP_open (C : gC D k p s m args c cc own) (hP : gWd D (mdW k ad) v f g H) (hD : mdD A k ad) (hS : va_S A H0 H locs) (hm : Cond.fieldLink own idx "RouteWallModel" "open" "I" ∈ gWs) {x : Int} {v1 : gV} (hx : inR x) (hv : (mdW k ad) (va_up v 23 x) f g = (mdW k ad) v1 f g) (hv2 : va_up v 23 x = v1 ∨ gOk v1 f) (hdg : decode cc pc = .ok (.putfield idx, 3)) (kk : ∀ (H1 : Heap) (locs1 : List Loc), gWd D (mdW k ad) v1 f g H1 → va_S A H0 H1 locs1 → W p l e R s m args below meth c H1 locs1 cells slots Q (F0 m (pc + 3) ls rest)) : W p l e R s m args below meth c H locs cells slots Q (F0 m pc ls (.int (iI x) :: .ref (ad 0) :: rest)) := va_put (D := D) (ci := 11) (ty := .int) (C := RX11) (T := TX11) (N := 70) C.1 C.2.1 C.2.2.1 gLx11 tyX11 tyX11_ok nmX11 C.2.2.2.1 C.2.2.2.2 hP.1 (hD v f g) hS 0 rfl rfl 45 (by decide) (C.2.2.1 _ hm) (fun _ h9 => h9) rfl (by decide +kernel) rfl rfl (Nat.le_of_ble_eq_true rfl) hdg (fun H1 locs1 h1 _ h3 => kk H1 locs1 ⟨hv ▸ (show va_P D vwCl ((mdW k ad) (va_up v 23 x) f g) H1 from h1), hv2.elim (fun q => q ▸ gR_up hP.2 23 hx) id⟩ h3)
theorem mdG_now (C : gC D k p s m args c cc own) (hP : gWd D (mdW k ad) v f g H) (hm : Cond.fieldLink own idx "RouteWallModel" "now" "I" ∈ gWs) (hdg : decode cc pc = .ok (.getfield idx, 3)) (kk : W p l e R s m args below meth c H locs cells slots Q (F0 m (pc + 3) ls (.int (iI (v 24)) :: rest))) : W p l e R s m args below meth c H locs cells slots Q (F0 m pc ls (.ref (ad 0) :: rest)) := va_get (D := D) (ci := 11) (C := RX11) (T := TX11) (N := 70) C.1 C.2.1 C.2.2.1 gLx11 C.2.2.2.1 C.2.2.2.2 hP.1 0 rfl rfl 46 (by decide) (C.2.2.1 _ hm) (fun _ h9 => h9) rfl hdg kk
theorem mdP_now (C : gC D k p s m args c cc own) (hP : gWd D (mdW k ad) v f g H) (hD : mdD A k ad) (hS : va_S A H0 H locs) (hm : Cond.fieldLink own idx "RouteWallModel" "now" "I" ∈ gWs) {x : Int} {v1 : gV} (hx : inR x) (hv : (mdW k ad) (va_up v 24 x) f g = (mdW k ad) v1 f g) (hv2 : va_up v 24 x = v1 ∨ gOk v1 f) (hdg : decode cc pc = .ok (.putfield idx, 3)) (kk : ∀ (H1 : Heap) (locs1 : List Loc), gWd D (mdW k ad) v1 f g H1 → va_S A H0 H1 locs1 → W p l e R s m args below meth c H1 locs1 cells slots Q (F0 m (pc + 3) ls rest)) : W p l e R s m args below meth c H locs cells slots Q (F0 m pc ls (.int (iI x) :: .ref (ad 0) :: rest)) := va_put (D := D) (ci := 11) (ty := .int) (C := RX11) (T := TX11) (N := 70) C.1 C.2.1 C.2.2.1 gLx11 tyX11 tyX11_ok nmX11 C.2.2.2.1 C.2.2.2.2 hP.1 (hD v f g) hS 0 rfl rfl 46 (by decide) (C.2.2.1 _ hm) (fun _ h9 => h9) rfl (by decide +kernel) rfl rfl (Nat.le_of_ble_eq_true rfl) hdg (fun H1 locs1 h1 _ h3 => kk H1 locs1 ⟨hv ▸ (show va_P D vwCl ((mdW k ad) (va_up v 24 x) f g) H1 from h1), hv2.elim (fun q => q ▸ gR_up hP.2 24 hx) id⟩ h3)
theorem mdG_isIn (C : gC D k p s m args c cc own) (hP : gWd D (mdW k ad) v f g H) (hm : Cond.fieldLink own idx "RouteWallModel" "isIn" "[Z" ∈ gWs) (hdg : decode cc pc = .ok (.getfield idx, 3)) (kk : W p l e R s m args below meth c H locs cells slots Q (F0 m (pc + 3) ls (.ref (ad 22) :: rest))) : W p l e R s m args below meth c H locs cells slots Q (F0 m pc ls (.ref (ad 0) :: rest)) := va_get (D := D) (ci := 11) (C := RX11) (T := TX11) (N := 70) C.1 C.2.1 C.2.2.1 gLx11 C.2.2.2.1 C.2.2.2.2 hP.1 0 rfl rfl 47 (by decide) (C.2.2.1 _ hm) (fun _ h9 => h9) rfl hdg kk
theorem mdG_order (C : gC D k p s m args c cc own) (hP : gWd D (mdW k ad) v f g H) (hm : Cond.fieldLink own idx "RouteWallModel" "order" "[I" ∈ gWs) (hdg : decode cc pc = .ok (.getfield idx, 3)) (kk : W p l e R s m args below meth c H locs cells slots Q (F0 m (pc + 3) ls (.ref (ad 23) :: rest))) : W p l e R s m args below meth c H locs cells slots Q (F0 m pc ls (.ref (ad 0) :: rest)) := va_get (D := D) (ci := 11) (C := RX11) (T := TX11) (N := 70) C.1 C.2.1 C.2.2.1 gLx11 C.2.2.2.1 C.2.2.2.2 hP.1 0 rfl rfl 48 (by decide) (C.2.2.1 _ hm) (fun _ h9 => h9) rfl hdg kk
theorem mdG_orderMany (C : gC D k p s m args c cc own) (hP : gWd D (mdW k ad) v f g H) (hm : Cond.fieldLink own idx "RouteWallModel" "orderMany" "[I" ∈ gWs) (hdg : decode cc pc = .ok (.getfield idx, 3)) (kk : W p l e R s m args below meth c H locs cells slots Q (F0 m (pc + 3) ls (.ref (ad 24) :: rest))) : W p l e R s m args below meth c H locs cells slots Q (F0 m pc ls (.ref (ad 0) :: rest)) := va_get (D := D) (ci := 11) (C := RX11) (T := TX11) (N := 70) C.1 C.2.1 C.2.2.1 gLx11 C.2.2.2.1 C.2.2.2.2 hP.1 0 rfl rfl 49 (by decide) (C.2.2.1 _ hm) (fun _ h9 => h9) rfl hdg kk
theorem mdG_tried (C : gC D k p s m args c cc own) (hP : gWd D (mdW k ad) v f g H) (hm : Cond.fieldLink own idx "RouteWallModel" "tried" "I" ∈ gWs) (hdg : decode cc pc = .ok (.getfield idx, 3)) (kk : W p l e R s m args below meth c H locs cells slots Q (F0 m (pc + 3) ls (.int (iI (v 25)) :: rest))) : W p l e R s m args below meth c H locs cells slots Q (F0 m pc ls (.ref (ad 0) :: rest)) := va_get (D := D) (ci := 11) (C := RX11) (T := TX11) (N := 70) C.1 C.2.1 C.2.2.1 gLx11 C.2.2.2.1 C.2.2.2.2 hP.1 0 rfl rfl 50 (by decide) (C.2.2.1 _ hm) (fun _ h9 => h9) rfl hdg kk
theorem mdP_tried (C : gC D k p s m args c cc own) (hP : gWd D (mdW k ad) v f g H) (hD : mdD A k ad) (hS : va_S A H0 H locs) (hm : Cond.fieldLink own idx "RouteWallModel" "tried" "I" ∈ gWs) {x : Int} {v1 : gV} (hx : inR x) (hv : (mdW k ad) (va_up v 25 x) f g = (mdW k ad) v1 f g) (hv2 : va_up v 25 x = v1 ∨ gOk v1 f) (hdg : decode cc pc = .ok (.putfield idx, 3)) (kk : ∀ (H1 : Heap) (locs1 : List Loc), gWd D (mdW k ad) v1 f g H1 → va_S A H0 H1 locs1 → W p l e R s m args below meth c H1 locs1 cells slots Q (F0 m (pc + 3) ls rest)) : W p l e R s m args below meth c H locs cells slots Q (F0 m pc ls (.int (iI x) :: .ref (ad 0) :: rest)) := va_put (D := D) (ci := 11) (ty := .int) (C := RX11) (T := TX11) (N := 70) C.1 C.2.1 C.2.2.1 gLx11 tyX11 tyX11_ok nmX11 C.2.2.2.1 C.2.2.2.2 hP.1 (hD v f g) hS 0 rfl rfl 50 (by decide) (C.2.2.1 _ hm) (fun _ h9 => h9) rfl (by decide +kernel) rfl rfl (Nat.le_of_ble_eq_true rfl) hdg (fun H1 locs1 h1 _ h3 => kk H1 locs1 ⟨hv ▸ (show va_P D vwCl ((mdW k ad) (va_up v 25 x) f g) H1 from h1), hv2.elim (fun q => q ▸ gR_up hP.2 25 hx) id⟩ h3)
theorem mdG_who (C : gC D k p s m args c cc own) (hP : gWd D (mdW k ad) v f g H) (hm : Cond.fieldLink own idx "RouteWallModel" "who" "[I" ∈ gWs) (hdg : decode cc pc = .ok (.getfield idx, 3)) (kk : W p l e R s m args below meth c H locs cells slots Q (F0 m (pc + 3) ls (.ref (ad 25) :: rest))) : W p l e R s m args below meth c H locs cells slots Q (F0 m pc ls (.ref (ad 0) :: rest)) := va_get (D := D) (ci := 11) (C := RX11) (T := TX11) (N := 70) C.1 C.2.1 C.2.2.1 gLx11 C.2.2.2.1 C.2.2.2.2 hP.1 0 rfl rfl 51 (by decide) (C.2.2.1 _ hm) (fun _ h9 => h9) rfl hdg kk
theorem mdG_where (C : gC D k p s m args c cc own) (hP : gWd D (mdW k ad) v f g H) (hm : Cond.fieldLink own idx "RouteWallModel" "where" "[I" ∈ gWs) (hdg : decode cc pc = .ok (.getfield idx, 3)) (kk : W p l e R s m args below meth c H locs cells slots Q (F0 m (pc + 3) ls (.ref (ad 26) :: rest))) : W p l e R s m args below meth c H locs cells slots Q (F0 m pc ls (.ref (ad 0) :: rest)) := va_get (D := D) (ci := 11) (C := RX11) (T := TX11) (N := 70) C.1 C.2.1 C.2.2.1 gLx11 C.2.2.2.1 C.2.2.2.2 hP.1 0 rfl rfl 52 (by decide) (C.2.2.1 _ hm) (fun _ h9 => h9) rfl hdg kk
theorem mdG_which (C : gC D k p s m args c cc own) (hP : gWd D (mdW k ad) v f g H) (hm : Cond.fieldLink own idx "RouteWallModel" "which" "[I" ∈ gWs) (hdg : decode cc pc = .ok (.getfield idx, 3)) (kk : W p l e R s m args below meth c H locs cells slots Q (F0 m (pc + 3) ls (.ref (ad 27) :: rest))) : W p l e R s m args below meth c H locs cells slots Q (F0 m pc ls (.ref (ad 0) :: rest)) := va_get (D := D) (ci := 11) (C := RX11) (T := TX11) (N := 70) C.1 C.2.1 C.2.2.1 gLx11 C.2.2.2.1 C.2.2.2.2 hP.1 0 rfl rfl 53 (by decide) (C.2.2.1 _ hm) (fun _ h9 => h9) rfl hdg kk
theorem mdG_from (C : gC D k p s m args c cc own) (hP : gWd D (mdW k ad) v f g H) (hm : Cond.fieldLink own idx "RouteWallModel" "from" "[I" ∈ gWs) (hdg : decode cc pc = .ok (.getfield idx, 3)) (kk : W p l e R s m args below meth c H locs cells slots Q (F0 m (pc + 3) ls (.ref (ad 28) :: rest))) : W p l e R s m args below meth c H locs cells slots Q (F0 m pc ls (.ref (ad 0) :: rest)) := va_get (D := D) (ci := 11) (C := RX11) (T := TX11) (N := 70) C.1 C.2.1 C.2.2.1 gLx11 C.2.2.2.1 C.2.2.2.2 hP.1 0 rfl rfl 54 (by decide) (C.2.2.1 _ hm) (fun _ h9 => h9) rfl hdg kk
theorem mdG_to (C : gC D k p s m args c cc own) (hP : gWd D (mdW k ad) v f g H) (hm : Cond.fieldLink own idx "RouteWallModel" "to" "[I" ∈ gWs) (hdg : decode cc pc = .ok (.getfield idx, 3)) (kk : W p l e R s m args below meth c H locs cells slots Q (F0 m (pc + 3) ls (.ref (ad 29) :: rest))) : W p l e R s m args below meth c H locs cells slots Q (F0 m pc ls (.ref (ad 0) :: rest)) := va_get (D := D) (ci := 11) (C := RX11) (T := TX11) (N := 70) C.1 C.2.1 C.2.2.1 gLx11 C.2.2.2.1 C.2.2.2.2 hP.1 0 rfl rfl 55 (by decide) (C.2.2.1 _ hm) (fun _ h9 => h9) rfl hdg kk
theorem mdG_hold (C : gC D k p s m args c cc own) (hP : gWd D (mdW k ad) v f g H) (hm : Cond.fieldLink own idx "RouteWallModel" "hold" "[I" ∈ gWs) (hdg : decode cc pc = .ok (.getfield idx, 3)) (kk : W p l e R s m args below meth c H locs cells slots Q (F0 m (pc + 3) ls (.ref (ad 30) :: rest))) : W p l e R s m args below meth c H locs cells slots Q (F0 m pc ls (.ref (ad 0) :: rest)) := va_get (D := D) (ci := 11) (C := RX11) (T := TX11) (N := 70) C.1 C.2.1 C.2.2.1 gLx11 C.2.2.2.1 C.2.2.2.2 hP.1 0 rfl rfl 56 (by decide) (C.2.2.1 _ hm) (fun _ h9 => h9) rfl hdg kk
theorem mdG_how (C : gC D k p s m args c cc own) (hP : gWd D (mdW k ad) v f g H) (hm : Cond.fieldLink own idx "RouteWallModel" "how" "[I" ∈ gWs) (hdg : decode cc pc = .ok (.getfield idx, 3)) (kk : W p l e R s m args below meth c H locs cells slots Q (F0 m (pc + 3) ls (.ref (ad 31) :: rest))) : W p l e R s m args below meth c H locs cells slots Q (F0 m pc ls (.ref (ad 0) :: rest)) := va_get (D := D) (ci := 11) (C := RX11) (T := TX11) (N := 70) C.1 C.2.1 C.2.2.1 gLx11 C.2.2.2.1 C.2.2.2.2 hP.1 0 rfl rfl 57 (by decide) (C.2.2.1 _ hm) (fun _ h9 => h9) rfl hdg kk
theorem mdG_appeals (C : gC D k p s m args c cc own) (hP : gWd D (mdW k ad) v f g H) (hm : Cond.fieldLink own idx "RouteWallModel" "appeals" "I" ∈ gWs) (hdg : decode cc pc = .ok (.getfield idx, 3)) (kk : W p l e R s m args below meth c H locs cells slots Q (F0 m (pc + 3) ls (.int (iI (v 26)) :: rest))) : W p l e R s m args below meth c H locs cells slots Q (F0 m pc ls (.ref (ad 0) :: rest)) := va_get (D := D) (ci := 11) (C := RX11) (T := TX11) (N := 70) C.1 C.2.1 C.2.2.1 gLx11 C.2.2.2.1 C.2.2.2.2 hP.1 0 rfl rfl 58 (by decide) (C.2.2.1 _ hm) (fun _ h9 => h9) rfl hdg kk
theorem mdP_appeals (C : gC D k p s m args c cc own) (hP : gWd D (mdW k ad) v f g H) (hD : mdD A k ad) (hS : va_S A H0 H locs) (hm : Cond.fieldLink own idx "RouteWallModel" "appeals" "I" ∈ gWs) {x : Int} {v1 : gV} (hx : inR x) (hv : (mdW k ad) (va_up v 26 x) f g = (mdW k ad) v1 f g) (hv2 : va_up v 26 x = v1 ∨ gOk v1 f) (hdg : decode cc pc = .ok (.putfield idx, 3)) (kk : ∀ (H1 : Heap) (locs1 : List Loc), gWd D (mdW k ad) v1 f g H1 → va_S A H0 H1 locs1 → W p l e R s m args below meth c H1 locs1 cells slots Q (F0 m (pc + 3) ls rest)) : W p l e R s m args below meth c H locs cells slots Q (F0 m pc ls (.int (iI x) :: .ref (ad 0) :: rest)) := va_put (D := D) (ci := 11) (ty := .int) (C := RX11) (T := TX11) (N := 70) C.1 C.2.1 C.2.2.1 gLx11 tyX11 tyX11_ok nmX11 C.2.2.2.1 C.2.2.2.2 hP.1 (hD v f g) hS 0 rfl rfl 58 (by decide) (C.2.2.1 _ hm) (fun _ h9 => h9) rfl (by decide +kernel) rfl rfl (Nat.le_of_ble_eq_true rfl) hdg (fun H1 locs1 h1 _ h3 => kk H1 locs1 ⟨hv ▸ (show va_P D vwCl ((mdW k ad) (va_up v 26 x) f g) H1 from h1), hv2.elim (fun q => q ▸ gR_up hP.2 26 hx) id⟩ h3)
theorem mdG_appealTry (C : gC D k p s m args c cc own) (hP : gWd D (mdW k ad) v f g H) (hm : Cond.fieldLink own idx "RouteWallModel" "appealTry" "[I" ∈ gWs) (hdg : decode cc pc = .ok (.getfield idx, 3)) (kk : W p l e R s m args below meth c H locs cells slots Q (F0 m (pc + 3) ls (.ref (ad 32) :: rest))) : W p l e R s m args below meth c H locs cells slots Q (F0 m pc ls (.ref (ad 0) :: rest)) := va_get (D := D) (ci := 11) (C := RX11) (T := TX11) (N := 70) C.1 C.2.1 C.2.2.1 gLx11 C.2.2.2.1 C.2.2.2.2 hP.1 0 rfl rfl 59 (by decide) (C.2.2.1 _ hm) (fun _ h9 => h9) rfl hdg kk
theorem mdG_appealHold (C : gC D k p s m args c cc own) (hP : gWd D (mdW k ad) v f g H) (hm : Cond.fieldLink own idx "RouteWallModel" "appealHold" "[I" ∈ gWs) (hdg : decode cc pc = .ok (.getfield idx, 3)) (kk : W p l e R s m args below meth c H locs cells slots Q (F0 m (pc + 3) ls (.ref (ad 33) :: rest))) : W p l e R s m args below meth c H locs cells slots Q (F0 m pc ls (.ref (ad 0) :: rest)) := va_get (D := D) (ci := 11) (C := RX11) (T := TX11) (N := 70) C.1 C.2.1 C.2.2.1 gLx11 C.2.2.2.1 C.2.2.2.2 hP.1 0 rfl rfl 60 (by decide) (C.2.2.1 _ hm) (fun _ h9 => h9) rfl hdg kk
theorem mdG_appealDay (C : gC D k p s m args c cc own) (hP : gWd D (mdW k ad) v f g H) (hm : Cond.fieldLink own idx "RouteWallModel" "appealDay" "[I" ∈ gWs) (hdg : decode cc pc = .ok (.getfield idx, 3)) (kk : W p l e R s m args below meth c H locs cells slots Q (F0 m (pc + 3) ls (.ref (ad 34) :: rest))) : W p l e R s m args below meth c H locs cells slots Q (F0 m pc ls (.ref (ad 0) :: rest)) := va_get (D := D) (ci := 11) (C := RX11) (T := TX11) (N := 70) C.1 C.2.1 C.2.2.1 gLx11 C.2.2.2.1 C.2.2.2.2 hP.1 0 rfl rfl 61 (by decide) (C.2.2.1 _ hm) (fun _ h9 => h9) rfl hdg kk
theorem mdG_outs (C : gC D k p s m args c cc own) (hP : gWd D (mdW k ad) v f g H) (hm : Cond.fieldLink own idx "RouteWallModel" "outs" "[I" ∈ gWs) (hdg : decode cc pc = .ok (.getfield idx, 3)) (kk : W p l e R s m args below meth c H locs cells slots Q (F0 m (pc + 3) ls (.ref (ad 35) :: rest))) : W p l e R s m args below meth c H locs cells slots Q (F0 m pc ls (.ref (ad 0) :: rest)) := va_get (D := D) (ci := 11) (C := RX11) (T := TX11) (N := 70) C.1 C.2.1 C.2.2.1 gLx11 C.2.2.2.1 C.2.2.2.2 hP.1 0 rfl rfl 62 (by decide) (C.2.2.1 _ hm) (fun _ h9 => h9) rfl hdg kk
theorem mdG_outFrom (C : gC D k p s m args c cc own) (hP : gWd D (mdW k ad) v f g H) (hm : Cond.fieldLink own idx "RouteWallModel" "outFrom" "[I" ∈ gWs) (hdg : decode cc pc = .ok (.getfield idx, 3)) (kk : W p l e R s m args below meth c H locs cells slots Q (F0 m (pc + 3) ls (.ref (ad 36) :: rest))) : W p l e R s m args below meth c H locs cells slots Q (F0 m pc ls (.ref (ad 0) :: rest)) := va_get (D := D) (ci := 11) (C := RX11) (T := TX11) (N := 70) C.1 C.2.1 C.2.2.1 gLx11 C.2.2.2.1 C.2.2.2.2 hP.1 0 rfl rfl 63 (by decide) (C.2.2.1 _ hm) (fun _ h9 => h9) rfl hdg kk
theorem mdG_outTo (C : gC D k p s m args c cc own) (hP : gWd D (mdW k ad) v f g H) (hm : Cond.fieldLink own idx "RouteWallModel" "outTo" "[I" ∈ gWs) (hdg : decode cc pc = .ok (.getfield idx, 3)) (kk : W p l e R s m args below meth c H locs cells slots Q (F0 m (pc + 3) ls (.ref (ad 37) :: rest))) : W p l e R s m args below meth c H locs cells slots Q (F0 m pc ls (.ref (ad 0) :: rest)) := va_get (D := D) (ci := 11) (C := RX11) (T := TX11) (N := 70) C.1 C.2.1 C.2.2.1 gLx11 C.2.2.2.1 C.2.2.2.2 hP.1 0 rfl rfl 64 (by decide) (C.2.2.1 _ hm) (fun _ h9 => h9) rfl hdg kk
theorem mdG_counted (C : gC D k p s m args c cc own) (hP : gWd D (mdW k ad) v f g H) (hm : Cond.fieldLink own idx "RouteWallModel" "counted" "I" ∈ gWs) (hdg : decode cc pc = .ok (.getfield idx, 3)) (kk : W p l e R s m args below meth c H locs cells slots Q (F0 m (pc + 3) ls (.int (iI (v 27)) :: rest))) : W p l e R s m args below meth c H locs cells slots Q (F0 m pc ls (.ref (ad 0) :: rest)) := va_get (D := D) (ci := 11) (C := RX11) (T := TX11) (N := 70) C.1 C.2.1 C.2.2.1 gLx11 C.2.2.2.1 C.2.2.2.2 hP.1 0 rfl rfl 65 (by decide) (C.2.2.1 _ hm) (fun _ h9 => h9) rfl hdg kk
theorem mdP_counted (C : gC D k p s m args c cc own) (hP : gWd D (mdW k ad) v f g H) (hD : mdD A k ad) (hS : va_S A H0 H locs) (hm : Cond.fieldLink own idx "RouteWallModel" "counted" "I" ∈ gWs) {x : Int} {v1 : gV} (hx : inR x) (hv : (mdW k ad) (va_up v 27 x) f g = (mdW k ad) v1 f g) (hv2 : va_up v 27 x = v1 ∨ gOk v1 f) (hdg : decode cc pc = .ok (.putfield idx, 3)) (kk : ∀ (H1 : Heap) (locs1 : List Loc), gWd D (mdW k ad) v1 f g H1 → va_S A H0 H1 locs1 → W p l e R s m args below meth c H1 locs1 cells slots Q (F0 m (pc + 3) ls rest)) : W p l e R s m args below meth c H locs cells slots Q (F0 m pc ls (.int (iI x) :: .ref (ad 0) :: rest)) := va_put (D := D) (ci := 11) (ty := .int) (C := RX11) (T := TX11) (N := 70) C.1 C.2.1 C.2.2.1 gLx11 tyX11 tyX11_ok nmX11 C.2.2.2.1 C.2.2.2.2 hP.1 (hD v f g) hS 0 rfl rfl 65 (by decide) (C.2.2.1 _ hm) (fun _ h9 => h9) rfl (by decide +kernel) rfl rfl (Nat.le_of_ble_eq_true rfl) hdg (fun H1 locs1 h1 _ h3 => kk H1 locs1 ⟨hv ▸ (show va_P D vwCl ((mdW k ad) (va_up v 27 x) f g) H1 from h1), hv2.elim (fun q => q ▸ gR_up hP.2 27 hx) id⟩ h3)
theorem mdG_facts (C : gC D k p s m args c cc own) (hP : gWd D (mdW k ad) v f g H) (hm : Cond.fieldLink own idx "RouteWallModel" "facts" "[I" ∈ gWs) (hdg : decode cc pc = .ok (.getfield idx, 3)) (kk : W p l e R s m args below meth c H locs cells slots Q (F0 m (pc + 3) ls (.ref (ad 38) :: rest))) : W p l e R s m args below meth c H locs cells slots Q (F0 m pc ls (.ref (ad 0) :: rest)) := va_get (D := D) (ci := 11) (C := RX11) (T := TX11) (N := 70) C.1 C.2.1 C.2.2.1 gLx11 C.2.2.2.1 C.2.2.2.2 hP.1 0 rfl rfl 66 (by decide) (C.2.2.1 _ hm) (fun _ h9 => h9) rfl hdg kk
theorem mdG_pile (C : gC D k p s m args c cc own) (hP : gWd D (mdW k ad) v f g H) (hm : Cond.fieldLink own idx "RouteWallModel" "pile" "[J" ∈ gWs) (hdg : decode cc pc = .ok (.getfield idx, 3)) (kk : W p l e R s m args below meth c H locs cells slots Q (F0 m (pc + 3) ls (.ref (ad 39) :: rest))) : W p l e R s m args below meth c H locs cells slots Q (F0 m pc ls (.ref (ad 0) :: rest)) := va_get (D := D) (ci := 11) (C := RX11) (T := TX11) (N := 70) C.1 C.2.1 C.2.2.1 gLx11 C.2.2.2.1 C.2.2.2.2 hP.1 0 rfl rfl 67 (by decide) (C.2.2.1 _ hm) (fun _ h9 => h9) rfl hdg kk
theorem mdG_ranks (C : gC D k p s m args c cc own) (hP : gWd D (mdW k ad) v f g H) (hm : Cond.fieldLink own idx "RouteWallModel" "ranks" "[I" ∈ gWs) (hdg : decode cc pc = .ok (.getfield idx, 3)) (kk : W p l e R s m args below meth c H locs cells slots Q (F0 m (pc + 3) ls (.ref (ad 40) :: rest))) : W p l e R s m args below meth c H locs cells slots Q (F0 m pc ls (.ref (ad 0) :: rest)) := va_get (D := D) (ci := 11) (C := RX11) (T := TX11) (N := 70) C.1 C.2.1 C.2.2.1 gLx11 C.2.2.2.1 C.2.2.2.2 hP.1 0 rfl rfl 68 (by decide) (C.2.2.1 _ hm) (fun _ h9 => h9) rfl hdg kk
theorem mdG_sums (C : gC D k p s m args c cc own) (hP : gWd D (mdW k ad) v f g H) (hm : Cond.fieldLink own idx "RouteWallModel" "sums" "[J" ∈ gWs) (hdg : decode cc pc = .ok (.getfield idx, 3)) (kk : W p l e R s m args below meth c H locs cells slots Q (F0 m (pc + 3) ls (.ref (ad 41) :: rest))) : W p l e R s m args below meth c H locs cells slots Q (F0 m pc ls (.ref (ad 0) :: rest)) := va_get (D := D) (ci := 11) (C := RX11) (T := TX11) (N := 70) C.1 C.2.1 C.2.2.1 gLx11 C.2.2.2.1 C.2.2.2.2 hP.1 0 rfl rfl 69 (by decide) (C.2.2.1 _ hm) (fun _ h9 => h9) rfl hdg kk
theorem mdL_tape (C : gC D k p s m args c cc own) (hP : gWd D (mdW k ad) v f g H) {i : Int} (h0 : 0 ≤ i) (h1 : i < 700) (hdg : decode cc pc = .ok (.baload, 1)) (kk : W p l e R s m args below meth c H locs cells slots Q (F0 m (pc + 1) ls (.int (iI (f 0 i)) :: rest))) : W p l e R s m args below meth c H locs cells slots Q (F0 m pc ls (.int (iI i) :: .ref (ad 1) :: rest)) := g_bald C hP.1 1 rfl (by decide) h0 h1 hdg kk
theorem mdS_tape (C : gC D k p s m args c cc own) (hP : gWd D (mdW k ad) v f g H) (hD : mdD A k ad) (hS : va_S A H0 H locs) {i x : Int} {f1 : gF} (h0 : 0 ≤ i) (h1 : i < 700) (hx : inR x) (hy : (iI x).toInt8.toInt32 = iI x) (hv : (mdW k ad) v (va_up f 0 (u1 (f 0) i x)) g = (mdW k ad) v f1 g) (hv2 : va_up f 0 (u1 (f 0) i x) = f1 ∨ gOk v f1) (hdg : decode cc pc = .ok (.bastore, 1)) (kk : ∀ (H1 : Heap) (locs1 : List Loc), gWd D (mdW k ad) v f1 g H1 → va_S A H0 H1 locs1 → W p l e R s m args below meth c H1 locs1 cells slots Q (F0 m (pc + 1) ls rest)) : W p l e R s m args below meth c H locs cells slots Q (F0 m pc ls (.int (iI x) :: .int (iI i) :: .ref (ad 1) :: rest)) := g_bast C hP.1 (hD v f g) hS 1 rfl (by decide) h0 h1 hy (ws' := (mdW k ad) v f1 g) (by rw [← hv]; rfl) hdg (fun H1 locs1 h1 h3 => kk H1 locs1 ⟨h1, hv2.elim (fun q => q ▸ gF_up hP.2 0 (u1_rng (hP.2.2 0) hx)) id⟩ h3)
theorem mdN_tape (C : gC D k p s m args c cc own) (hP : gWd D (mdW k ad) v f g H) (hdg : decode cc pc = .ok (.arraylength, 1)) (kk : W p l e R s m args below meth c H locs cells slots Q (F0 m (pc + 1) ls (.int (iI 700) :: rest))) : W p l e R s m args below meth c H locs cells slots Q (F0 m pc ls (.ref (ad 1) :: rest)) := va_alen (D := D) C.1 C.2.1 C.2.2.2.2 hP.1 1 2 rfl rfl (v := iI 700) rfl hdg kk
theorem mdL_routes (C : gC D k p s m args c cc own) (hP : gWd D (mdW k ad) v f g H) {i : Int} (h0 : 0 ≤ i) (h1 : i < 4) (hdg : decode cc pc = .ok (.iaload, 1)) (kk : W p l e R s m args below meth c H locs cells slots Q (F0 m (pc + 1) ls (.int (iI (f 1 i)) :: rest))) : W p l e R s m args below meth c H locs cells slots Q (F0 m pc ls (.int (iI i) :: .ref (ad 2) :: rest)) := g_iald C hP.1 2 rfl (by decide) h0 h1 hdg kk
theorem mdS_routes (C : gC D k p s m args c cc own) (hP : gWd D (mdW k ad) v f g H) (hD : mdD A k ad) (hS : va_S A H0 H locs) {i x : Int} {f1 : gF} (h0 : 0 ≤ i) (h1 : i < 4) (hx : inR x) (hv : (mdW k ad) v (va_up f 1 (u1 (f 1) i x)) g = (mdW k ad) v f1 g) (hv2 : va_up f 1 (u1 (f 1) i x) = f1 ∨ gOk v f1) (hdg : decode cc pc = .ok (.iastore, 1)) (kk : ∀ (H1 : Heap) (locs1 : List Loc), gWd D (mdW k ad) v f1 g H1 → va_S A H0 H1 locs1 → W p l e R s m args below meth c H1 locs1 cells slots Q (F0 m (pc + 1) ls rest)) : W p l e R s m args below meth c H locs cells slots Q (F0 m pc ls (.int (iI x) :: .int (iI i) :: .ref (ad 2) :: rest)) := g_iast C hP.1 (hD v f g) hS 2 rfl (by decide) h0 h1 (ws' := (mdW k ad) v f1 g) (by rw [← hv]; rfl) hdg (fun H1 locs1 h1 h3 => kk H1 locs1 ⟨h1, hv2.elim (fun q => q ▸ gF_up hP.2 1 (u1_rng (hP.2.2 1) hx)) id⟩ h3)
theorem mdN_routes (C : gC D k p s m args c cc own) (hP : gWd D (mdW k ad) v f g H) (hdg : decode cc pc = .ok (.arraylength, 1)) (kk : W p l e R s m args below meth c H locs cells slots Q (F0 m (pc + 1) ls (.int (iI 4) :: rest))) : W p l e R s m args below meth c H locs cells slots Q (F0 m pc ls (.ref (ad 2) :: rest)) := va_alen (D := D) C.1 C.2.1 C.2.2.2.2 hP.1 2 0 rfl rfl (v := iI 4) rfl hdg kk
theorem mdL_tries (C : gC D k p s m args c cc own) (hP : gWd D (mdW k ad) v f g H) {i : Int} (h0 : 0 ≤ i) (h1 : i < 4) (hdg : decode cc pc = .ok (.iaload, 1)) (kk : W p l e R s m args below meth c H locs cells slots Q (F0 m (pc + 1) ls (.int (iI (f 2 i)) :: rest))) : W p l e R s m args below meth c H locs cells slots Q (F0 m pc ls (.int (iI i) :: .ref (ad 3) :: rest)) := g_iald C hP.1 3 rfl (by decide) h0 h1 hdg kk
theorem mdS_tries (C : gC D k p s m args c cc own) (hP : gWd D (mdW k ad) v f g H) (hD : mdD A k ad) (hS : va_S A H0 H locs) {i x : Int} {f1 : gF} (h0 : 0 ≤ i) (h1 : i < 4) (hx : inR x) (hv : (mdW k ad) v (va_up f 2 (u1 (f 2) i x)) g = (mdW k ad) v f1 g) (hv2 : va_up f 2 (u1 (f 2) i x) = f1 ∨ gOk v f1) (hdg : decode cc pc = .ok (.iastore, 1)) (kk : ∀ (H1 : Heap) (locs1 : List Loc), gWd D (mdW k ad) v f1 g H1 → va_S A H0 H1 locs1 → W p l e R s m args below meth c H1 locs1 cells slots Q (F0 m (pc + 1) ls rest)) : W p l e R s m args below meth c H locs cells slots Q (F0 m pc ls (.int (iI x) :: .int (iI i) :: .ref (ad 3) :: rest)) := g_iast C hP.1 (hD v f g) hS 3 rfl (by decide) h0 h1 (ws' := (mdW k ad) v f1 g) (by rw [← hv]; rfl) hdg (fun H1 locs1 h1 h3 => kk H1 locs1 ⟨h1, hv2.elim (fun q => q ▸ gF_up hP.2 2 (u1_rng (hP.2.2 2) hx)) id⟩ h3)
theorem mdN_tries (C : gC D k p s m args c cc own) (hP : gWd D (mdW k ad) v f g H) (hdg : decode cc pc = .ok (.arraylength, 1)) (kk : W p l e R s m args below meth c H locs cells slots Q (F0 m (pc + 1) ls (.int (iI 4) :: rest))) : W p l e R s m args below meth c H locs cells slots Q (F0 m pc ls (.ref (ad 3) :: rest)) := va_alen (D := D) C.1 C.2.1 C.2.2.2.2 hP.1 3 0 rfl rfl (v := iI 4) rfl hdg kk
theorem mdL_seconds (C : gC D k p s m args c cc own) (hP : gWd D (mdW k ad) v f g H) {i : Int} (h0 : 0 ≤ i) (h1 : i < 4) (hdg : decode cc pc = .ok (.iaload, 1)) (kk : W p l e R s m args below meth c H locs cells slots Q (F0 m (pc + 1) ls (.int (iI (f 3 i)) :: rest))) : W p l e R s m args below meth c H locs cells slots Q (F0 m pc ls (.int (iI i) :: .ref (ad 4) :: rest)) := g_iald C hP.1 4 rfl (by decide) h0 h1 hdg kk
theorem mdS_seconds (C : gC D k p s m args c cc own) (hP : gWd D (mdW k ad) v f g H) (hD : mdD A k ad) (hS : va_S A H0 H locs) {i x : Int} {f1 : gF} (h0 : 0 ≤ i) (h1 : i < 4) (hx : inR x) (hv : (mdW k ad) v (va_up f 3 (u1 (f 3) i x)) g = (mdW k ad) v f1 g) (hv2 : va_up f 3 (u1 (f 3) i x) = f1 ∨ gOk v f1) (hdg : decode cc pc = .ok (.iastore, 1)) (kk : ∀ (H1 : Heap) (locs1 : List Loc), gWd D (mdW k ad) v f1 g H1 → va_S A H0 H1 locs1 → W p l e R s m args below meth c H1 locs1 cells slots Q (F0 m (pc + 1) ls rest)) : W p l e R s m args below meth c H locs cells slots Q (F0 m pc ls (.int (iI x) :: .int (iI i) :: .ref (ad 4) :: rest)) := g_iast C hP.1 (hD v f g) hS 4 rfl (by decide) h0 h1 (ws' := (mdW k ad) v f1 g) (by rw [← hv]; rfl) hdg (fun H1 locs1 h1 h3 => kk H1 locs1 ⟨h1, hv2.elim (fun q => q ▸ gF_up hP.2 3 (u1_rng (hP.2.2 3) hx)) id⟩ h3)
theorem mdN_seconds (C : gC D k p s m args c cc own) (hP : gWd D (mdW k ad) v f g H) (hdg : decode cc pc = .ok (.arraylength, 1)) (kk : W p l e R s m args below meth c H locs cells slots Q (F0 m (pc + 1) ls (.int (iI 4) :: rest))) : W p l e R s m args below meth c H locs cells slots Q (F0 m pc ls (.ref (ad 4) :: rest)) := va_alen (D := D) C.1 C.2.1 C.2.2.2.2 hP.1 4 0 rfl rfl (v := iI 4) rfl hdg kk
theorem mdL_rest (C : gC D k p s m args c cc own) (hP : gWd D (mdW k ad) v f g H) {i : Int} (h0 : 0 ≤ i) (h1 : i < 4) (hdg : decode cc pc = .ok (.iaload, 1)) (kk : W p l e R s m args below meth c H locs cells slots Q (F0 m (pc + 1) ls (.int (iI (f 4 i)) :: rest))) : W p l e R s m args below meth c H locs cells slots Q (F0 m pc ls (.int (iI i) :: .ref (ad 5) :: rest)) := g_iald C hP.1 5 rfl (by decide) h0 h1 hdg kk
theorem mdS_rest (C : gC D k p s m args c cc own) (hP : gWd D (mdW k ad) v f g H) (hD : mdD A k ad) (hS : va_S A H0 H locs) {i x : Int} {f1 : gF} (h0 : 0 ≤ i) (h1 : i < 4) (hx : inR x) (hv : (mdW k ad) v (va_up f 4 (u1 (f 4) i x)) g = (mdW k ad) v f1 g) (hv2 : va_up f 4 (u1 (f 4) i x) = f1 ∨ gOk v f1) (hdg : decode cc pc = .ok (.iastore, 1)) (kk : ∀ (H1 : Heap) (locs1 : List Loc), gWd D (mdW k ad) v f1 g H1 → va_S A H0 H1 locs1 → W p l e R s m args below meth c H1 locs1 cells slots Q (F0 m (pc + 1) ls rest)) : W p l e R s m args below meth c H locs cells slots Q (F0 m pc ls (.int (iI x) :: .int (iI i) :: .ref (ad 5) :: rest)) := g_iast C hP.1 (hD v f g) hS 5 rfl (by decide) h0 h1 (ws' := (mdW k ad) v f1 g) (by rw [← hv]; rfl) hdg (fun H1 locs1 h1 h3 => kk H1 locs1 ⟨h1, hv2.elim (fun q => q ▸ gF_up hP.2 4 (u1_rng (hP.2.2 4) hx)) id⟩ h3)
theorem mdN_rest (C : gC D k p s m args c cc own) (hP : gWd D (mdW k ad) v f g H) (hdg : decode cc pc = .ok (.arraylength, 1)) (kk : W p l e R s m args below meth c H locs cells slots Q (F0 m (pc + 1) ls (.int (iI 4) :: rest))) : W p l e R s m args below meth c H locs cells slots Q (F0 m pc ls (.ref (ad 5) :: rest)) := va_alen (D := D) C.1 C.2.1 C.2.2.2.2 hP.1 5 0 rfl rfl (v := iI 4) rfl hdg kk
theorem mdL_newRoutes (C : gC D k p s m args c cc own) (hP : gWd D (mdW k ad) v f g H) {i : Int} (h0 : 0 ≤ i) (h1 : i < 5) (hdg : decode cc pc = .ok (.iaload, 1)) (kk : W p l e R s m args below meth c H locs cells slots Q (F0 m (pc + 1) ls (.int (iI (f 5 i)) :: rest))) : W p l e R s m args below meth c H locs cells slots Q (F0 m pc ls (.int (iI i) :: .ref (ad 6) :: rest)) := g_iald C hP.1 6 rfl (by decide) h0 h1 hdg kk
theorem mdS_newRoutes (C : gC D k p s m args c cc own) (hP : gWd D (mdW k ad) v f g H) (hD : mdD A k ad) (hS : va_S A H0 H locs) {i x : Int} {f1 : gF} (h0 : 0 ≤ i) (h1 : i < 5) (hx : inR x) (hv : (mdW k ad) v (va_up f 5 (u1 (f 5) i x)) g = (mdW k ad) v f1 g) (hv2 : va_up f 5 (u1 (f 5) i x) = f1 ∨ gOk v f1) (hdg : decode cc pc = .ok (.iastore, 1)) (kk : ∀ (H1 : Heap) (locs1 : List Loc), gWd D (mdW k ad) v f1 g H1 → va_S A H0 H1 locs1 → W p l e R s m args below meth c H1 locs1 cells slots Q (F0 m (pc + 1) ls rest)) : W p l e R s m args below meth c H locs cells slots Q (F0 m pc ls (.int (iI x) :: .int (iI i) :: .ref (ad 6) :: rest)) := g_iast C hP.1 (hD v f g) hS 6 rfl (by decide) h0 h1 (ws' := (mdW k ad) v f1 g) (by rw [← hv]; rfl) hdg (fun H1 locs1 h1 h3 => kk H1 locs1 ⟨h1, hv2.elim (fun q => q ▸ gF_up hP.2 5 (u1_rng (hP.2.2 5) hx)) id⟩ h3)
theorem mdN_newRoutes (C : gC D k p s m args c cc own) (hP : gWd D (mdW k ad) v f g H) (hdg : decode cc pc = .ok (.arraylength, 1)) (kk : W p l e R s m args below meth c H locs cells slots Q (F0 m (pc + 1) ls (.int (iI 5) :: rest))) : W p l e R s m args below meth c H locs cells slots Q (F0 m pc ls (.ref (ad 6) :: rest)) := va_alen (D := D) C.1 C.2.1 C.2.2.2.2 hP.1 6 0 rfl rfl (v := iI 5) rfl hdg kk
theorem mdL_newTries (C : gC D k p s m args c cc own) (hP : gWd D (mdW k ad) v f g H) {i : Int} (h0 : 0 ≤ i) (h1 : i < 5) (hdg : decode cc pc = .ok (.iaload, 1)) (kk : W p l e R s m args below meth c H locs cells slots Q (F0 m (pc + 1) ls (.int (iI (f 6 i)) :: rest))) : W p l e R s m args below meth c H locs cells slots Q (F0 m pc ls (.int (iI i) :: .ref (ad 7) :: rest)) := g_iald C hP.1 7 rfl (by decide) h0 h1 hdg kk
theorem mdS_newTries (C : gC D k p s m args c cc own) (hP : gWd D (mdW k ad) v f g H) (hD : mdD A k ad) (hS : va_S A H0 H locs) {i x : Int} {f1 : gF} (h0 : 0 ≤ i) (h1 : i < 5) (hx : inR x) (hv : (mdW k ad) v (va_up f 6 (u1 (f 6) i x)) g = (mdW k ad) v f1 g) (hv2 : va_up f 6 (u1 (f 6) i x) = f1 ∨ gOk v f1) (hdg : decode cc pc = .ok (.iastore, 1)) (kk : ∀ (H1 : Heap) (locs1 : List Loc), gWd D (mdW k ad) v f1 g H1 → va_S A H0 H1 locs1 → W p l e R s m args below meth c H1 locs1 cells slots Q (F0 m (pc + 1) ls rest)) : W p l e R s m args below meth c H locs cells slots Q (F0 m pc ls (.int (iI x) :: .int (iI i) :: .ref (ad 7) :: rest)) := g_iast C hP.1 (hD v f g) hS 7 rfl (by decide) h0 h1 (ws' := (mdW k ad) v f1 g) (by rw [← hv]; rfl) hdg (fun H1 locs1 h1 h3 => kk H1 locs1 ⟨h1, hv2.elim (fun q => q ▸ gF_up hP.2 6 (u1_rng (hP.2.2 6) hx)) id⟩ h3)
theorem mdN_newTries (C : gC D k p s m args c cc own) (hP : gWd D (mdW k ad) v f g H) (hdg : decode cc pc = .ok (.arraylength, 1)) (kk : W p l e R s m args below meth c H locs cells slots Q (F0 m (pc + 1) ls (.int (iI 5) :: rest))) : W p l e R s m args below meth c H locs cells slots Q (F0 m pc ls (.ref (ad 7) :: rest)) := va_alen (D := D) C.1 C.2.1 C.2.2.2.2 hP.1 7 0 rfl rfl (v := iI 5) rfl hdg kk
theorem mdL_newSeconds (C : gC D k p s m args c cc own) (hP : gWd D (mdW k ad) v f g H) {i : Int} (h0 : 0 ≤ i) (h1 : i < 5) (hdg : decode cc pc = .ok (.iaload, 1)) (kk : W p l e R s m args below meth c H locs cells slots Q (F0 m (pc + 1) ls (.int (iI (f 7 i)) :: rest))) : W p l e R s m args below meth c H locs cells slots Q (F0 m pc ls (.int (iI i) :: .ref (ad 8) :: rest)) := g_iald C hP.1 8 rfl (by decide) h0 h1 hdg kk
theorem mdS_newSeconds (C : gC D k p s m args c cc own) (hP : gWd D (mdW k ad) v f g H) (hD : mdD A k ad) (hS : va_S A H0 H locs) {i x : Int} {f1 : gF} (h0 : 0 ≤ i) (h1 : i < 5) (hx : inR x) (hv : (mdW k ad) v (va_up f 7 (u1 (f 7) i x)) g = (mdW k ad) v f1 g) (hv2 : va_up f 7 (u1 (f 7) i x) = f1 ∨ gOk v f1) (hdg : decode cc pc = .ok (.iastore, 1)) (kk : ∀ (H1 : Heap) (locs1 : List Loc), gWd D (mdW k ad) v f1 g H1 → va_S A H0 H1 locs1 → W p l e R s m args below meth c H1 locs1 cells slots Q (F0 m (pc + 1) ls rest)) : W p l e R s m args below meth c H locs cells slots Q (F0 m pc ls (.int (iI x) :: .int (iI i) :: .ref (ad 8) :: rest)) := g_iast C hP.1 (hD v f g) hS 8 rfl (by decide) h0 h1 (ws' := (mdW k ad) v f1 g) (by rw [← hv]; rfl) hdg (fun H1 locs1 h1 h3 => kk H1 locs1 ⟨h1, hv2.elim (fun q => q ▸ gF_up hP.2 7 (u1_rng (hP.2.2 7) hx)) id⟩ h3)
theorem mdN_newSeconds (C : gC D k p s m args c cc own) (hP : gWd D (mdW k ad) v f g H) (hdg : decode cc pc = .ok (.arraylength, 1)) (kk : W p l e R s m args below meth c H locs cells slots Q (F0 m (pc + 1) ls (.int (iI 5) :: rest))) : W p l e R s m args below meth c H locs cells slots Q (F0 m pc ls (.ref (ad 8) :: rest)) := va_alen (D := D) C.1 C.2.1 C.2.2.2.2 hP.1 8 0 rfl rfl (v := iI 5) rfl hdg kk
theorem mdL_newRest (C : gC D k p s m args c cc own) (hP : gWd D (mdW k ad) v f g H) {i : Int} (h0 : 0 ≤ i) (h1 : i < 5) (hdg : decode cc pc = .ok (.iaload, 1)) (kk : W p l e R s m args below meth c H locs cells slots Q (F0 m (pc + 1) ls (.int (iI (f 8 i)) :: rest))) : W p l e R s m args below meth c H locs cells slots Q (F0 m pc ls (.int (iI i) :: .ref (ad 9) :: rest)) := g_iald C hP.1 9 rfl (by decide) h0 h1 hdg kk
theorem mdS_newRest (C : gC D k p s m args c cc own) (hP : gWd D (mdW k ad) v f g H) (hD : mdD A k ad) (hS : va_S A H0 H locs) {i x : Int} {f1 : gF} (h0 : 0 ≤ i) (h1 : i < 5) (hx : inR x) (hv : (mdW k ad) v (va_up f 8 (u1 (f 8) i x)) g = (mdW k ad) v f1 g) (hv2 : va_up f 8 (u1 (f 8) i x) = f1 ∨ gOk v f1) (hdg : decode cc pc = .ok (.iastore, 1)) (kk : ∀ (H1 : Heap) (locs1 : List Loc), gWd D (mdW k ad) v f1 g H1 → va_S A H0 H1 locs1 → W p l e R s m args below meth c H1 locs1 cells slots Q (F0 m (pc + 1) ls rest)) : W p l e R s m args below meth c H locs cells slots Q (F0 m pc ls (.int (iI x) :: .int (iI i) :: .ref (ad 9) :: rest)) := g_iast C hP.1 (hD v f g) hS 9 rfl (by decide) h0 h1 (ws' := (mdW k ad) v f1 g) (by rw [← hv]; rfl) hdg (fun H1 locs1 h1 h3 => kk H1 locs1 ⟨h1, hv2.elim (fun q => q ▸ gF_up hP.2 8 (u1_rng (hP.2.2 8) hx)) id⟩ h3)
theorem mdN_newRest (C : gC D k p s m args c cc own) (hP : gWd D (mdW k ad) v f g H) (hdg : decode cc pc = .ok (.arraylength, 1)) (kk : W p l e R s m args below meth c H locs cells slots Q (F0 m (pc + 1) ls (.int (iI 5) :: rest))) : W p l e R s m args below meth c H locs cells slots Q (F0 m pc ls (.ref (ad 9) :: rest)) := va_alen (D := D) C.1 C.2.1 C.2.2.2.2 hP.1 9 0 rfl rfl (v := iI 5) rfl hdg kk
theorem mdL_part (C : gC D k p s m args c cc own) (hP : gWd D (mdW k ad) v f g H) {i : Int} (h0 : 0 ≤ i) (h1 : i < 40) (hdg : decode cc pc = .ok (.iaload, 1)) (kk : W p l e R s m args below meth c H locs cells slots Q (F0 m (pc + 1) ls (.int (iI (f 9 i)) :: rest))) : W p l e R s m args below meth c H locs cells slots Q (F0 m pc ls (.int (iI i) :: .ref (ad 10) :: rest)) := g_iald C hP.1 10 rfl (by decide) h0 h1 hdg kk
theorem mdS_part (C : gC D k p s m args c cc own) (hP : gWd D (mdW k ad) v f g H) (hD : mdD A k ad) (hS : va_S A H0 H locs) {i x : Int} {f1 : gF} (h0 : 0 ≤ i) (h1 : i < 40) (hx : inR x) (hv : (mdW k ad) v (va_up f 9 (u1 (f 9) i x)) g = (mdW k ad) v f1 g) (hv2 : va_up f 9 (u1 (f 9) i x) = f1 ∨ gOk v f1) (hdg : decode cc pc = .ok (.iastore, 1)) (kk : ∀ (H1 : Heap) (locs1 : List Loc), gWd D (mdW k ad) v f1 g H1 → va_S A H0 H1 locs1 → W p l e R s m args below meth c H1 locs1 cells slots Q (F0 m (pc + 1) ls rest)) : W p l e R s m args below meth c H locs cells slots Q (F0 m pc ls (.int (iI x) :: .int (iI i) :: .ref (ad 10) :: rest)) := g_iast C hP.1 (hD v f g) hS 10 rfl (by decide) h0 h1 (ws' := (mdW k ad) v f1 g) (by rw [← hv]; rfl) hdg (fun H1 locs1 h1 h3 => kk H1 locs1 ⟨h1, hv2.elim (fun q => q ▸ gF_up hP.2 9 (u1_rng (hP.2.2 9) hx)) id⟩ h3)
theorem mdN_part (C : gC D k p s m args c cc own) (hP : gWd D (mdW k ad) v f g H) (hdg : decode cc pc = .ok (.arraylength, 1)) (kk : W p l e R s m args below meth c H locs cells slots Q (F0 m (pc + 1) ls (.int (iI 40) :: rest))) : W p l e R s m args below meth c H locs cells slots Q (F0 m pc ls (.ref (ad 10) :: rest)) := va_alen (D := D) C.1 C.2.1 C.2.2.2.2 hP.1 10 0 rfl rfl (v := iI 40) rfl hdg kk
theorem mdL_partNumber (C : gC D k p s m args c cc own) (hP : gWd D (mdW k ad) v f g H) {i : Int} (h0 : 0 ≤ i) (h1 : i < 40) (hdg : decode cc pc = .ok (.iaload, 1)) (kk : W p l e R s m args below meth c H locs cells slots Q (F0 m (pc + 1) ls (.int (iI (f 10 i)) :: rest))) : W p l e R s m args below meth c H locs cells slots Q (F0 m pc ls (.int (iI i) :: .ref (ad 11) :: rest)) := g_iald C hP.1 11 rfl (by decide) h0 h1 hdg kk
theorem mdS_partNumber (C : gC D k p s m args c cc own) (hP : gWd D (mdW k ad) v f g H) (hD : mdD A k ad) (hS : va_S A H0 H locs) {i x : Int} {f1 : gF} (h0 : 0 ≤ i) (h1 : i < 40) (hx : inR x) (hv : (mdW k ad) v (va_up f 10 (u1 (f 10) i x)) g = (mdW k ad) v f1 g) (hv2 : va_up f 10 (u1 (f 10) i x) = f1 ∨ gOk v f1) (hdg : decode cc pc = .ok (.iastore, 1)) (kk : ∀ (H1 : Heap) (locs1 : List Loc), gWd D (mdW k ad) v f1 g H1 → va_S A H0 H1 locs1 → W p l e R s m args below meth c H1 locs1 cells slots Q (F0 m (pc + 1) ls rest)) : W p l e R s m args below meth c H locs cells slots Q (F0 m pc ls (.int (iI x) :: .int (iI i) :: .ref (ad 11) :: rest)) := g_iast C hP.1 (hD v f g) hS 11 rfl (by decide) h0 h1 (ws' := (mdW k ad) v f1 g) (by rw [← hv]; rfl) hdg (fun H1 locs1 h1 h3 => kk H1 locs1 ⟨h1, hv2.elim (fun q => q ▸ gF_up hP.2 10 (u1_rng (hP.2.2 10) hx)) id⟩ h3)
theorem mdN_partNumber (C : gC D k p s m args c cc own) (hP : gWd D (mdW k ad) v f g H) (hdg : decode cc pc = .ok (.arraylength, 1)) (kk : W p l e R s m args below meth c H locs cells slots Q (F0 m (pc + 1) ls (.int (iI 40) :: rest))) : W p l e R s m args below meth c H locs cells slots Q (F0 m pc ls (.ref (ad 11) :: rest)) := va_alen (D := D) C.1 C.2.1 C.2.2.2.2 hP.1 11 0 rfl rfl (v := iI 40) rfl hdg kk
theorem mdL_newPart (C : gC D k p s m args c cc own) (hP : gWd D (mdW k ad) v f g H) {i : Int} (h0 : 0 ≤ i) (h1 : i < 41) (hdg : decode cc pc = .ok (.iaload, 1)) (kk : W p l e R s m args below meth c H locs cells slots Q (F0 m (pc + 1) ls (.int (iI (f 11 i)) :: rest))) : W p l e R s m args below meth c H locs cells slots Q (F0 m pc ls (.int (iI i) :: .ref (ad 12) :: rest)) := g_iald C hP.1 12 rfl (by decide) h0 h1 hdg kk
theorem mdS_newPart (C : gC D k p s m args c cc own) (hP : gWd D (mdW k ad) v f g H) (hD : mdD A k ad) (hS : va_S A H0 H locs) {i x : Int} {f1 : gF} (h0 : 0 ≤ i) (h1 : i < 41) (hx : inR x) (hv : (mdW k ad) v (va_up f 11 (u1 (f 11) i x)) g = (mdW k ad) v f1 g) (hv2 : va_up f 11 (u1 (f 11) i x) = f1 ∨ gOk v f1) (hdg : decode cc pc = .ok (.iastore, 1)) (kk : ∀ (H1 : Heap) (locs1 : List Loc), gWd D (mdW k ad) v f1 g H1 → va_S A H0 H1 locs1 → W p l e R s m args below meth c H1 locs1 cells slots Q (F0 m (pc + 1) ls rest)) : W p l e R s m args below meth c H locs cells slots Q (F0 m pc ls (.int (iI x) :: .int (iI i) :: .ref (ad 12) :: rest)) := g_iast C hP.1 (hD v f g) hS 12 rfl (by decide) h0 h1 (ws' := (mdW k ad) v f1 g) (by rw [← hv]; rfl) hdg (fun H1 locs1 h1 h3 => kk H1 locs1 ⟨h1, hv2.elim (fun q => q ▸ gF_up hP.2 11 (u1_rng (hP.2.2 11) hx)) id⟩ h3)
theorem mdN_newPart (C : gC D k p s m args c cc own) (hP : gWd D (mdW k ad) v f g H) (hdg : decode cc pc = .ok (.arraylength, 1)) (kk : W p l e R s m args below meth c H locs cells slots Q (F0 m (pc + 1) ls (.int (iI 41) :: rest))) : W p l e R s m args below meth c H locs cells slots Q (F0 m pc ls (.ref (ad 12) :: rest)) := va_alen (D := D) C.1 C.2.1 C.2.2.2.2 hP.1 12 0 rfl rfl (v := iI 41) rfl hdg kk
theorem mdL_newNumber (C : gC D k p s m args c cc own) (hP : gWd D (mdW k ad) v f g H) {i : Int} (h0 : 0 ≤ i) (h1 : i < 41) (hdg : decode cc pc = .ok (.iaload, 1)) (kk : W p l e R s m args below meth c H locs cells slots Q (F0 m (pc + 1) ls (.int (iI (f 12 i)) :: rest))) : W p l e R s m args below meth c H locs cells slots Q (F0 m pc ls (.int (iI i) :: .ref (ad 13) :: rest)) := g_iald C hP.1 13 rfl (by decide) h0 h1 hdg kk
theorem mdS_newNumber (C : gC D k p s m args c cc own) (hP : gWd D (mdW k ad) v f g H) (hD : mdD A k ad) (hS : va_S A H0 H locs) {i x : Int} {f1 : gF} (h0 : 0 ≤ i) (h1 : i < 41) (hx : inR x) (hv : (mdW k ad) v (va_up f 12 (u1 (f 12) i x)) g = (mdW k ad) v f1 g) (hv2 : va_up f 12 (u1 (f 12) i x) = f1 ∨ gOk v f1) (hdg : decode cc pc = .ok (.iastore, 1)) (kk : ∀ (H1 : Heap) (locs1 : List Loc), gWd D (mdW k ad) v f1 g H1 → va_S A H0 H1 locs1 → W p l e R s m args below meth c H1 locs1 cells slots Q (F0 m (pc + 1) ls rest)) : W p l e R s m args below meth c H locs cells slots Q (F0 m pc ls (.int (iI x) :: .int (iI i) :: .ref (ad 13) :: rest)) := g_iast C hP.1 (hD v f g) hS 13 rfl (by decide) h0 h1 (ws' := (mdW k ad) v f1 g) (by rw [← hv]; rfl) hdg (fun H1 locs1 h1 h3 => kk H1 locs1 ⟨h1, hv2.elim (fun q => q ▸ gF_up hP.2 12 (u1_rng (hP.2.2 12) hx)) id⟩ h3)
theorem mdN_newNumber (C : gC D k p s m args c cc own) (hP : gWd D (mdW k ad) v f g H) (hdg : decode cc pc = .ok (.arraylength, 1)) (kk : W p l e R s m args below meth c H locs cells slots Q (F0 m (pc + 1) ls (.int (iI 41) :: rest))) : W p l e R s m args below meth c H locs cells slots Q (F0 m pc ls (.ref (ad 13) :: rest)) := va_alen (D := D) C.1 C.2.1 C.2.2.2.2 hP.1 13 0 rfl rfl (v := iI 41) rfl hdg kk
theorem mdL_key (C : gC D k p s m args c cc own) (hP : gWd D (mdW k ad) v f g H) {i : Int} (h0 : 0 ≤ i) (h1 : i < 4) (hdg : decode cc pc = .ok (.iaload, 1)) (kk : W p l e R s m args below meth c H locs cells slots Q (F0 m (pc + 1) ls (.int (iI (f 13 i)) :: rest))) : W p l e R s m args below meth c H locs cells slots Q (F0 m pc ls (.int (iI i) :: .ref (ad 14) :: rest)) := g_iald C hP.1 14 rfl (by decide) h0 h1 hdg kk
theorem mdS_key (C : gC D k p s m args c cc own) (hP : gWd D (mdW k ad) v f g H) (hD : mdD A k ad) (hS : va_S A H0 H locs) {i x : Int} {f1 : gF} (h0 : 0 ≤ i) (h1 : i < 4) (hx : inR x) (hv : (mdW k ad) v (va_up f 13 (u1 (f 13) i x)) g = (mdW k ad) v f1 g) (hv2 : va_up f 13 (u1 (f 13) i x) = f1 ∨ gOk v f1) (hdg : decode cc pc = .ok (.iastore, 1)) (kk : ∀ (H1 : Heap) (locs1 : List Loc), gWd D (mdW k ad) v f1 g H1 → va_S A H0 H1 locs1 → W p l e R s m args below meth c H1 locs1 cells slots Q (F0 m (pc + 1) ls rest)) : W p l e R s m args below meth c H locs cells slots Q (F0 m pc ls (.int (iI x) :: .int (iI i) :: .ref (ad 14) :: rest)) := g_iast C hP.1 (hD v f g) hS 14 rfl (by decide) h0 h1 (ws' := (mdW k ad) v f1 g) (by rw [← hv]; rfl) hdg (fun H1 locs1 h1 h3 => kk H1 locs1 ⟨h1, hv2.elim (fun q => q ▸ gF_up hP.2 13 (u1_rng (hP.2.2 13) hx)) id⟩ h3)
theorem mdN_key (C : gC D k p s m args c cc own) (hP : gWd D (mdW k ad) v f g H) (hdg : decode cc pc = .ok (.arraylength, 1)) (kk : W p l e R s m args below meth c H locs cells slots Q (F0 m (pc + 1) ls (.int (iI 4) :: rest))) : W p l e R s m args below meth c H locs cells slots Q (F0 m pc ls (.ref (ad 14) :: rest)) := va_alen (D := D) C.1 C.2.1 C.2.2.2.2 hP.1 14 0 rfl rfl (v := iI 4) rfl hdg kk
theorem mdL_newKey (C : gC D k p s m args c cc own) (hP : gWd D (mdW k ad) v f g H) {i : Int} (h0 : 0 ≤ i) (h1 : i < 5) (hdg : decode cc pc = .ok (.iaload, 1)) (kk : W p l e R s m args below meth c H locs cells slots Q (F0 m (pc + 1) ls (.int (iI (f 14 i)) :: rest))) : W p l e R s m args below meth c H locs cells slots Q (F0 m pc ls (.int (iI i) :: .ref (ad 15) :: rest)) := g_iald C hP.1 15 rfl (by decide) h0 h1 hdg kk
theorem mdS_newKey (C : gC D k p s m args c cc own) (hP : gWd D (mdW k ad) v f g H) (hD : mdD A k ad) (hS : va_S A H0 H locs) {i x : Int} {f1 : gF} (h0 : 0 ≤ i) (h1 : i < 5) (hx : inR x) (hv : (mdW k ad) v (va_up f 14 (u1 (f 14) i x)) g = (mdW k ad) v f1 g) (hv2 : va_up f 14 (u1 (f 14) i x) = f1 ∨ gOk v f1) (hdg : decode cc pc = .ok (.iastore, 1)) (kk : ∀ (H1 : Heap) (locs1 : List Loc), gWd D (mdW k ad) v f1 g H1 → va_S A H0 H1 locs1 → W p l e R s m args below meth c H1 locs1 cells slots Q (F0 m (pc + 1) ls rest)) : W p l e R s m args below meth c H locs cells slots Q (F0 m pc ls (.int (iI x) :: .int (iI i) :: .ref (ad 15) :: rest)) := g_iast C hP.1 (hD v f g) hS 15 rfl (by decide) h0 h1 (ws' := (mdW k ad) v f1 g) (by rw [← hv]; rfl) hdg (fun H1 locs1 h1 h3 => kk H1 locs1 ⟨h1, hv2.elim (fun q => q ▸ gF_up hP.2 14 (u1_rng (hP.2.2 14) hx)) id⟩ h3)
theorem mdN_newKey (C : gC D k p s m args c cc own) (hP : gWd D (mdW k ad) v f g H) (hdg : decode cc pc = .ok (.arraylength, 1)) (kk : W p l e R s m args below meth c H locs cells slots Q (F0 m (pc + 1) ls (.int (iI 5) :: rest))) : W p l e R s m args below meth c H locs cells slots Q (F0 m pc ls (.ref (ad 15) :: rest)) := va_alen (D := D) C.1 C.2.1 C.2.2.2.2 hP.1 15 0 rfl rfl (v := iI 5) rfl hdg kk
theorem mdL_isUp (C : gC D k p s m args c cc own) (hP : gWd D (mdW k ad) v f g H) {i : Int} (h0 : 0 ≤ i) (h1 : i < 4) (hdg : decode cc pc = .ok (.baload, 1)) (kk : W p l e R s m args below meth c H locs cells slots Q (F0 m (pc + 1) ls (.int (iI (f 15 i)) :: rest))) : W p l e R s m args below meth c H locs cells slots Q (F0 m pc ls (.int (iI i) :: .ref (ad 16) :: rest)) := g_zald C hP.1 16 rfl (by decide) h0 h1 hdg kk
theorem mdS_isUp (C : gC D k p s m args c cc own) (hP : gWd D (mdW k ad) v f g H) (hD : mdD A k ad) (hS : va_S A H0 H locs) {i x : Int} {f1 : gF} (h0 : 0 ≤ i) (h1 : i < 4) (hx : inR x) (hy : x = 0 ∨ x = 1) (hv : (mdW k ad) v (va_up f 15 (u1 (f 15) i x)) g = (mdW k ad) v f1 g) (hv2 : va_up f 15 (u1 (f 15) i x) = f1 ∨ gOk v f1) (hdg : decode cc pc = .ok (.bastore, 1)) (kk : ∀ (H1 : Heap) (locs1 : List Loc), gWd D (mdW k ad) v f1 g H1 → va_S A H0 H1 locs1 → W p l e R s m args below meth c H1 locs1 cells slots Q (F0 m (pc + 1) ls rest)) : W p l e R s m args below meth c H locs cells slots Q (F0 m pc ls (.int (iI x) :: .int (iI i) :: .ref (ad 16) :: rest)) := g_zast C hP.1 (hD v f g) hS 16 rfl (by decide) h0 h1 hy (ws' := (mdW k ad) v f1 g) (by rw [← hv]; rfl) hdg (fun H1 locs1 h1 h3 => kk H1 locs1 ⟨h1, hv2.elim (fun q => q ▸ gF_up hP.2 15 (u1_rng (hP.2.2 15) hx)) id⟩ h3)
theorem mdN_isUp (C : gC D k p s m args c cc own) (hP : gWd D (mdW k ad) v f g H) (hdg : decode cc pc = .ok (.arraylength, 1)) (kk : W p l e R s m args below meth c H locs cells slots Q (F0 m (pc + 1) ls (.int (iI 4) :: rest))) : W p l e R s m args below meth c H locs cells slots Q (F0 m pc ls (.ref (ad 16) :: rest)) := va_alen (D := D) C.1 C.2.1 C.2.2.2.2 hP.1 16 3 rfl rfl (v := iI 4) rfl hdg kk
theorem mdL_newUp (C : gC D k p s m args c cc own) (hP : gWd D (mdW k ad) v f g H) {i : Int} (h0 : 0 ≤ i) (h1 : i < 5) (hdg : decode cc pc = .ok (.baload, 1)) (kk : W p l e R s m args below meth c H locs cells slots Q (F0 m (pc + 1) ls (.int (iI (f 16 i)) :: rest))) : W p l e R s m args below meth c H locs cells slots Q (F0 m pc ls (.int (iI i) :: .ref (ad 17) :: rest)) := g_zald C hP.1 17 rfl (by decide) h0 h1 hdg kk
theorem mdS_newUp (C : gC D k p s m args c cc own) (hP : gWd D (mdW k ad) v f g H) (hD : mdD A k ad) (hS : va_S A H0 H locs) {i x : Int} {f1 : gF} (h0 : 0 ≤ i) (h1 : i < 5) (hx : inR x) (hy : x = 0 ∨ x = 1) (hv : (mdW k ad) v (va_up f 16 (u1 (f 16) i x)) g = (mdW k ad) v f1 g) (hv2 : va_up f 16 (u1 (f 16) i x) = f1 ∨ gOk v f1) (hdg : decode cc pc = .ok (.bastore, 1)) (kk : ∀ (H1 : Heap) (locs1 : List Loc), gWd D (mdW k ad) v f1 g H1 → va_S A H0 H1 locs1 → W p l e R s m args below meth c H1 locs1 cells slots Q (F0 m (pc + 1) ls rest)) : W p l e R s m args below meth c H locs cells slots Q (F0 m pc ls (.int (iI x) :: .int (iI i) :: .ref (ad 17) :: rest)) := g_zast C hP.1 (hD v f g) hS 17 rfl (by decide) h0 h1 hy (ws' := (mdW k ad) v f1 g) (by rw [← hv]; rfl) hdg (fun H1 locs1 h1 h3 => kk H1 locs1 ⟨h1, hv2.elim (fun q => q ▸ gF_up hP.2 16 (u1_rng (hP.2.2 16) hx)) id⟩ h3)
theorem mdN_newUp (C : gC D k p s m args c cc own) (hP : gWd D (mdW k ad) v f g H) (hdg : decode cc pc = .ok (.arraylength, 1)) (kk : W p l e R s m args below meth c H locs cells slots Q (F0 m (pc + 1) ls (.int (iI 5) :: rest))) : W p l e R s m args below meth c H locs cells slots Q (F0 m pc ls (.ref (ad 17) :: rest)) := va_alen (D := D) C.1 C.2.1 C.2.2.2.2 hP.1 17 3 rfl rfl (v := iI 5) rfl hdg kk
theorem mdL_waits (C : gC D k p s m args c cc own) (hP : gWd D (mdW k ad) v f g H) {i : Int} (h0 : 0 ≤ i) (h1 : i < 64) (hdg : decode cc pc = .ok (.iaload, 1)) (kk : W p l e R s m args below meth c H locs cells slots Q (F0 m (pc + 1) ls (.int (iI (f 17 i)) :: rest))) : W p l e R s m args below meth c H locs cells slots Q (F0 m pc ls (.int (iI i) :: .ref (ad 18) :: rest)) := g_iald C hP.1 18 rfl (by decide) h0 h1 hdg kk
theorem mdS_waits (C : gC D k p s m args c cc own) (hP : gWd D (mdW k ad) v f g H) (hD : mdD A k ad) (hS : va_S A H0 H locs) {i x : Int} {f1 : gF} (h0 : 0 ≤ i) (h1 : i < 64) (hx : inR x) (hv : (mdW k ad) v (va_up f 17 (u1 (f 17) i x)) g = (mdW k ad) v f1 g) (hv2 : va_up f 17 (u1 (f 17) i x) = f1 ∨ gOk v f1) (hdg : decode cc pc = .ok (.iastore, 1)) (kk : ∀ (H1 : Heap) (locs1 : List Loc), gWd D (mdW k ad) v f1 g H1 → va_S A H0 H1 locs1 → W p l e R s m args below meth c H1 locs1 cells slots Q (F0 m (pc + 1) ls rest)) : W p l e R s m args below meth c H locs cells slots Q (F0 m pc ls (.int (iI x) :: .int (iI i) :: .ref (ad 18) :: rest)) := g_iast C hP.1 (hD v f g) hS 18 rfl (by decide) h0 h1 (ws' := (mdW k ad) v f1 g) (by rw [← hv]; rfl) hdg (fun H1 locs1 h1 h3 => kk H1 locs1 ⟨h1, hv2.elim (fun q => q ▸ gF_up hP.2 17 (u1_rng (hP.2.2 17) hx)) id⟩ h3)
theorem mdN_waits (C : gC D k p s m args c cc own) (hP : gWd D (mdW k ad) v f g H) (hdg : decode cc pc = .ok (.arraylength, 1)) (kk : W p l e R s m args below meth c H locs cells slots Q (F0 m (pc + 1) ls (.int (iI 64) :: rest))) : W p l e R s m args below meth c H locs cells slots Q (F0 m pc ls (.ref (ad 18) :: rest)) := va_alen (D := D) C.1 C.2.1 C.2.2.2.2 hP.1 18 0 rfl rfl (v := iI 64) rfl hdg kk
theorem mdL_holds (C : gC D k p s m args c cc own) (hP : gWd D (mdW k ad) v f g H) {i : Int} (h0 : 0 ≤ i) (h1 : i < 20) (hdg : decode cc pc = .ok (.iaload, 1)) (kk : W p l e R s m args below meth c H locs cells slots Q (F0 m (pc + 1) ls (.int (iI (f 18 i)) :: rest))) : W p l e R s m args below meth c H locs cells slots Q (F0 m pc ls (.int (iI i) :: .ref (ad 19) :: rest)) := g_iald C hP.1 19 rfl (by decide) h0 h1 hdg kk
theorem mdS_holds (C : gC D k p s m args c cc own) (hP : gWd D (mdW k ad) v f g H) (hD : mdD A k ad) (hS : va_S A H0 H locs) {i x : Int} {f1 : gF} (h0 : 0 ≤ i) (h1 : i < 20) (hx : inR x) (hv : (mdW k ad) v (va_up f 18 (u1 (f 18) i x)) g = (mdW k ad) v f1 g) (hv2 : va_up f 18 (u1 (f 18) i x) = f1 ∨ gOk v f1) (hdg : decode cc pc = .ok (.iastore, 1)) (kk : ∀ (H1 : Heap) (locs1 : List Loc), gWd D (mdW k ad) v f1 g H1 → va_S A H0 H1 locs1 → W p l e R s m args below meth c H1 locs1 cells slots Q (F0 m (pc + 1) ls rest)) : W p l e R s m args below meth c H locs cells slots Q (F0 m pc ls (.int (iI x) :: .int (iI i) :: .ref (ad 19) :: rest)) := g_iast C hP.1 (hD v f g) hS 19 rfl (by decide) h0 h1 (ws' := (mdW k ad) v f1 g) (by rw [← hv]; rfl) hdg (fun H1 locs1 h1 h3 => kk H1 locs1 ⟨h1, hv2.elim (fun q => q ▸ gF_up hP.2 18 (u1_rng (hP.2.2 18) hx)) id⟩ h3)
theorem mdN_holds (C : gC D k p s m args c cc own) (hP : gWd D (mdW k ad) v f g H) (hdg : decode cc pc = .ok (.arraylength, 1)) (kk : W p l e R s m args below meth c H locs cells slots Q (F0 m (pc + 1) ls (.int (iI 20) :: rest))) : W p l e R s m args below meth c H locs cells slots Q (F0 m pc ls (.ref (ad 19) :: rest)) := va_alen (D := D) C.1 C.2.1 C.2.2.2.2 hP.1 19 0 rfl rfl (v := iI 20) rfl hdg kk
theorem mdL_zones (C : gC D k p s m args c cc own) (hP : gWd D (mdW k ad) v f g H) {i : Int} (h0 : 0 ≤ i) (h1 : i < 60) (hdg : decode cc pc = .ok (.iaload, 1)) (kk : W p l e R s m args below meth c H locs cells slots Q (F0 m (pc + 1) ls (.int (iI (f 19 i)) :: rest))) : W p l e R s m args below meth c H locs cells slots Q (F0 m pc ls (.int (iI i) :: .ref (ad 20) :: rest)) := g_iald C hP.1 20 rfl (by decide) h0 h1 hdg kk
theorem mdS_zones (C : gC D k p s m args c cc own) (hP : gWd D (mdW k ad) v f g H) (hD : mdD A k ad) (hS : va_S A H0 H locs) {i x : Int} {f1 : gF} (h0 : 0 ≤ i) (h1 : i < 60) (hx : inR x) (hv : (mdW k ad) v (va_up f 19 (u1 (f 19) i x)) g = (mdW k ad) v f1 g) (hv2 : va_up f 19 (u1 (f 19) i x) = f1 ∨ gOk v f1) (hdg : decode cc pc = .ok (.iastore, 1)) (kk : ∀ (H1 : Heap) (locs1 : List Loc), gWd D (mdW k ad) v f1 g H1 → va_S A H0 H1 locs1 → W p l e R s m args below meth c H1 locs1 cells slots Q (F0 m (pc + 1) ls rest)) : W p l e R s m args below meth c H locs cells slots Q (F0 m pc ls (.int (iI x) :: .int (iI i) :: .ref (ad 20) :: rest)) := g_iast C hP.1 (hD v f g) hS 20 rfl (by decide) h0 h1 (ws' := (mdW k ad) v f1 g) (by rw [← hv]; rfl) hdg (fun H1 locs1 h1 h3 => kk H1 locs1 ⟨h1, hv2.elim (fun q => q ▸ gF_up hP.2 19 (u1_rng (hP.2.2 19) hx)) id⟩ h3)
theorem mdN_zones (C : gC D k p s m args c cc own) (hP : gWd D (mdW k ad) v f g H) (hdg : decode cc pc = .ok (.arraylength, 1)) (kk : W p l e R s m args below meth c H locs cells slots Q (F0 m (pc + 1) ls (.int (iI 60) :: rest))) : W p l e R s m args below meth c H locs cells slots Q (F0 m pc ls (.ref (ad 20) :: rest)) := va_alen (D := D) C.1 C.2.1 C.2.2.2.2 hP.1 20 0 rfl rfl (v := iI 60) rfl hdg kk
theorem mdL_begun (C : gC D k p s m args c cc own) (hP : gWd D (mdW k ad) v f g H) {i : Int} (h0 : 0 ≤ i) (h1 : i < 20) (hdg : decode cc pc = .ok (.iaload, 1)) (kk : W p l e R s m args below meth c H locs cells slots Q (F0 m (pc + 1) ls (.int (iI (f 20 i)) :: rest))) : W p l e R s m args below meth c H locs cells slots Q (F0 m pc ls (.int (iI i) :: .ref (ad 21) :: rest)) := g_iald C hP.1 21 rfl (by decide) h0 h1 hdg kk
theorem mdS_begun (C : gC D k p s m args c cc own) (hP : gWd D (mdW k ad) v f g H) (hD : mdD A k ad) (hS : va_S A H0 H locs) {i x : Int} {f1 : gF} (h0 : 0 ≤ i) (h1 : i < 20) (hx : inR x) (hv : (mdW k ad) v (va_up f 20 (u1 (f 20) i x)) g = (mdW k ad) v f1 g) (hv2 : va_up f 20 (u1 (f 20) i x) = f1 ∨ gOk v f1) (hdg : decode cc pc = .ok (.iastore, 1)) (kk : ∀ (H1 : Heap) (locs1 : List Loc), gWd D (mdW k ad) v f1 g H1 → va_S A H0 H1 locs1 → W p l e R s m args below meth c H1 locs1 cells slots Q (F0 m (pc + 1) ls rest)) : W p l e R s m args below meth c H locs cells slots Q (F0 m pc ls (.int (iI x) :: .int (iI i) :: .ref (ad 21) :: rest)) := g_iast C hP.1 (hD v f g) hS 21 rfl (by decide) h0 h1 (ws' := (mdW k ad) v f1 g) (by rw [← hv]; rfl) hdg (fun H1 locs1 h1 h3 => kk H1 locs1 ⟨h1, hv2.elim (fun q => q ▸ gF_up hP.2 20 (u1_rng (hP.2.2 20) hx)) id⟩ h3)
theorem mdN_begun (C : gC D k p s m args c cc own) (hP : gWd D (mdW k ad) v f g H) (hdg : decode cc pc = .ok (.arraylength, 1)) (kk : W p l e R s m args below meth c H locs cells slots Q (F0 m (pc + 1) ls (.int (iI 20) :: rest))) : W p l e R s m args below meth c H locs cells slots Q (F0 m pc ls (.ref (ad 21) :: rest)) := va_alen (D := D) C.1 C.2.1 C.2.2.2.2 hP.1 21 0 rfl rfl (v := iI 20) rfl hdg kk
theorem mdL_isIn (C : gC D k p s m args c cc own) (hP : gWd D (mdW k ad) v f g H) {i : Int} (h0 : 0 ≤ i) (h1 : i < 64) (hdg : decode cc pc = .ok (.baload, 1)) (kk : W p l e R s m args below meth c H locs cells slots Q (F0 m (pc + 1) ls (.int (iI (f 21 i)) :: rest))) : W p l e R s m args below meth c H locs cells slots Q (F0 m pc ls (.int (iI i) :: .ref (ad 22) :: rest)) := g_zald C hP.1 22 rfl (by decide) h0 h1 hdg kk
theorem mdS_isIn (C : gC D k p s m args c cc own) (hP : gWd D (mdW k ad) v f g H) (hD : mdD A k ad) (hS : va_S A H0 H locs) {i x : Int} {f1 : gF} (h0 : 0 ≤ i) (h1 : i < 64) (hx : inR x) (hy : x = 0 ∨ x = 1) (hv : (mdW k ad) v (va_up f 21 (u1 (f 21) i x)) g = (mdW k ad) v f1 g) (hv2 : va_up f 21 (u1 (f 21) i x) = f1 ∨ gOk v f1) (hdg : decode cc pc = .ok (.bastore, 1)) (kk : ∀ (H1 : Heap) (locs1 : List Loc), gWd D (mdW k ad) v f1 g H1 → va_S A H0 H1 locs1 → W p l e R s m args below meth c H1 locs1 cells slots Q (F0 m (pc + 1) ls rest)) : W p l e R s m args below meth c H locs cells slots Q (F0 m pc ls (.int (iI x) :: .int (iI i) :: .ref (ad 22) :: rest)) := g_zast C hP.1 (hD v f g) hS 22 rfl (by decide) h0 h1 hy (ws' := (mdW k ad) v f1 g) (by rw [← hv]; rfl) hdg (fun H1 locs1 h1 h3 => kk H1 locs1 ⟨h1, hv2.elim (fun q => q ▸ gF_up hP.2 21 (u1_rng (hP.2.2 21) hx)) id⟩ h3)
theorem mdN_isIn (C : gC D k p s m args c cc own) (hP : gWd D (mdW k ad) v f g H) (hdg : decode cc pc = .ok (.arraylength, 1)) (kk : W p l e R s m args below meth c H locs cells slots Q (F0 m (pc + 1) ls (.int (iI 64) :: rest))) : W p l e R s m args below meth c H locs cells slots Q (F0 m pc ls (.ref (ad 22) :: rest)) := va_alen (D := D) C.1 C.2.1 C.2.2.2.2 hP.1 22 3 rfl rfl (v := iI 64) rfl hdg kk
theorem mdL_order (C : gC D k p s m args c cc own) (hP : gWd D (mdW k ad) v f g H) {i : Int} (h0 : 0 ≤ i) (h1 : i < 64) (hdg : decode cc pc = .ok (.iaload, 1)) (kk : W p l e R s m args below meth c H locs cells slots Q (F0 m (pc + 1) ls (.int (iI (f 22 i)) :: rest))) : W p l e R s m args below meth c H locs cells slots Q (F0 m pc ls (.int (iI i) :: .ref (ad 23) :: rest)) := g_iald C hP.1 23 rfl (by decide) h0 h1 hdg kk
theorem mdS_order (C : gC D k p s m args c cc own) (hP : gWd D (mdW k ad) v f g H) (hD : mdD A k ad) (hS : va_S A H0 H locs) {i x : Int} {f1 : gF} (h0 : 0 ≤ i) (h1 : i < 64) (hx : inR x) (hv : (mdW k ad) v (va_up f 22 (u1 (f 22) i x)) g = (mdW k ad) v f1 g) (hv2 : va_up f 22 (u1 (f 22) i x) = f1 ∨ gOk v f1) (hdg : decode cc pc = .ok (.iastore, 1)) (kk : ∀ (H1 : Heap) (locs1 : List Loc), gWd D (mdW k ad) v f1 g H1 → va_S A H0 H1 locs1 → W p l e R s m args below meth c H1 locs1 cells slots Q (F0 m (pc + 1) ls rest)) : W p l e R s m args below meth c H locs cells slots Q (F0 m pc ls (.int (iI x) :: .int (iI i) :: .ref (ad 23) :: rest)) := g_iast C hP.1 (hD v f g) hS 23 rfl (by decide) h0 h1 (ws' := (mdW k ad) v f1 g) (by rw [← hv]; rfl) hdg (fun H1 locs1 h1 h3 => kk H1 locs1 ⟨h1, hv2.elim (fun q => q ▸ gF_up hP.2 22 (u1_rng (hP.2.2 22) hx)) id⟩ h3)
theorem mdN_order (C : gC D k p s m args c cc own) (hP : gWd D (mdW k ad) v f g H) (hdg : decode cc pc = .ok (.arraylength, 1)) (kk : W p l e R s m args below meth c H locs cells slots Q (F0 m (pc + 1) ls (.int (iI 64) :: rest))) : W p l e R s m args below meth c H locs cells slots Q (F0 m pc ls (.ref (ad 23) :: rest)) := va_alen (D := D) C.1 C.2.1 C.2.2.2.2 hP.1 23 0 rfl rfl (v := iI 64) rfl hdg kk
theorem mdL_orderMany (C : gC D k p s m args c cc own) (hP : gWd D (mdW k ad) v f g H) {i : Int} (h0 : 0 ≤ i) (h1 : i < 4) (hdg : decode cc pc = .ok (.iaload, 1)) (kk : W p l e R s m args below meth c H locs cells slots Q (F0 m (pc + 1) ls (.int (iI (f 23 i)) :: rest))) : W p l e R s m args below meth c H locs cells slots Q (F0 m pc ls (.int (iI i) :: .ref (ad 24) :: rest)) := g_iald C hP.1 24 rfl (by decide) h0 h1 hdg kk
theorem mdS_orderMany (C : gC D k p s m args c cc own) (hP : gWd D (mdW k ad) v f g H) (hD : mdD A k ad) (hS : va_S A H0 H locs) {i x : Int} {f1 : gF} (h0 : 0 ≤ i) (h1 : i < 4) (hx : inR x) (hv : (mdW k ad) v (va_up f 23 (u1 (f 23) i x)) g = (mdW k ad) v f1 g) (hv2 : va_up f 23 (u1 (f 23) i x) = f1 ∨ gOk v f1) (hdg : decode cc pc = .ok (.iastore, 1)) (kk : ∀ (H1 : Heap) (locs1 : List Loc), gWd D (mdW k ad) v f1 g H1 → va_S A H0 H1 locs1 → W p l e R s m args below meth c H1 locs1 cells slots Q (F0 m (pc + 1) ls rest)) : W p l e R s m args below meth c H locs cells slots Q (F0 m pc ls (.int (iI x) :: .int (iI i) :: .ref (ad 24) :: rest)) := g_iast C hP.1 (hD v f g) hS 24 rfl (by decide) h0 h1 (ws' := (mdW k ad) v f1 g) (by rw [← hv]; rfl) hdg (fun H1 locs1 h1 h3 => kk H1 locs1 ⟨h1, hv2.elim (fun q => q ▸ gF_up hP.2 23 (u1_rng (hP.2.2 23) hx)) id⟩ h3)
theorem mdN_orderMany (C : gC D k p s m args c cc own) (hP : gWd D (mdW k ad) v f g H) (hdg : decode cc pc = .ok (.arraylength, 1)) (kk : W p l e R s m args below meth c H locs cells slots Q (F0 m (pc + 1) ls (.int (iI 4) :: rest))) : W p l e R s m args below meth c H locs cells slots Q (F0 m pc ls (.ref (ad 24) :: rest)) := va_alen (D := D) C.1 C.2.1 C.2.2.2.2 hP.1 24 0 rfl rfl (v := iI 4) rfl hdg kk
theorem mdL_who (C : gC D k p s m args c cc own) (hP : gWd D (mdW k ad) v f g H) {i : Int} (h0 : 0 ≤ i) (h1 : i < 300) (hdg : decode cc pc = .ok (.iaload, 1)) (kk : W p l e R s m args below meth c H locs cells slots Q (F0 m (pc + 1) ls (.int (iI (f 24 i)) :: rest))) : W p l e R s m args below meth c H locs cells slots Q (F0 m pc ls (.int (iI i) :: .ref (ad 25) :: rest)) := g_iald C hP.1 25 rfl (by decide) h0 h1 hdg kk
theorem mdS_who (C : gC D k p s m args c cc own) (hP : gWd D (mdW k ad) v f g H) (hD : mdD A k ad) (hS : va_S A H0 H locs) {i x : Int} {f1 : gF} (h0 : 0 ≤ i) (h1 : i < 300) (hx : inR x) (hv : (mdW k ad) v (va_up f 24 (u1 (f 24) i x)) g = (mdW k ad) v f1 g) (hv2 : va_up f 24 (u1 (f 24) i x) = f1 ∨ gOk v f1) (hdg : decode cc pc = .ok (.iastore, 1)) (kk : ∀ (H1 : Heap) (locs1 : List Loc), gWd D (mdW k ad) v f1 g H1 → va_S A H0 H1 locs1 → W p l e R s m args below meth c H1 locs1 cells slots Q (F0 m (pc + 1) ls rest)) : W p l e R s m args below meth c H locs cells slots Q (F0 m pc ls (.int (iI x) :: .int (iI i) :: .ref (ad 25) :: rest)) := g_iast C hP.1 (hD v f g) hS 25 rfl (by decide) h0 h1 (ws' := (mdW k ad) v f1 g) (by rw [← hv]; rfl) hdg (fun H1 locs1 h1 h3 => kk H1 locs1 ⟨h1, hv2.elim (fun q => q ▸ gF_up hP.2 24 (u1_rng (hP.2.2 24) hx)) id⟩ h3)
theorem mdN_who (C : gC D k p s m args c cc own) (hP : gWd D (mdW k ad) v f g H) (hdg : decode cc pc = .ok (.arraylength, 1)) (kk : W p l e R s m args below meth c H locs cells slots Q (F0 m (pc + 1) ls (.int (iI 300) :: rest))) : W p l e R s m args below meth c H locs cells slots Q (F0 m pc ls (.ref (ad 25) :: rest)) := va_alen (D := D) C.1 C.2.1 C.2.2.2.2 hP.1 25 0 rfl rfl (v := iI 300) rfl hdg kk
theorem mdL_where (C : gC D k p s m args c cc own) (hP : gWd D (mdW k ad) v f g H) {i : Int} (h0 : 0 ≤ i) (h1 : i < 300) (hdg : decode cc pc = .ok (.iaload, 1)) (kk : W p l e R s m args below meth c H locs cells slots Q (F0 m (pc + 1) ls (.int (iI (f 25 i)) :: rest))) : W p l e R s m args below meth c H locs cells slots Q (F0 m pc ls (.int (iI i) :: .ref (ad 26) :: rest)) := g_iald C hP.1 26 rfl (by decide) h0 h1 hdg kk
theorem mdS_where (C : gC D k p s m args c cc own) (hP : gWd D (mdW k ad) v f g H) (hD : mdD A k ad) (hS : va_S A H0 H locs) {i x : Int} {f1 : gF} (h0 : 0 ≤ i) (h1 : i < 300) (hx : inR x) (hv : (mdW k ad) v (va_up f 25 (u1 (f 25) i x)) g = (mdW k ad) v f1 g) (hv2 : va_up f 25 (u1 (f 25) i x) = f1 ∨ gOk v f1) (hdg : decode cc pc = .ok (.iastore, 1)) (kk : ∀ (H1 : Heap) (locs1 : List Loc), gWd D (mdW k ad) v f1 g H1 → va_S A H0 H1 locs1 → W p l e R s m args below meth c H1 locs1 cells slots Q (F0 m (pc + 1) ls rest)) : W p l e R s m args below meth c H locs cells slots Q (F0 m pc ls (.int (iI x) :: .int (iI i) :: .ref (ad 26) :: rest)) := g_iast C hP.1 (hD v f g) hS 26 rfl (by decide) h0 h1 (ws' := (mdW k ad) v f1 g) (by rw [← hv]; rfl) hdg (fun H1 locs1 h1 h3 => kk H1 locs1 ⟨h1, hv2.elim (fun q => q ▸ gF_up hP.2 25 (u1_rng (hP.2.2 25) hx)) id⟩ h3)
theorem mdN_where (C : gC D k p s m args c cc own) (hP : gWd D (mdW k ad) v f g H) (hdg : decode cc pc = .ok (.arraylength, 1)) (kk : W p l e R s m args below meth c H locs cells slots Q (F0 m (pc + 1) ls (.int (iI 300) :: rest))) : W p l e R s m args below meth c H locs cells slots Q (F0 m pc ls (.ref (ad 26) :: rest)) := va_alen (D := D) C.1 C.2.1 C.2.2.2.2 hP.1 26 0 rfl rfl (v := iI 300) rfl hdg kk
theorem mdL_which (C : gC D k p s m args c cc own) (hP : gWd D (mdW k ad) v f g H) {i : Int} (h0 : 0 ≤ i) (h1 : i < 300) (hdg : decode cc pc = .ok (.iaload, 1)) (kk : W p l e R s m args below meth c H locs cells slots Q (F0 m (pc + 1) ls (.int (iI (f 26 i)) :: rest))) : W p l e R s m args below meth c H locs cells slots Q (F0 m pc ls (.int (iI i) :: .ref (ad 27) :: rest)) := g_iald C hP.1 27 rfl (by decide) h0 h1 hdg kk
theorem mdS_which (C : gC D k p s m args c cc own) (hP : gWd D (mdW k ad) v f g H) (hD : mdD A k ad) (hS : va_S A H0 H locs) {i x : Int} {f1 : gF} (h0 : 0 ≤ i) (h1 : i < 300) (hx : inR x) (hv : (mdW k ad) v (va_up f 26 (u1 (f 26) i x)) g = (mdW k ad) v f1 g) (hv2 : va_up f 26 (u1 (f 26) i x) = f1 ∨ gOk v f1) (hdg : decode cc pc = .ok (.iastore, 1)) (kk : ∀ (H1 : Heap) (locs1 : List Loc), gWd D (mdW k ad) v f1 g H1 → va_S A H0 H1 locs1 → W p l e R s m args below meth c H1 locs1 cells slots Q (F0 m (pc + 1) ls rest)) : W p l e R s m args below meth c H locs cells slots Q (F0 m pc ls (.int (iI x) :: .int (iI i) :: .ref (ad 27) :: rest)) := g_iast C hP.1 (hD v f g) hS 27 rfl (by decide) h0 h1 (ws' := (mdW k ad) v f1 g) (by rw [← hv]; rfl) hdg (fun H1 locs1 h1 h3 => kk H1 locs1 ⟨h1, hv2.elim (fun q => q ▸ gF_up hP.2 26 (u1_rng (hP.2.2 26) hx)) id⟩ h3)
theorem mdN_which (C : gC D k p s m args c cc own) (hP : gWd D (mdW k ad) v f g H) (hdg : decode cc pc = .ok (.arraylength, 1)) (kk : W p l e R s m args below meth c H locs cells slots Q (F0 m (pc + 1) ls (.int (iI 300) :: rest))) : W p l e R s m args below meth c H locs cells slots Q (F0 m pc ls (.ref (ad 27) :: rest)) := va_alen (D := D) C.1 C.2.1 C.2.2.2.2 hP.1 27 0 rfl rfl (v := iI 300) rfl hdg kk
theorem mdL_from (C : gC D k p s m args c cc own) (hP : gWd D (mdW k ad) v f g H) {i : Int} (h0 : 0 ≤ i) (h1 : i < 300) (hdg : decode cc pc = .ok (.iaload, 1)) (kk : W p l e R s m args below meth c H locs cells slots Q (F0 m (pc + 1) ls (.int (iI (f 27 i)) :: rest))) : W p l e R s m args below meth c H locs cells slots Q (F0 m pc ls (.int (iI i) :: .ref (ad 28) :: rest)) := g_iald C hP.1 28 rfl (by decide) h0 h1 hdg kk
theorem mdS_from (C : gC D k p s m args c cc own) (hP : gWd D (mdW k ad) v f g H) (hD : mdD A k ad) (hS : va_S A H0 H locs) {i x : Int} {f1 : gF} (h0 : 0 ≤ i) (h1 : i < 300) (hx : inR x) (hv : (mdW k ad) v (va_up f 27 (u1 (f 27) i x)) g = (mdW k ad) v f1 g) (hv2 : va_up f 27 (u1 (f 27) i x) = f1 ∨ gOk v f1) (hdg : decode cc pc = .ok (.iastore, 1)) (kk : ∀ (H1 : Heap) (locs1 : List Loc), gWd D (mdW k ad) v f1 g H1 → va_S A H0 H1 locs1 → W p l e R s m args below meth c H1 locs1 cells slots Q (F0 m (pc + 1) ls rest)) : W p l e R s m args below meth c H locs cells slots Q (F0 m pc ls (.int (iI x) :: .int (iI i) :: .ref (ad 28) :: rest)) := g_iast C hP.1 (hD v f g) hS 28 rfl (by decide) h0 h1 (ws' := (mdW k ad) v f1 g) (by rw [← hv]; rfl) hdg (fun H1 locs1 h1 h3 => kk H1 locs1 ⟨h1, hv2.elim (fun q => q ▸ gF_up hP.2 27 (u1_rng (hP.2.2 27) hx)) id⟩ h3)
theorem mdN_from (C : gC D k p s m args c cc own) (hP : gWd D (mdW k ad) v f g H) (hdg : decode cc pc = .ok (.arraylength, 1)) (kk : W p l e R s m args below meth c H locs cells slots Q (F0 m (pc + 1) ls (.int (iI 300) :: rest))) : W p l e R s m args below meth c H locs cells slots Q (F0 m pc ls (.ref (ad 28) :: rest)) := va_alen (D := D) C.1 C.2.1 C.2.2.2.2 hP.1 28 0 rfl rfl (v := iI 300) rfl hdg kk
theorem mdL_to (C : gC D k p s m args c cc own) (hP : gWd D (mdW k ad) v f g H) {i : Int} (h0 : 0 ≤ i) (h1 : i < 300) (hdg : decode cc pc = .ok (.iaload, 1)) (kk : W p l e R s m args below meth c H locs cells slots Q (F0 m (pc + 1) ls (.int (iI (f 28 i)) :: rest))) : W p l e R s m args below meth c H locs cells slots Q (F0 m pc ls (.int (iI i) :: .ref (ad 29) :: rest)) := g_iald C hP.1 29 rfl (by decide) h0 h1 hdg kk
theorem mdS_to (C : gC D k p s m args c cc own) (hP : gWd D (mdW k ad) v f g H) (hD : mdD A k ad) (hS : va_S A H0 H locs) {i x : Int} {f1 : gF} (h0 : 0 ≤ i) (h1 : i < 300) (hx : inR x) (hv : (mdW k ad) v (va_up f 28 (u1 (f 28) i x)) g = (mdW k ad) v f1 g) (hv2 : va_up f 28 (u1 (f 28) i x) = f1 ∨ gOk v f1) (hdg : decode cc pc = .ok (.iastore, 1)) (kk : ∀ (H1 : Heap) (locs1 : List Loc), gWd D (mdW k ad) v f1 g H1 → va_S A H0 H1 locs1 → W p l e R s m args below meth c H1 locs1 cells slots Q (F0 m (pc + 1) ls rest)) : W p l e R s m args below meth c H locs cells slots Q (F0 m pc ls (.int (iI x) :: .int (iI i) :: .ref (ad 29) :: rest)) := g_iast C hP.1 (hD v f g) hS 29 rfl (by decide) h0 h1 (ws' := (mdW k ad) v f1 g) (by rw [← hv]; rfl) hdg (fun H1 locs1 h1 h3 => kk H1 locs1 ⟨h1, hv2.elim (fun q => q ▸ gF_up hP.2 28 (u1_rng (hP.2.2 28) hx)) id⟩ h3)
theorem mdN_to (C : gC D k p s m args c cc own) (hP : gWd D (mdW k ad) v f g H) (hdg : decode cc pc = .ok (.arraylength, 1)) (kk : W p l e R s m args below meth c H locs cells slots Q (F0 m (pc + 1) ls (.int (iI 300) :: rest))) : W p l e R s m args below meth c H locs cells slots Q (F0 m pc ls (.ref (ad 29) :: rest)) := va_alen (D := D) C.1 C.2.1 C.2.2.2.2 hP.1 29 0 rfl rfl (v := iI 300) rfl hdg kk
theorem mdL_hold (C : gC D k p s m args c cc own) (hP : gWd D (mdW k ad) v f g H) {i : Int} (h0 : 0 ≤ i) (h1 : i < 300) (hdg : decode cc pc = .ok (.iaload, 1)) (kk : W p l e R s m args below meth c H locs cells slots Q (F0 m (pc + 1) ls (.int (iI (f 29 i)) :: rest))) : W p l e R s m args below meth c H locs cells slots Q (F0 m pc ls (.int (iI i) :: .ref (ad 30) :: rest)) := g_iald C hP.1 30 rfl (by decide) h0 h1 hdg kk
theorem mdS_hold (C : gC D k p s m args c cc own) (hP : gWd D (mdW k ad) v f g H) (hD : mdD A k ad) (hS : va_S A H0 H locs) {i x : Int} {f1 : gF} (h0 : 0 ≤ i) (h1 : i < 300) (hx : inR x) (hv : (mdW k ad) v (va_up f 29 (u1 (f 29) i x)) g = (mdW k ad) v f1 g) (hv2 : va_up f 29 (u1 (f 29) i x) = f1 ∨ gOk v f1) (hdg : decode cc pc = .ok (.iastore, 1)) (kk : ∀ (H1 : Heap) (locs1 : List Loc), gWd D (mdW k ad) v f1 g H1 → va_S A H0 H1 locs1 → W p l e R s m args below meth c H1 locs1 cells slots Q (F0 m (pc + 1) ls rest)) : W p l e R s m args below meth c H locs cells slots Q (F0 m pc ls (.int (iI x) :: .int (iI i) :: .ref (ad 30) :: rest)) := g_iast C hP.1 (hD v f g) hS 30 rfl (by decide) h0 h1 (ws' := (mdW k ad) v f1 g) (by rw [← hv]; rfl) hdg (fun H1 locs1 h1 h3 => kk H1 locs1 ⟨h1, hv2.elim (fun q => q ▸ gF_up hP.2 29 (u1_rng (hP.2.2 29) hx)) id⟩ h3)
theorem mdN_hold (C : gC D k p s m args c cc own) (hP : gWd D (mdW k ad) v f g H) (hdg : decode cc pc = .ok (.arraylength, 1)) (kk : W p l e R s m args below meth c H locs cells slots Q (F0 m (pc + 1) ls (.int (iI 300) :: rest))) : W p l e R s m args below meth c H locs cells slots Q (F0 m pc ls (.ref (ad 30) :: rest)) := va_alen (D := D) C.1 C.2.1 C.2.2.2.2 hP.1 30 0 rfl rfl (v := iI 300) rfl hdg kk
theorem mdL_how (C : gC D k p s m args c cc own) (hP : gWd D (mdW k ad) v f g H) {i : Int} (h0 : 0 ≤ i) (h1 : i < 300) (hdg : decode cc pc = .ok (.iaload, 1)) (kk : W p l e R s m args below meth c H locs cells slots Q (F0 m (pc + 1) ls (.int (iI (f 30 i)) :: rest))) : W p l e R s m args below meth c H locs cells slots Q (F0 m pc ls (.int (iI i) :: .ref (ad 31) :: rest)) := g_iald C hP.1 31 rfl (by decide) h0 h1 hdg kk
theorem mdS_how (C : gC D k p s m args c cc own) (hP : gWd D (mdW k ad) v f g H) (hD : mdD A k ad) (hS : va_S A H0 H locs) {i x : Int} {f1 : gF} (h0 : 0 ≤ i) (h1 : i < 300) (hx : inR x) (hv : (mdW k ad) v (va_up f 30 (u1 (f 30) i x)) g = (mdW k ad) v f1 g) (hv2 : va_up f 30 (u1 (f 30) i x) = f1 ∨ gOk v f1) (hdg : decode cc pc = .ok (.iastore, 1)) (kk : ∀ (H1 : Heap) (locs1 : List Loc), gWd D (mdW k ad) v f1 g H1 → va_S A H0 H1 locs1 → W p l e R s m args below meth c H1 locs1 cells slots Q (F0 m (pc + 1) ls rest)) : W p l e R s m args below meth c H locs cells slots Q (F0 m pc ls (.int (iI x) :: .int (iI i) :: .ref (ad 31) :: rest)) := g_iast C hP.1 (hD v f g) hS 31 rfl (by decide) h0 h1 (ws' := (mdW k ad) v f1 g) (by rw [← hv]; rfl) hdg (fun H1 locs1 h1 h3 => kk H1 locs1 ⟨h1, hv2.elim (fun q => q ▸ gF_up hP.2 30 (u1_rng (hP.2.2 30) hx)) id⟩ h3)
theorem mdN_how (C : gC D k p s m args c cc own) (hP : gWd D (mdW k ad) v f g H) (hdg : decode cc pc = .ok (.arraylength, 1)) (kk : W p l e R s m args below meth c H locs cells slots Q (F0 m (pc + 1) ls (.int (iI 300) :: rest))) : W p l e R s m args below meth c H locs cells slots Q (F0 m pc ls (.ref (ad 31) :: rest)) := va_alen (D := D) C.1 C.2.1 C.2.2.2.2 hP.1 31 0 rfl rfl (v := iI 300) rfl hdg kk
theorem mdL_appealTry (C : gC D k p s m args c cc own) (hP : gWd D (mdW k ad) v f g H) {i : Int} (h0 : 0 ≤ i) (h1 : i < 40) (hdg : decode cc pc = .ok (.iaload, 1)) (kk : W p l e R s m args below meth c H locs cells slots Q (F0 m (pc + 1) ls (.int (iI (f 31 i)) :: rest))) : W p l e R s m args below meth c H locs cells slots Q (F0 m pc ls (.int (iI i) :: .ref (ad 32) :: rest)) := g_iald C hP.1 32 rfl (by decide) h0 h1 hdg kk
theorem mdS_appealTry (C : gC D k p s m args c cc own) (hP : gWd D (mdW k ad) v f g H) (hD : mdD A k ad) (hS : va_S A H0 H locs) {i x : Int} {f1 : gF} (h0 : 0 ≤ i) (h1 : i < 40) (hx : inR x) (hv : (mdW k ad) v (va_up f 31 (u1 (f 31) i x)) g = (mdW k ad) v f1 g) (hv2 : va_up f 31 (u1 (f 31) i x) = f1 ∨ gOk v f1) (hdg : decode cc pc = .ok (.iastore, 1)) (kk : ∀ (H1 : Heap) (locs1 : List Loc), gWd D (mdW k ad) v f1 g H1 → va_S A H0 H1 locs1 → W p l e R s m args below meth c H1 locs1 cells slots Q (F0 m (pc + 1) ls rest)) : W p l e R s m args below meth c H locs cells slots Q (F0 m pc ls (.int (iI x) :: .int (iI i) :: .ref (ad 32) :: rest)) := g_iast C hP.1 (hD v f g) hS 32 rfl (by decide) h0 h1 (ws' := (mdW k ad) v f1 g) (by rw [← hv]; rfl) hdg (fun H1 locs1 h1 h3 => kk H1 locs1 ⟨h1, hv2.elim (fun q => q ▸ gF_up hP.2 31 (u1_rng (hP.2.2 31) hx)) id⟩ h3)
theorem mdN_appealTry (C : gC D k p s m args c cc own) (hP : gWd D (mdW k ad) v f g H) (hdg : decode cc pc = .ok (.arraylength, 1)) (kk : W p l e R s m args below meth c H locs cells slots Q (F0 m (pc + 1) ls (.int (iI 40) :: rest))) : W p l e R s m args below meth c H locs cells slots Q (F0 m pc ls (.ref (ad 32) :: rest)) := va_alen (D := D) C.1 C.2.1 C.2.2.2.2 hP.1 32 0 rfl rfl (v := iI 40) rfl hdg kk
theorem mdL_appealHold (C : gC D k p s m args c cc own) (hP : gWd D (mdW k ad) v f g H) {i : Int} (h0 : 0 ≤ i) (h1 : i < 40) (hdg : decode cc pc = .ok (.iaload, 1)) (kk : W p l e R s m args below meth c H locs cells slots Q (F0 m (pc + 1) ls (.int (iI (f 32 i)) :: rest))) : W p l e R s m args below meth c H locs cells slots Q (F0 m pc ls (.int (iI i) :: .ref (ad 33) :: rest)) := g_iald C hP.1 33 rfl (by decide) h0 h1 hdg kk
theorem mdS_appealHold (C : gC D k p s m args c cc own) (hP : gWd D (mdW k ad) v f g H) (hD : mdD A k ad) (hS : va_S A H0 H locs) {i x : Int} {f1 : gF} (h0 : 0 ≤ i) (h1 : i < 40) (hx : inR x) (hv : (mdW k ad) v (va_up f 32 (u1 (f 32) i x)) g = (mdW k ad) v f1 g) (hv2 : va_up f 32 (u1 (f 32) i x) = f1 ∨ gOk v f1) (hdg : decode cc pc = .ok (.iastore, 1)) (kk : ∀ (H1 : Heap) (locs1 : List Loc), gWd D (mdW k ad) v f1 g H1 → va_S A H0 H1 locs1 → W p l e R s m args below meth c H1 locs1 cells slots Q (F0 m (pc + 1) ls rest)) : W p l e R s m args below meth c H locs cells slots Q (F0 m pc ls (.int (iI x) :: .int (iI i) :: .ref (ad 33) :: rest)) := g_iast C hP.1 (hD v f g) hS 33 rfl (by decide) h0 h1 (ws' := (mdW k ad) v f1 g) (by rw [← hv]; rfl) hdg (fun H1 locs1 h1 h3 => kk H1 locs1 ⟨h1, hv2.elim (fun q => q ▸ gF_up hP.2 32 (u1_rng (hP.2.2 32) hx)) id⟩ h3)
theorem mdN_appealHold (C : gC D k p s m args c cc own) (hP : gWd D (mdW k ad) v f g H) (hdg : decode cc pc = .ok (.arraylength, 1)) (kk : W p l e R s m args below meth c H locs cells slots Q (F0 m (pc + 1) ls (.int (iI 40) :: rest))) : W p l e R s m args below meth c H locs cells slots Q (F0 m pc ls (.ref (ad 33) :: rest)) := va_alen (D := D) C.1 C.2.1 C.2.2.2.2 hP.1 33 0 rfl rfl (v := iI 40) rfl hdg kk
theorem mdL_appealDay (C : gC D k p s m args c cc own) (hP : gWd D (mdW k ad) v f g H) {i : Int} (h0 : 0 ≤ i) (h1 : i < 40) (hdg : decode cc pc = .ok (.iaload, 1)) (kk : W p l e R s m args below meth c H locs cells slots Q (F0 m (pc + 1) ls (.int (iI (f 33 i)) :: rest))) : W p l e R s m args below meth c H locs cells slots Q (F0 m pc ls (.int (iI i) :: .ref (ad 34) :: rest)) := g_iald C hP.1 34 rfl (by decide) h0 h1 hdg kk
theorem mdS_appealDay (C : gC D k p s m args c cc own) (hP : gWd D (mdW k ad) v f g H) (hD : mdD A k ad) (hS : va_S A H0 H locs) {i x : Int} {f1 : gF} (h0 : 0 ≤ i) (h1 : i < 40) (hx : inR x) (hv : (mdW k ad) v (va_up f 33 (u1 (f 33) i x)) g = (mdW k ad) v f1 g) (hv2 : va_up f 33 (u1 (f 33) i x) = f1 ∨ gOk v f1) (hdg : decode cc pc = .ok (.iastore, 1)) (kk : ∀ (H1 : Heap) (locs1 : List Loc), gWd D (mdW k ad) v f1 g H1 → va_S A H0 H1 locs1 → W p l e R s m args below meth c H1 locs1 cells slots Q (F0 m (pc + 1) ls rest)) : W p l e R s m args below meth c H locs cells slots Q (F0 m pc ls (.int (iI x) :: .int (iI i) :: .ref (ad 34) :: rest)) := g_iast C hP.1 (hD v f g) hS 34 rfl (by decide) h0 h1 (ws' := (mdW k ad) v f1 g) (by rw [← hv]; rfl) hdg (fun H1 locs1 h1 h3 => kk H1 locs1 ⟨h1, hv2.elim (fun q => q ▸ gF_up hP.2 33 (u1_rng (hP.2.2 33) hx)) id⟩ h3)
theorem mdN_appealDay (C : gC D k p s m args c cc own) (hP : gWd D (mdW k ad) v f g H) (hdg : decode cc pc = .ok (.arraylength, 1)) (kk : W p l e R s m args below meth c H locs cells slots Q (F0 m (pc + 1) ls (.int (iI 40) :: rest))) : W p l e R s m args below meth c H locs cells slots Q (F0 m pc ls (.ref (ad 34) :: rest)) := va_alen (D := D) C.1 C.2.1 C.2.2.2.2 hP.1 34 0 rfl rfl (v := iI 40) rfl hdg kk
theorem mdL_outs (C : gC D k p s m args c cc own) (hP : gWd D (mdW k ad) v f g H) {i : Int} (h0 : 0 ≤ i) (h1 : i < 16) (hdg : decode cc pc = .ok (.iaload, 1)) (kk : W p l e R s m args below meth c H locs cells slots Q (F0 m (pc + 1) ls (.int (iI (f 34 i)) :: rest))) : W p l e R s m args below meth c H locs cells slots Q (F0 m pc ls (.int (iI i) :: .ref (ad 35) :: rest)) := g_iald C hP.1 35 rfl (by decide) h0 h1 hdg kk
theorem mdS_outs (C : gC D k p s m args c cc own) (hP : gWd D (mdW k ad) v f g H) (hD : mdD A k ad) (hS : va_S A H0 H locs) {i x : Int} {f1 : gF} (h0 : 0 ≤ i) (h1 : i < 16) (hx : inR x) (hv : (mdW k ad) v (va_up f 34 (u1 (f 34) i x)) g = (mdW k ad) v f1 g) (hv2 : va_up f 34 (u1 (f 34) i x) = f1 ∨ gOk v f1) (hdg : decode cc pc = .ok (.iastore, 1)) (kk : ∀ (H1 : Heap) (locs1 : List Loc), gWd D (mdW k ad) v f1 g H1 → va_S A H0 H1 locs1 → W p l e R s m args below meth c H1 locs1 cells slots Q (F0 m (pc + 1) ls rest)) : W p l e R s m args below meth c H locs cells slots Q (F0 m pc ls (.int (iI x) :: .int (iI i) :: .ref (ad 35) :: rest)) := g_iast C hP.1 (hD v f g) hS 35 rfl (by decide) h0 h1 (ws' := (mdW k ad) v f1 g) (by rw [← hv]; rfl) hdg (fun H1 locs1 h1 h3 => kk H1 locs1 ⟨h1, hv2.elim (fun q => q ▸ gF_up hP.2 34 (u1_rng (hP.2.2 34) hx)) id⟩ h3)
theorem mdN_outs (C : gC D k p s m args c cc own) (hP : gWd D (mdW k ad) v f g H) (hdg : decode cc pc = .ok (.arraylength, 1)) (kk : W p l e R s m args below meth c H locs cells slots Q (F0 m (pc + 1) ls (.int (iI 16) :: rest))) : W p l e R s m args below meth c H locs cells slots Q (F0 m pc ls (.ref (ad 35) :: rest)) := va_alen (D := D) C.1 C.2.1 C.2.2.2.2 hP.1 35 0 rfl rfl (v := iI 16) rfl hdg kk
theorem mdL_outFrom (C : gC D k p s m args c cc own) (hP : gWd D (mdW k ad) v f g H) {i : Int} (h0 : 0 ≤ i) (h1 : i < 320) (hdg : decode cc pc = .ok (.iaload, 1)) (kk : W p l e R s m args below meth c H locs cells slots Q (F0 m (pc + 1) ls (.int (iI (f 35 i)) :: rest))) : W p l e R s m args below meth c H locs cells slots Q (F0 m pc ls (.int (iI i) :: .ref (ad 36) :: rest)) := g_iald C hP.1 36 rfl (by decide) h0 h1 hdg kk
theorem mdS_outFrom (C : gC D k p s m args c cc own) (hP : gWd D (mdW k ad) v f g H) (hD : mdD A k ad) (hS : va_S A H0 H locs) {i x : Int} {f1 : gF} (h0 : 0 ≤ i) (h1 : i < 320) (hx : inR x) (hv : (mdW k ad) v (va_up f 35 (u1 (f 35) i x)) g = (mdW k ad) v f1 g) (hv2 : va_up f 35 (u1 (f 35) i x) = f1 ∨ gOk v f1) (hdg : decode cc pc = .ok (.iastore, 1)) (kk : ∀ (H1 : Heap) (locs1 : List Loc), gWd D (mdW k ad) v f1 g H1 → va_S A H0 H1 locs1 → W p l e R s m args below meth c H1 locs1 cells slots Q (F0 m (pc + 1) ls rest)) : W p l e R s m args below meth c H locs cells slots Q (F0 m pc ls (.int (iI x) :: .int (iI i) :: .ref (ad 36) :: rest)) := g_iast C hP.1 (hD v f g) hS 36 rfl (by decide) h0 h1 (ws' := (mdW k ad) v f1 g) (by rw [← hv]; rfl) hdg (fun H1 locs1 h1 h3 => kk H1 locs1 ⟨h1, hv2.elim (fun q => q ▸ gF_up hP.2 35 (u1_rng (hP.2.2 35) hx)) id⟩ h3)
theorem mdN_outFrom (C : gC D k p s m args c cc own) (hP : gWd D (mdW k ad) v f g H) (hdg : decode cc pc = .ok (.arraylength, 1)) (kk : W p l e R s m args below meth c H locs cells slots Q (F0 m (pc + 1) ls (.int (iI 320) :: rest))) : W p l e R s m args below meth c H locs cells slots Q (F0 m pc ls (.ref (ad 36) :: rest)) := va_alen (D := D) C.1 C.2.1 C.2.2.2.2 hP.1 36 0 rfl rfl (v := iI 320) rfl hdg kk
theorem mdL_outTo (C : gC D k p s m args c cc own) (hP : gWd D (mdW k ad) v f g H) {i : Int} (h0 : 0 ≤ i) (h1 : i < 320) (hdg : decode cc pc = .ok (.iaload, 1)) (kk : W p l e R s m args below meth c H locs cells slots Q (F0 m (pc + 1) ls (.int (iI (f 36 i)) :: rest))) : W p l e R s m args below meth c H locs cells slots Q (F0 m pc ls (.int (iI i) :: .ref (ad 37) :: rest)) := g_iald C hP.1 37 rfl (by decide) h0 h1 hdg kk
theorem mdS_outTo (C : gC D k p s m args c cc own) (hP : gWd D (mdW k ad) v f g H) (hD : mdD A k ad) (hS : va_S A H0 H locs) {i x : Int} {f1 : gF} (h0 : 0 ≤ i) (h1 : i < 320) (hx : inR x) (hv : (mdW k ad) v (va_up f 36 (u1 (f 36) i x)) g = (mdW k ad) v f1 g) (hv2 : va_up f 36 (u1 (f 36) i x) = f1 ∨ gOk v f1) (hdg : decode cc pc = .ok (.iastore, 1)) (kk : ∀ (H1 : Heap) (locs1 : List Loc), gWd D (mdW k ad) v f1 g H1 → va_S A H0 H1 locs1 → W p l e R s m args below meth c H1 locs1 cells slots Q (F0 m (pc + 1) ls rest)) : W p l e R s m args below meth c H locs cells slots Q (F0 m pc ls (.int (iI x) :: .int (iI i) :: .ref (ad 37) :: rest)) := g_iast C hP.1 (hD v f g) hS 37 rfl (by decide) h0 h1 (ws' := (mdW k ad) v f1 g) (by rw [← hv]; rfl) hdg (fun H1 locs1 h1 h3 => kk H1 locs1 ⟨h1, hv2.elim (fun q => q ▸ gF_up hP.2 36 (u1_rng (hP.2.2 36) hx)) id⟩ h3)
theorem mdN_outTo (C : gC D k p s m args c cc own) (hP : gWd D (mdW k ad) v f g H) (hdg : decode cc pc = .ok (.arraylength, 1)) (kk : W p l e R s m args below meth c H locs cells slots Q (F0 m (pc + 1) ls (.int (iI 320) :: rest))) : W p l e R s m args below meth c H locs cells slots Q (F0 m pc ls (.ref (ad 37) :: rest)) := va_alen (D := D) C.1 C.2.1 C.2.2.2.2 hP.1 37 0 rfl rfl (v := iI 320) rfl hdg kk
theorem mdL_facts (C : gC D k p s m args c cc own) (hP : gWd D (mdW k ad) v f g H) {i : Int} (h0 : 0 ≤ i) (h1 : i < 6) (hdg : decode cc pc = .ok (.iaload, 1)) (kk : W p l e R s m args below meth c H locs cells slots Q (F0 m (pc + 1) ls (.int (iI (f 37 i)) :: rest))) : W p l e R s m args below meth c H locs cells slots Q (F0 m pc ls (.int (iI i) :: .ref (ad 38) :: rest)) := g_iald C hP.1 38 rfl (by decide) h0 h1 hdg kk
theorem mdS_facts (C : gC D k p s m args c cc own) (hP : gWd D (mdW k ad) v f g H) (hD : mdD A k ad) (hS : va_S A H0 H locs) {i x : Int} {f1 : gF} (h0 : 0 ≤ i) (h1 : i < 6) (hx : inR x) (hv : (mdW k ad) v (va_up f 37 (u1 (f 37) i x)) g = (mdW k ad) v f1 g) (hv2 : va_up f 37 (u1 (f 37) i x) = f1 ∨ gOk v f1) (hdg : decode cc pc = .ok (.iastore, 1)) (kk : ∀ (H1 : Heap) (locs1 : List Loc), gWd D (mdW k ad) v f1 g H1 → va_S A H0 H1 locs1 → W p l e R s m args below meth c H1 locs1 cells slots Q (F0 m (pc + 1) ls rest)) : W p l e R s m args below meth c H locs cells slots Q (F0 m pc ls (.int (iI x) :: .int (iI i) :: .ref (ad 38) :: rest)) := g_iast C hP.1 (hD v f g) hS 38 rfl (by decide) h0 h1 (ws' := (mdW k ad) v f1 g) (by rw [← hv]; rfl) hdg (fun H1 locs1 h1 h3 => kk H1 locs1 ⟨h1, hv2.elim (fun q => q ▸ gF_up hP.2 37 (u1_rng (hP.2.2 37) hx)) id⟩ h3)
theorem mdN_facts (C : gC D k p s m args c cc own) (hP : gWd D (mdW k ad) v f g H) (hdg : decode cc pc = .ok (.arraylength, 1)) (kk : W p l e R s m args below meth c H locs cells slots Q (F0 m (pc + 1) ls (.int (iI 6) :: rest))) : W p l e R s m args below meth c H locs cells slots Q (F0 m pc ls (.ref (ad 38) :: rest)) := va_alen (D := D) C.1 C.2.1 C.2.2.2.2 hP.1 38 0 rfl rfl (v := iI 6) rfl hdg kk
theorem mdL_pile (C : gC D k p s m args c cc own) (hP : gWd D (mdW k ad) v f g H) {i : Int} (h0 : 0 ≤ i) (h1 : i < 41) (hdg : decode cc pc = .ok (.laload, 1)) (kk : W p l e R s m args below meth c H locs cells slots Q (F0 m (pc + 1) ls (.long (iL (g 1 i)) :: rest))) : W p l e R s m args below meth c H locs cells slots Q (F0 m pc ls (.int (iI i) :: .ref (ad 39) :: rest)) := g_lald C hP.1 39 rfl (by decide) h0 h1 hdg kk
theorem mdS_pile (C : gC D k p s m args c cc own) (hP : gWd D (mdW k ad) v f g H) (hD : mdD A k ad) (hS : va_S A H0 H locs) {i x : Int} {g1 : gF} (h0 : 0 ≤ i) (h1 : i < 41) (hv : (mdW k ad) v f (va_up g 1 (u1 (g 1) i x)) = (mdW k ad) v f g1) (hdg : decode cc pc = .ok (.lastore, 1)) (kk : ∀ (H1 : Heap) (locs1 : List Loc), gWd D (mdW k ad) v f g1 H1 → va_S A H0 H1 locs1 → W p l e R s m args below meth c H1 locs1 cells slots Q (F0 m (pc + 1) ls rest)) : W p l e R s m args below meth c H locs cells slots Q (F0 m pc ls (.long (iL x) :: .int (iI i) :: .ref (ad 39) :: rest)) := g_last C hP.1 (hD v f g) hS 39 rfl (by decide) h0 h1 (ws' := (mdW k ad) v f g1) (by rw [← hv]; rfl) hdg (fun H1 locs1 h1 h3 => kk H1 locs1 ⟨h1, hP.2⟩ h3)
theorem mdN_pile (C : gC D k p s m args c cc own) (hP : gWd D (mdW k ad) v f g H) (hdg : decode cc pc = .ok (.arraylength, 1)) (kk : W p l e R s m args below meth c H locs cells slots Q (F0 m (pc + 1) ls (.int (iI 41) :: rest))) : W p l e R s m args below meth c H locs cells slots Q (F0 m pc ls (.ref (ad 39) :: rest)) := va_alen (D := D) C.1 C.2.1 C.2.2.2.2 hP.1 39 1 rfl rfl (v := iI 41) rfl hdg kk
theorem mdL_ranks (C : gC D k p s m args c cc own) (hP : gWd D (mdW k ad) v f g H) {i : Int} (h0 : 0 ≤ i) (h1 : i < 16) (hdg : decode cc pc = .ok (.iaload, 1)) (kk : W p l e R s m args below meth c H locs cells slots Q (F0 m (pc + 1) ls (.int (iI (f 38 i)) :: rest))) : W p l e R s m args below meth c H locs cells slots Q (F0 m pc ls (.int (iI i) :: .ref (ad 40) :: rest)) := g_iald C hP.1 40 rfl (by decide) h0 h1 hdg kk
theorem mdS_ranks (C : gC D k p s m args c cc own) (hP : gWd D (mdW k ad) v f g H) (hD : mdD A k ad) (hS : va_S A H0 H locs) {i x : Int} {f1 : gF} (h0 : 0 ≤ i) (h1 : i < 16) (hx : inR x) (hv : (mdW k ad) v (va_up f 38 (u1 (f 38) i x)) g = (mdW k ad) v f1 g) (hv2 : va_up f 38 (u1 (f 38) i x) = f1 ∨ gOk v f1) (hdg : decode cc pc = .ok (.iastore, 1)) (kk : ∀ (H1 : Heap) (locs1 : List Loc), gWd D (mdW k ad) v f1 g H1 → va_S A H0 H1 locs1 → W p l e R s m args below meth c H1 locs1 cells slots Q (F0 m (pc + 1) ls rest)) : W p l e R s m args below meth c H locs cells slots Q (F0 m pc ls (.int (iI x) :: .int (iI i) :: .ref (ad 40) :: rest)) := g_iast C hP.1 (hD v f g) hS 40 rfl (by decide) h0 h1 (ws' := (mdW k ad) v f1 g) (by rw [← hv]; rfl) hdg (fun H1 locs1 h1 h3 => kk H1 locs1 ⟨h1, hv2.elim (fun q => q ▸ gF_up hP.2 38 (u1_rng (hP.2.2 38) hx)) id⟩ h3)
theorem mdN_ranks (C : gC D k p s m args c cc own) (hP : gWd D (mdW k ad) v f g H) (hdg : decode cc pc = .ok (.arraylength, 1)) (kk : W p l e R s m args below meth c H locs cells slots Q (F0 m (pc + 1) ls (.int (iI 16) :: rest))) : W p l e R s m args below meth c H locs cells slots Q (F0 m pc ls (.ref (ad 40) :: rest)) := va_alen (D := D) C.1 C.2.1 C.2.2.2.2 hP.1 40 0 rfl rfl (v := iI 16) rfl hdg kk
theorem mdL_sums (C : gC D k p s m args c cc own) (hP : gWd D (mdW k ad) v f g H) {i : Int} (h0 : 0 ≤ i) (h1 : i < 16) (hdg : decode cc pc = .ok (.laload, 1)) (kk : W p l e R s m args below meth c H locs cells slots Q (F0 m (pc + 1) ls (.long (iL (g 2 i)) :: rest))) : W p l e R s m args below meth c H locs cells slots Q (F0 m pc ls (.int (iI i) :: .ref (ad 41) :: rest)) := g_lald C hP.1 41 rfl (by decide) h0 h1 hdg kk
theorem mdS_sums (C : gC D k p s m args c cc own) (hP : gWd D (mdW k ad) v f g H) (hD : mdD A k ad) (hS : va_S A H0 H locs) {i x : Int} {g1 : gF} (h0 : 0 ≤ i) (h1 : i < 16) (hv : (mdW k ad) v f (va_up g 2 (u1 (g 2) i x)) = (mdW k ad) v f g1) (hdg : decode cc pc = .ok (.lastore, 1)) (kk : ∀ (H1 : Heap) (locs1 : List Loc), gWd D (mdW k ad) v f g1 H1 → va_S A H0 H1 locs1 → W p l e R s m args below meth c H1 locs1 cells slots Q (F0 m (pc + 1) ls rest)) : W p l e R s m args below meth c H locs cells slots Q (F0 m pc ls (.long (iL x) :: .int (iI i) :: .ref (ad 41) :: rest)) := g_last C hP.1 (hD v f g) hS 41 rfl (by decide) h0 h1 (ws' := (mdW k ad) v f g1) (by rw [← hv]; rfl) hdg (fun H1 locs1 h1 h3 => kk H1 locs1 ⟨h1, hP.2⟩ h3)
theorem mdN_sums (C : gC D k p s m args c cc own) (hP : gWd D (mdW k ad) v f g H) (hdg : decode cc pc = .ok (.arraylength, 1)) (kk : W p l e R s m args below meth c H locs cells slots Q (F0 m (pc + 1) ls (.int (iI 16) :: rest))) : W p l e R s m args below meth c H locs cells slots Q (F0 m pc ls (.ref (ad 41) :: rest)) := va_alen (D := D) C.1 C.2.1 C.2.2.2.2 hP.1 41 1 rfl rfl (v := iI 16) rfl hdg kk
end Gmd
end
