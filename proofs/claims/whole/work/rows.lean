section
-- ===== PART A: goes FIRST, ahead of the names: the tables' words, and 'selects' of the private methods out of them =====
/-- a private method of a class that the tables say can be made, by its rows of tables_1 -/
def lw_okq (q : MethodName × Nat) : Prop := (q.1.cls ≠ "java/lang/invoke/MethodHandle" ∧ q.1.cls ≠ "java/lang/invoke/VarHandle") ∧ Cond.instantiable q.1.cls q.2 ∈ tables_1 ∧ Cond.privateMethod q.1 ∈ tables_1 ∧ Cond.instanceMethod q.1 ∈ tables_1
theorem lw_p0 : lw_okq (⟨"FilmWeeks", "told", "(I)I"⟩, 11) := ⟨⟨by decide +kernel, by decide +kernel⟩, List.mem_of_getElem? (i := 21) (by decide +kernel), List.mem_of_getElem? (i := 458) (by decide +kernel), List.mem_of_getElem? (i := 459) (by decide +kernel)⟩
theorem lw_p1 : lw_okq (⟨"FilmWeeks", "reasonAgainst", "(IIII)I"⟩, 11) := ⟨⟨by decide +kernel, by decide +kernel⟩, List.mem_of_getElem? (i := 21) (by decide +kernel), List.mem_of_getElem? (i := 514) (by decide +kernel), List.mem_of_getElem? (i := 515) (by decide +kernel)⟩
theorem lw_p2 : lw_okq (⟨"FilmWeeks$Bars", "isHallTaken", "(IIII)Z"⟩, 3) := ⟨⟨by decide +kernel, by decide +kernel⟩, List.mem_of_getElem? (i := 170) (by decide +kernel), List.mem_of_getElem? (i := 526) (by decide +kernel), List.mem_of_getElem? (i := 527) (by decide +kernel)⟩
theorem lw_p3 : lw_okq (⟨"FilmWeeks$Bars", "isPrintAway", "(IIIII)Z"⟩, 3) := ⟨⟨by decide +kernel, by decide +kernel⟩, List.mem_of_getElem? (i := 170) (by decide +kernel), List.mem_of_getElem? (i := 530) (by decide +kernel), List.mem_of_getElem? (i := 531) (by decide +kernel)⟩
theorem lw_p4 : lw_okq (⟨"FilmWeeks$Bars", "manyOf", "(II)I"⟩, 3) := ⟨⟨by decide +kernel, by decide +kernel⟩, List.mem_of_getElem? (i := 170) (by decide +kernel), List.mem_of_getElem? (i := 549) (by decide +kernel), List.mem_of_getElem? (i := 550) (by decide +kernel)⟩
theorem lw_p5 : lw_okq (⟨"FilmWeeks$Bars", "isBesideBarred", "(IIIII)Z"⟩, 3) := ⟨⟨by decide +kernel, by decide +kernel⟩, List.mem_of_getElem? (i := 170) (by decide +kernel), List.mem_of_getElem? (i := 553) (by decide +kernel), List.mem_of_getElem? (i := 554) (by decide +kernel)⟩
theorem lw_p6 : lw_okq (⟨"FilmWeeks$Worths", "manyBeside", "(I)I"⟩, 13) := ⟨⟨by decide +kernel, by decide +kernel⟩, List.mem_of_getElem? (i := 186) (by decide +kernel), List.mem_of_getElem? (i := 593) (by decide +kernel), List.mem_of_getElem? (i := 594) (by decide +kernel)⟩
theorem lw_p7 : lw_okq (⟨"FilmWeeks$Worths", "runBeside", "(II)Z"⟩, 13) := ⟨⟨by decide +kernel, by decide +kernel⟩, List.mem_of_getElem? (i := 186) (by decide +kernel), List.mem_of_getElem? (i := 597) (by decide +kernel), List.mem_of_getElem? (i := 598) (by decide +kernel)⟩
theorem lw_p8 : lw_okq (⟨"FilmWeeks$Worths", "crowd", "(II)I"⟩, 13) := ⟨⟨by decide +kernel, by decide +kernel⟩, List.mem_of_getElem? (i := 186) (by decide +kernel), List.mem_of_getElem? (i := 603) (by decide +kernel), List.mem_of_getElem? (i := 604) (by decide +kernel)⟩
theorem lw_p9 : lw_okq (⟨"FilmWeeks$Worths", "share", "(III)I"⟩, 13) := ⟨⟨by decide +kernel, by decide +kernel⟩, List.mem_of_getElem? (i := 186) (by decide +kernel), List.mem_of_getElem? (i := 607) (by decide +kernel), List.mem_of_getElem? (i := 608) (by decide +kernel)⟩
theorem lw_p10 : lw_okq (⟨"FilmWeeks$Worths", "worth", "(II)I"⟩, 13) := ⟨⟨by decide +kernel, by decide +kernel⟩, List.mem_of_getElem? (i := 186) (by decide +kernel), List.mem_of_getElem? (i := 615) (by decide +kernel), List.mem_of_getElem? (i := 616) (by decide +kernel)⟩
theorem lw_p11 : lw_okq (⟨"FilmWeeks$Lateness", "sortByBegin", "()I"⟩, 9) := ⟨⟨by decide +kernel, by decide +kernel⟩, List.mem_of_getElem? (i := 237) (by decide +kernel), List.mem_of_getElem? (i := 624) (by decide +kernel), List.mem_of_getElem? (i := 625) (by decide +kernel)⟩
theorem lw_p12 : lw_okq (⟨"FilmWeeks$Lateness", "freeBehind", "(II)I"⟩, 9) := ⟨⟨by decide +kernel, by decide +kernel⟩, List.mem_of_getElem? (i := 237) (by decide +kernel), List.mem_of_getElem? (i := 628) (by decide +kernel), List.mem_of_getElem? (i := 629) (by decide +kernel)⟩
theorem lw_p13 : lw_okq (⟨"FilmWeeks$Worths", "findBestChange", "()Z"⟩, 13) := ⟨⟨by decide +kernel, by decide +kernel⟩, List.mem_of_getElem? (i := 186) (by decide +kernel), List.mem_of_getElem? (i := 665) (by decide +kernel), List.mem_of_getElem? (i := 666) (by decide +kernel)⟩
theorem lw_p14 : lw_okq (⟨"FilmWeeks$Worths", "countBeside", "()V"⟩, 13) := ⟨⟨by decide +kernel, by decide +kernel⟩, List.mem_of_getElem? (i := 186) (by decide +kernel), List.mem_of_getElem? (i := 669) (by decide +kernel), List.mem_of_getElem? (i := 670) (by decide +kernel)⟩
theorem lw_p15 : lw_okq (⟨"FilmWeeks$Worths", "gridWithout", "(I)I"⟩, 13) := ⟨⟨by decide +kernel, by decide +kernel⟩, List.mem_of_getElem? (i := 186) (by decide +kernel), List.mem_of_getElem? (i := 673) (by decide +kernel), List.mem_of_getElem? (i := 674) (by decide +kernel)⟩
def lw_privs_1 : List (MethodName × Nat) := [(⟨"FilmWeeks", "told", "(I)I"⟩, 11), (⟨"FilmWeeks", "reasonAgainst", "(IIII)I"⟩, 11), (⟨"FilmWeeks$Bars", "isHallTaken", "(IIII)Z"⟩, 3), (⟨"FilmWeeks$Bars", "isPrintAway", "(IIIII)Z"⟩, 3), (⟨"FilmWeeks$Bars", "manyOf", "(II)I"⟩, 3), (⟨"FilmWeeks$Bars", "isBesideBarred", "(IIIII)Z"⟩, 3), (⟨"FilmWeeks$Worths", "manyBeside", "(I)I"⟩, 13), (⟨"FilmWeeks$Worths", "runBeside", "(II)Z"⟩, 13), (⟨"FilmWeeks$Worths", "crowd", "(II)I"⟩, 13), (⟨"FilmWeeks$Worths", "share", "(III)I"⟩, 13), (⟨"FilmWeeks$Worths", "worth", "(II)I"⟩, 13), (⟨"FilmWeeks$Lateness", "sortByBegin", "()I"⟩, 9), (⟨"FilmWeeks$Lateness", "freeBehind", "(II)I"⟩, 9), (⟨"FilmWeeks$Worths", "findBestChange", "()Z"⟩, 13), (⟨"FilmWeeks$Worths", "countBeside", "()V"⟩, 13), (⟨"FilmWeeks$Worths", "gridWithout", "(I)I"⟩, 13)]
theorem lw_r1 : ∀ q ∈ lw_privs_1, lw_okq q := List.forall_mem_cons.mpr ⟨lw_p0, List.forall_mem_cons.mpr ⟨lw_p1, List.forall_mem_cons.mpr ⟨lw_p2, List.forall_mem_cons.mpr ⟨lw_p3, List.forall_mem_cons.mpr ⟨lw_p4, List.forall_mem_cons.mpr ⟨lw_p5, List.forall_mem_cons.mpr ⟨lw_p6, List.forall_mem_cons.mpr ⟨lw_p7, List.forall_mem_cons.mpr ⟨lw_p8, List.forall_mem_cons.mpr ⟨lw_p9, List.forall_mem_cons.mpr ⟨lw_p10, List.forall_mem_cons.mpr ⟨lw_p11, List.forall_mem_cons.mpr ⟨lw_p12, List.forall_mem_cons.mpr ⟨lw_p13, List.forall_mem_cons.mpr ⟨lw_p14, List.forall_mem_cons.mpr ⟨lw_p15, fun _ h => absurd h List.not_mem_nil⟩⟩⟩⟩⟩⟩⟩⟩⟩⟩⟩⟩⟩⟩⟩⟩
theorem lw_p16 : lw_okq (⟨"FilmWeeks$Worths", "tryAt", "(IIII)V"⟩, 13) := ⟨⟨by decide +kernel, by decide +kernel⟩, List.mem_of_getElem? (i := 186) (by decide +kernel), List.mem_of_getElem? (i := 677) (by decide +kernel), List.mem_of_getElem? (i := 678) (by decide +kernel)⟩
theorem lw_p17 : lw_okq (⟨"FilmWeeks$Reader", "advance", "()V"⟩, 7) := ⟨⟨by decide +kernel, by decide +kernel⟩, List.mem_of_getElem? (i := 346) (by decide +kernel), List.mem_of_getElem? (i := 775) (by decide +kernel), List.mem_of_getElem? (i := 776) (by decide +kernel)⟩
theorem lw_p18 : lw_okq (⟨"FilmWeeks$Reader", "takeWord", "(Ljava/lang/String;)Z"⟩, 7) := ⟨⟨by decide +kernel, by decide +kernel⟩, List.mem_of_getElem? (i := 346) (by decide +kernel), List.mem_of_getElem? (i := 787) (by decide +kernel), List.mem_of_getElem? (i := 788) (by decide +kernel)⟩
theorem lw_p19 : lw_okq (⟨"FilmWeeks$Reader", "takeCond", "(I)Z"⟩, 7) := ⟨⟨by decide +kernel, by decide +kernel⟩, List.mem_of_getElem? (i := 346) (by decide +kernel), List.mem_of_getElem? (i := 839) (by decide +kernel), List.mem_of_getElem? (i := 840) (by decide +kernel)⟩
theorem lw_p20 : lw_okq (⟨"FilmWeeks$Reader", "takeAnd", "(I)Z"⟩, 7) := ⟨⟨by decide +kernel, by decide +kernel⟩, List.mem_of_getElem? (i := 346) (by decide +kernel), List.mem_of_getElem? (i := 843) (by decide +kernel), List.mem_of_getElem? (i := 844) (by decide +kernel)⟩
theorem lw_p21 : lw_okq (⟨"FilmWeeks$Reader", "takeNot", "(I)Z"⟩, 7) := ⟨⟨by decide +kernel, by decide +kernel⟩, List.mem_of_getElem? (i := 346) (by decide +kernel), List.mem_of_getElem? (i := 847) (by decide +kernel), List.mem_of_getElem? (i := 848) (by decide +kernel)⟩
theorem lw_p22 : lw_okq (⟨"FilmWeeks$Reader", "takeByte", "(C)Z"⟩, 7) := ⟨⟨by decide +kernel, by decide +kernel⟩, List.mem_of_getElem? (i := 346) (by decide +kernel), List.mem_of_getElem? (i := 856) (by decide +kernel), List.mem_of_getElem? (i := 857) (by decide +kernel)⟩
theorem lw_p23 : lw_okq (⟨"FilmWeeks$Reader", "takeAsked", "()Z"⟩, 7) := ⟨⟨by decide +kernel, by decide +kernel⟩, List.mem_of_getElem? (i := 346) (by decide +kernel), List.mem_of_getElem? (i := 860) (by decide +kernel), List.mem_of_getElem? (i := 861) (by decide +kernel)⟩
theorem lw_p24 : lw_okq (⟨"FilmWeeks$Reader", "takeNumber", "()Z"⟩, 7) := ⟨⟨by decide +kernel, by decide +kernel⟩, List.mem_of_getElem? (i := 346) (by decide +kernel), List.mem_of_getElem? (i := 867) (by decide +kernel), List.mem_of_getElem? (i := 868) (by decide +kernel)⟩
theorem lw_p25 : lw_okq (⟨"FilmWeeks$Reader", "takeManner", "()Z"⟩, 7) := ⟨⟨by decide +kernel, by decide +kernel⟩, List.mem_of_getElem? (i := 346) (by decide +kernel), List.mem_of_getElem? (i := 873) (by decide +kernel), List.mem_of_getElem? (i := 874) (by decide +kernel)⟩
theorem lw_p26 : lw_okq (⟨"FilmWeeks$Reader", "takePoints", "()Z"⟩, 7) := ⟨⟨by decide +kernel, by decide +kernel⟩, List.mem_of_getElem? (i := 346) (by decide +kernel), List.mem_of_getElem? (i := 879) (by decide +kernel), List.mem_of_getElem? (i := 880) (by decide +kernel)⟩
theorem lw_p27 : lw_okq (⟨"FilmWeeks$Reader", "takeTie", "()Z"⟩, 7) := ⟨⟨by decide +kernel, by decide +kernel⟩, List.mem_of_getElem? (i := 346) (by decide +kernel), List.mem_of_getElem? (i := 888) (by decide +kernel), List.mem_of_getElem? (i := 889) (by decide +kernel)⟩
theorem lw_p28 : lw_okq (⟨"FilmWeeks$Jury", "hasRow", "(IIII)Z"⟩, 9) := ⟨⟨by decide +kernel, by decide +kernel⟩, List.mem_of_getElem? (i := 276) (by decide +kernel), List.mem_of_getElem? (i := 916) (by decide +kernel), List.mem_of_getElem? (i := 917) (by decide +kernel)⟩
theorem lw_p29 : lw_okq (⟨"FilmWeeks$Award", "gather", "(I)V"⟩, 9) := ⟨⟨by decide +kernel, by decide +kernel⟩, List.mem_of_getElem? (i := 379) (by decide +kernel), List.mem_of_getElem? (i := 933) (by decide +kernel), List.mem_of_getElem? (i := 934) (by decide +kernel)⟩
theorem lw_p30 : lw_okq (⟨"FilmWeeks$Award", "decideByPoints", "()I"⟩, 9) := ⟨⟨by decide +kernel, by decide +kernel⟩, List.mem_of_getElem? (i := 379) (by decide +kernel), List.mem_of_getElem? (i := 938) (by decide +kernel), List.mem_of_getElem? (i := 939) (by decide +kernel)⟩
theorem lw_p31 : lw_okq (⟨"FilmWeeks$Award", "openRound", "(I)V"⟩, 9) := ⟨⟨by decide +kernel, by decide +kernel⟩, List.mem_of_getElem? (i := 379) (by decide +kernel), List.mem_of_getElem? (i := 942) (by decide +kernel), List.mem_of_getElem? (i := 943) (by decide +kernel)⟩
def lw_privs_2 : List (MethodName × Nat) := [(⟨"FilmWeeks$Worths", "tryAt", "(IIII)V"⟩, 13), (⟨"FilmWeeks$Reader", "advance", "()V"⟩, 7), (⟨"FilmWeeks$Reader", "takeWord", "(Ljava/lang/String;)Z"⟩, 7), (⟨"FilmWeeks$Reader", "takeCond", "(I)Z"⟩, 7), (⟨"FilmWeeks$Reader", "takeAnd", "(I)Z"⟩, 7), (⟨"FilmWeeks$Reader", "takeNot", "(I)Z"⟩, 7), (⟨"FilmWeeks$Reader", "takeByte", "(C)Z"⟩, 7), (⟨"FilmWeeks$Reader", "takeAsked", "()Z"⟩, 7), (⟨"FilmWeeks$Reader", "takeNumber", "()Z"⟩, 7), (⟨"FilmWeeks$Reader", "takeManner", "()Z"⟩, 7), (⟨"FilmWeeks$Reader", "takePoints", "()Z"⟩, 7), (⟨"FilmWeeks$Reader", "takeTie", "()Z"⟩, 7), (⟨"FilmWeeks$Jury", "hasRow", "(IIII)Z"⟩, 9), (⟨"FilmWeeks$Award", "gather", "(I)V"⟩, 9), (⟨"FilmWeeks$Award", "decideByPoints", "()I"⟩, 9), (⟨"FilmWeeks$Award", "openRound", "(I)V"⟩, 9)]
theorem lw_r2 : ∀ q ∈ lw_privs_2, lw_okq q := List.forall_mem_cons.mpr ⟨lw_p16, List.forall_mem_cons.mpr ⟨lw_p17, List.forall_mem_cons.mpr ⟨lw_p18, List.forall_mem_cons.mpr ⟨lw_p19, List.forall_mem_cons.mpr ⟨lw_p20, List.forall_mem_cons.mpr ⟨lw_p21, List.forall_mem_cons.mpr ⟨lw_p22, List.forall_mem_cons.mpr ⟨lw_p23, List.forall_mem_cons.mpr ⟨lw_p24, List.forall_mem_cons.mpr ⟨lw_p25, List.forall_mem_cons.mpr ⟨lw_p26, List.forall_mem_cons.mpr ⟨lw_p27, List.forall_mem_cons.mpr ⟨lw_p28, List.forall_mem_cons.mpr ⟨lw_p29, List.forall_mem_cons.mpr ⟨lw_p30, List.forall_mem_cons.mpr ⟨lw_p31, fun _ h => absurd h List.not_mem_nil⟩⟩⟩⟩⟩⟩⟩⟩⟩⟩⟩⟩⟩⟩⟩⟩
theorem lw_p32 : lw_okq (⟨"FilmWeeks$Award", "foremost", "(I)I"⟩, 9) := ⟨⟨by decide +kernel, by decide +kernel⟩, List.mem_of_getElem? (i := 379) (by decide +kernel), List.mem_of_getElem? (i := 950) (by decide +kernel), List.mem_of_getElem? (i := 951) (by decide +kernel)⟩
theorem lw_p33 : lw_okq (⟨"FilmWeeks$Award", "isAhead", "(III)Z"⟩, 9) := ⟨⟨by decide +kernel, by decide +kernel⟩, List.mem_of_getElem? (i := 379) (by decide +kernel), List.mem_of_getElem? (i := 954) (by decide +kernel), List.mem_of_getElem? (i := 955) (by decide +kernel)⟩
theorem lw_p34 : lw_okq (⟨"FilmWeeks$Award", "decideByRounds", "()I"⟩, 9) := ⟨⟨by decide +kernel, by decide +kernel⟩, List.mem_of_getElem? (i := 379) (by decide +kernel), List.mem_of_getElem? (i := 958) (by decide +kernel), List.mem_of_getElem? (i := 959) (by decide +kernel)⟩
theorem lw_p35 : lw_okq (⟨"FilmWeeks$Award", "giveFirsts", "(I)I"⟩, 9) := ⟨⟨by decide +kernel, by decide +kernel⟩, List.mem_of_getElem? (i := 379) (by decide +kernel), List.mem_of_getElem? (i := 962) (by decide +kernel), List.mem_of_getElem? (i := 963) (by decide +kernel)⟩
theorem lw_p36 : lw_okq (⟨"FilmWeeks$Award", "putOutHindmost", "(I)V"⟩, 9) := ⟨⟨by decide +kernel, by decide +kernel⟩, List.mem_of_getElem? (i := 379) (by decide +kernel), List.mem_of_getElem? (i := 966) (by decide +kernel), List.mem_of_getElem? (i := 967) (by decide +kernel)⟩
theorem lw_p37 : lw_okq (⟨"FilmWeeksModel", "told", "(I)I"⟩, 70) := ⟨⟨by decide +kernel, by decide +kernel⟩, List.mem_of_getElem? (i := 990) (by decide +kernel), List.mem_of_getElem? (i := 1218) (by decide +kernel), List.mem_of_getElem? (i := 1219) (by decide +kernel)⟩
theorem lw_p38 : lw_okq (⟨"FilmWeeksModel", "isFilm", "(I)Z"⟩, 70) := ⟨⟨by decide +kernel, by decide +kernel⟩, List.mem_of_getElem? (i := 990) (by decide +kernel), List.mem_of_getElem? (i := 1241) (by decide +kernel), List.mem_of_getElem? (i := 1242) (by decide +kernel)⟩
theorem lw_p39 : lw_okq (⟨"FilmWeeksModel", "isHall", "(I)Z"⟩, 70) := ⟨⟨by decide +kernel, by decide +kernel⟩, List.mem_of_getElem? (i := 990) (by decide +kernel), List.mem_of_getElem? (i := 1255) (by decide +kernel), List.mem_of_getElem? (i := 1256) (by decide +kernel)⟩
theorem lw_p40 : lw_okq (⟨"FilmWeeksModel", "whyOf", "(IIIII)I"⟩, 70) := ⟨⟨by decide +kernel, by decide +kernel⟩, List.mem_of_getElem? (i := 990) (by decide +kernel), List.mem_of_getElem? (i := 1259) (by decide +kernel), List.mem_of_getElem? (i := 1260) (by decide +kernel)⟩
theorem lw_p41 : lw_okq (⟨"FilmWeeksModel", "endOf", "(I)I"⟩, 70) := ⟨⟨by decide +kernel, by decide +kernel⟩, List.mem_of_getElem? (i := 990) (by decide +kernel), List.mem_of_getElem? (i := 1263) (by decide +kernel), List.mem_of_getElem? (i := 1264) (by decide +kernel)⟩
theorem lw_p42 : lw_okq (⟨"FilmWeeksModel", "isShowing", "(I)Z"⟩, 70) := ⟨⟨by decide +kernel, by decide +kernel⟩, List.mem_of_getElem? (i := 990) (by decide +kernel), List.mem_of_getElem? (i := 1275) (by decide +kernel), List.mem_of_getElem? (i := 1276) (by decide +kernel)⟩
theorem lw_p43 : lw_okq (⟨"FilmWeeksModel", "crowdOf", "(I)I"⟩, 70) := ⟨⟨by decide +kernel, by decide +kernel⟩, List.mem_of_getElem? (i := 990) (by decide +kernel), List.mem_of_getElem? (i := 1283) (by decide +kernel), List.mem_of_getElem? (i := 1284) (by decide +kernel)⟩
theorem lw_p44 : lw_okq (⟨"FilmWeeksModel", "worthOf", "(I)I"⟩, 70) := ⟨⟨by decide +kernel, by decide +kernel⟩, List.mem_of_getElem? (i := 990) (by decide +kernel), List.mem_of_getElem? (i := 1287) (by decide +kernel), List.mem_of_getElem? (i := 1288) (by decide +kernel)⟩
theorem lw_p45 : lw_okq (⟨"FilmWeeksModel", "findTrue", "()V"⟩, 70) := ⟨⟨by decide +kernel, by decide +kernel⟩, List.mem_of_getElem? (i := 990) (by decide +kernel), List.mem_of_getElem? (i := 1291) (by decide +kernel), List.mem_of_getElem? (i := 1292) (by decide +kernel)⟩
theorem lw_p46 : lw_okq (⟨"FilmWeeksModel", "nextTrue", "()I"⟩, 70) := ⟨⟨by decide +kernel, by decide +kernel⟩, List.mem_of_getElem? (i := 990) (by decide +kernel), List.mem_of_getElem? (i := 1295) (by decide +kernel), List.mem_of_getElem? (i := 1296) (by decide +kernel)⟩
theorem lw_p47 : lw_okq (⟨"FilmWeeksModel", "trueEnd", "(I)I"⟩, 70) := ⟨⟨by decide +kernel, by decide +kernel⟩, List.mem_of_getElem? (i := 990) (by decide +kernel), List.mem_of_getElem? (i := 1299) (by decide +kernel), List.mem_of_getElem? (i := 1300) (by decide +kernel)⟩
def lw_privs_3 : List (MethodName × Nat) := [(⟨"FilmWeeks$Award", "foremost", "(I)I"⟩, 9), (⟨"FilmWeeks$Award", "isAhead", "(III)Z"⟩, 9), (⟨"FilmWeeks$Award", "decideByRounds", "()I"⟩, 9), (⟨"FilmWeeks$Award", "giveFirsts", "(I)I"⟩, 9), (⟨"FilmWeeks$Award", "putOutHindmost", "(I)V"⟩, 9), (⟨"FilmWeeksModel", "told", "(I)I"⟩, 70), (⟨"FilmWeeksModel", "isFilm", "(I)Z"⟩, 70), (⟨"FilmWeeksModel", "isHall", "(I)Z"⟩, 70), (⟨"FilmWeeksModel", "whyOf", "(IIIII)I"⟩, 70), (⟨"FilmWeeksModel", "endOf", "(I)I"⟩, 70), (⟨"FilmWeeksModel", "isShowing", "(I)Z"⟩, 70), (⟨"FilmWeeksModel", "crowdOf", "(I)I"⟩, 70), (⟨"FilmWeeksModel", "worthOf", "(I)I"⟩, 70), (⟨"FilmWeeksModel", "findTrue", "()V"⟩, 70), (⟨"FilmWeeksModel", "nextTrue", "()I"⟩, 70), (⟨"FilmWeeksModel", "trueEnd", "(I)I"⟩, 70)]
theorem lw_r3 : ∀ q ∈ lw_privs_3, lw_okq q := List.forall_mem_cons.mpr ⟨lw_p32, List.forall_mem_cons.mpr ⟨lw_p33, List.forall_mem_cons.mpr ⟨lw_p34, List.forall_mem_cons.mpr ⟨lw_p35, List.forall_mem_cons.mpr ⟨lw_p36, List.forall_mem_cons.mpr ⟨lw_p37, List.forall_mem_cons.mpr ⟨lw_p38, List.forall_mem_cons.mpr ⟨lw_p39, List.forall_mem_cons.mpr ⟨lw_p40, List.forall_mem_cons.mpr ⟨lw_p41, List.forall_mem_cons.mpr ⟨lw_p42, List.forall_mem_cons.mpr ⟨lw_p43, List.forall_mem_cons.mpr ⟨lw_p44, List.forall_mem_cons.mpr ⟨lw_p45, List.forall_mem_cons.mpr ⟨lw_p46, List.forall_mem_cons.mpr ⟨lw_p47, fun _ h => absurd h List.not_mem_nil⟩⟩⟩⟩⟩⟩⟩⟩⟩⟩⟩⟩⟩⟩⟩⟩
theorem lw_p48 : lw_okq (⟨"FilmWeeksModel", "gridOf", "()I"⟩, 70) := ⟨⟨by decide +kernel, by decide +kernel⟩, List.mem_of_getElem? (i := 990) (by decide +kernel), List.mem_of_getElem? (i := 1312) (by decide +kernel), List.mem_of_getElem? (i := 1313) (by decide +kernel)⟩
theorem lw_p49 : lw_okq (⟨"FilmWeeksModel", "tryChange", "(III)V"⟩, 70) := ⟨⟨by decide +kernel, by decide +kernel⟩, List.mem_of_getElem? (i := 990) (by decide +kernel), List.mem_of_getElem? (i := 1324) (by decide +kernel), List.mem_of_getElem? (i := 1325) (by decide +kernel)⟩
theorem lw_p50 : lw_okq (⟨"FilmWeeksModel", "isJuror", "(I)Z"⟩, 70) := ⟨⟨by decide +kernel, by decide +kernel⟩, List.mem_of_getElem? (i := 990) (by decide +kernel), List.mem_of_getElem? (i := 1357) (by decide +kernel), List.mem_of_getElem? (i := 1358) (by decide +kernel)⟩
theorem lw_p51 : lw_okq (⟨"FilmWeeksModel", "placeOf", "(II)I"⟩, 70) := ⟨⟨by decide +kernel, by decide +kernel⟩, List.mem_of_getElem? (i := 990) (by decide +kernel), List.mem_of_getElem? (i := 1361) (by decide +kernel), List.mem_of_getElem? (i := 1362) (by decide +kernel)⟩
theorem lw_p52 : lw_okq (⟨"FilmWeeksModel", "four", "(I)V"⟩, 70) := ⟨⟨by decide +kernel, by decide +kernel⟩, List.mem_of_getElem? (i := 990) (by decide +kernel), List.mem_of_getElem? (i := 1378) (by decide +kernel), List.mem_of_getElem? (i := 1379) (by decide +kernel)⟩
theorem lw_p53 : lw_okq (⟨"FilmWeeksModel", "next", "()V"⟩, 70) := ⟨⟨by decide +kernel, by decide +kernel⟩, List.mem_of_getElem? (i := 990) (by decide +kernel), List.mem_of_getElem? (i := 1390) (by decide +kernel), List.mem_of_getElem? (i := 1391) (by decide +kernel)⟩
theorem lw_p54 : lw_okq (⟨"FilmWeeksModel", "readRules", "()V"⟩, 70) := ⟨⟨by decide +kernel, by decide +kernel⟩, List.mem_of_getElem? (i := 990) (by decide +kernel), List.mem_of_getElem? (i := 1404) (by decide +kernel), List.mem_of_getElem? (i := 1405) (by decide +kernel)⟩
theorem lw_p55 : lw_okq (⟨"FilmWeeksModel", "isWord", "(IIIIII)Z"⟩, 70) := ⟨⟨by decide +kernel, by decide +kernel⟩, List.mem_of_getElem? (i := 990) (by decide +kernel), List.mem_of_getElem? (i := 1408) (by decide +kernel), List.mem_of_getElem? (i := 1409) (by decide +kernel)⟩
theorem lw_p56 : lw_okq (⟨"FilmWeeksModel", "must", "(Z)V"⟩, 70) := ⟨⟨by decide +kernel, by decide +kernel⟩, List.mem_of_getElem? (i := 990) (by decide +kernel), List.mem_of_getElem? (i := 1415) (by decide +kernel), List.mem_of_getElem? (i := 1416) (by decide +kernel)⟩
theorem lw_p57 : lw_okq (⟨"FilmWeeksModel", "readCond", "()V"⟩, 70) := ⟨⟨by decide +kernel, by decide +kernel⟩, List.mem_of_getElem? (i := 990) (by decide +kernel), List.mem_of_getElem? (i := 1419) (by decide +kernel), List.mem_of_getElem? (i := 1420) (by decide +kernel)⟩
theorem lw_p58 : lw_okq (⟨"FilmWeeksModel", "isSign", "(I)Z"⟩, 70) := ⟨⟨by decide +kernel, by decide +kernel⟩, List.mem_of_getElem? (i := 990) (by decide +kernel), List.mem_of_getElem? (i := 1423) (by decide +kernel), List.mem_of_getElem? (i := 1424) (by decide +kernel)⟩
theorem lw_p59 : lw_okq (⟨"FilmWeeksModel", "readLeaf", "()V"⟩, 70) := ⟨⟨by decide +kernel, by decide +kernel⟩, List.mem_of_getElem? (i := 990) (by decide +kernel), List.mem_of_getElem? (i := 1427) (by decide +kernel), List.mem_of_getElem? (i := 1428) (by decide +kernel)⟩
theorem lw_p60 : lw_okq (⟨"FilmWeeksModel", "mark", "(I)V"⟩, 70) := ⟨⟨by decide +kernel, by decide +kernel⟩, List.mem_of_getElem? (i := 990) (by decide +kernel), List.mem_of_getElem? (i := 1431) (by decide +kernel), List.mem_of_getElem? (i := 1432) (by decide +kernel)⟩
theorem lw_p61 : lw_okq (⟨"FilmWeeksModel", "settle", "(I)V"⟩, 70) := ⟨⟨by decide +kernel, by decide +kernel⟩, List.mem_of_getElem? (i := 990) (by decide +kernel), List.mem_of_getElem? (i := 1435) (by decide +kernel), List.mem_of_getElem? (i := 1436) (by decide +kernel)⟩
theorem lw_p62 : lw_okq (⟨"FilmWeeksModel", "depthNow", "(Z)I"⟩, 70) := ⟨⟨by decide +kernel, by decide +kernel⟩, List.mem_of_getElem? (i := 990) (by decide +kernel), List.mem_of_getElem? (i := 1439) (by decide +kernel), List.mem_of_getElem? (i := 1440) (by decide +kernel)⟩
theorem lw_p63 : lw_okq (⟨"FilmWeeksModel", "countsFor", "(III)Z"⟩, 70) := ⟨⟨by decide +kernel, by decide +kernel⟩, List.mem_of_getElem? (i := 990) (by decide +kernel), List.mem_of_getElem? (i := 1451) (by decide +kernel), List.mem_of_getElem? (i := 1452) (by decide +kernel)⟩
def lw_privs_4 : List (MethodName × Nat) := [(⟨"FilmWeeksModel", "gridOf", "()I"⟩, 70), (⟨"FilmWeeksModel", "tryChange", "(III)V"⟩, 70), (⟨"FilmWeeksModel", "isJuror", "(I)Z"⟩, 70), (⟨"FilmWeeksModel", "placeOf", "(II)I"⟩, 70), (⟨"FilmWeeksModel", "four", "(I)V"⟩, 70), (⟨"FilmWeeksModel", "next", "()V"⟩, 70), (⟨"FilmWeeksModel", "readRules", "()V"⟩, 70), (⟨"FilmWeeksModel", "isWord", "(IIIIII)Z"⟩, 70), (⟨"FilmWeeksModel", "must", "(Z)V"⟩, 70), (⟨"FilmWeeksModel", "readCond", "()V"⟩, 70), (⟨"FilmWeeksModel", "isSign", "(I)Z"⟩, 70), (⟨"FilmWeeksModel", "readLeaf", "()V"⟩, 70), (⟨"FilmWeeksModel", "mark", "(I)V"⟩, 70), (⟨"FilmWeeksModel", "settle", "(I)V"⟩, 70), (⟨"FilmWeeksModel", "depthNow", "(Z)I"⟩, 70), (⟨"FilmWeeksModel", "countsFor", "(III)Z"⟩, 70)]
theorem lw_r4 : ∀ q ∈ lw_privs_4, lw_okq q := List.forall_mem_cons.mpr ⟨lw_p48, List.forall_mem_cons.mpr ⟨lw_p49, List.forall_mem_cons.mpr ⟨lw_p50, List.forall_mem_cons.mpr ⟨lw_p51, List.forall_mem_cons.mpr ⟨lw_p52, List.forall_mem_cons.mpr ⟨lw_p53, List.forall_mem_cons.mpr ⟨lw_p54, List.forall_mem_cons.mpr ⟨lw_p55, List.forall_mem_cons.mpr ⟨lw_p56, List.forall_mem_cons.mpr ⟨lw_p57, List.forall_mem_cons.mpr ⟨lw_p58, List.forall_mem_cons.mpr ⟨lw_p59, List.forall_mem_cons.mpr ⟨lw_p60, List.forall_mem_cons.mpr ⟨lw_p61, List.forall_mem_cons.mpr ⟨lw_p62, List.forall_mem_cons.mpr ⟨lw_p63, fun _ h => absurd h List.not_mem_nil⟩⟩⟩⟩⟩⟩⟩⟩⟩⟩⟩⟩⟩⟩⟩⟩
theorem lw_p64 : lw_okq (⟨"FilmWeeksModel", "holds", "(III)Z"⟩, 70) := ⟨⟨by decide +kernel, by decide +kernel⟩, List.mem_of_getElem? (i := 990) (by decide +kernel), List.mem_of_getElem? (i := 1455) (by decide +kernel), List.mem_of_getElem? (i := 1456) (by decide +kernel)⟩
theorem lw_p65 : lw_okq (⟨"FilmWeeksModel", "isRow", "(IIII)Z"⟩, 70) := ⟨⟨by decide +kernel, by decide +kernel⟩, List.mem_of_getElem? (i := 990) (by decide +kernel), List.mem_of_getElem? (i := 1459) (by decide +kernel), List.mem_of_getElem? (i := 1460) (by decide +kernel)⟩
theorem lw_p66 : lw_okq (⟨"FilmWeeksModel", "findVotes", "(I)V"⟩, 70) := ⟨⟨by decide +kernel, by decide +kernel⟩, List.mem_of_getElem? (i := 990) (by decide +kernel), List.mem_of_getElem? (i := 1467) (by decide +kernel), List.mem_of_getElem? (i := 1468) (by decide +kernel)⟩
theorem lw_p67 : lw_okq (⟨"FilmWeeksModel", "byPoints", "()I"⟩, 70) := ⟨⟨by decide +kernel, by decide +kernel⟩, List.mem_of_getElem? (i := 990) (by decide +kernel), List.mem_of_getElem? (i := 1471) (by decide +kernel), List.mem_of_getElem? (i := 1472) (by decide +kernel)⟩
theorem lw_p68 : lw_okq (⟨"FilmWeeksModel", "openRound", "()V"⟩, 70) := ⟨⟨by decide +kernel, by decide +kernel⟩, List.mem_of_getElem? (i := 990) (by decide +kernel), List.mem_of_getElem? (i := 1475) (by decide +kernel), List.mem_of_getElem? (i := 1476) (by decide +kernel)⟩
theorem lw_p69 : lw_okq (⟨"FilmWeeksModel", "extreme", "(IZ)I"⟩, 70) := ⟨⟨by decide +kernel, by decide +kernel⟩, List.mem_of_getElem? (i := 990) (by decide +kernel), List.mem_of_getElem? (i := 1479) (by decide +kernel), List.mem_of_getElem? (i := 1480) (by decide +kernel)⟩
theorem lw_p70 : lw_okq (⟨"FilmWeeksModel", "isAhead", "(II)Z"⟩, 70) := ⟨⟨by decide +kernel, by decide +kernel⟩, List.mem_of_getElem? (i := 990) (by decide +kernel), List.mem_of_getElem? (i := 1483) (by decide +kernel), List.mem_of_getElem? (i := 1484) (by decide +kernel)⟩
theorem lw_p71 : lw_okq (⟨"FilmWeeksModel", "byRounds", "()I"⟩, 70) := ⟨⟨by decide +kernel, by decide +kernel⟩, List.mem_of_getElem? (i := 990) (by decide +kernel), List.mem_of_getElem? (i := 1487) (by decide +kernel), List.mem_of_getElem? (i := 1488) (by decide +kernel)⟩
def lw_privs_5 : List (MethodName × Nat) := [(⟨"FilmWeeksModel", "holds", "(III)Z"⟩, 70), (⟨"FilmWeeksModel", "isRow", "(IIII)Z"⟩, 70), (⟨"FilmWeeksModel", "findVotes", "(I)V"⟩, 70), (⟨"FilmWeeksModel", "byPoints", "()I"⟩, 70), (⟨"FilmWeeksModel", "openRound", "()V"⟩, 70), (⟨"FilmWeeksModel", "extreme", "(IZ)I"⟩, 70), (⟨"FilmWeeksModel", "isAhead", "(II)Z"⟩, 70), (⟨"FilmWeeksModel", "byRounds", "()I"⟩, 70)]
theorem lw_r5 : ∀ q ∈ lw_privs_5, lw_okq q := List.forall_mem_cons.mpr ⟨lw_p64, List.forall_mem_cons.mpr ⟨lw_p65, List.forall_mem_cons.mpr ⟨lw_p66, List.forall_mem_cons.mpr ⟨lw_p67, List.forall_mem_cons.mpr ⟨lw_p68, List.forall_mem_cons.mpr ⟨lw_p69, List.forall_mem_cons.mpr ⟨lw_p70, List.forall_mem_cons.mpr ⟨lw_p71, fun _ h => absurd h List.not_mem_nil⟩⟩⟩⟩⟩⟩⟩⟩
def lw_privs : List (MethodName × Nat) := lw_privs_1 ++ (lw_privs_2 ++ (lw_privs_3 ++ (lw_privs_4 ++ (lw_privs_5))))
def lw_tbl : List Cond := k2_sels lw_privs ++ tables_1
theorem lw_privs_ok : ∀ q ∈ lw_privs, lw_okq q := by
  show ∀ q ∈ lw_privs_1 ++ (lw_privs_2 ++ (lw_privs_3 ++ (lw_privs_4 ++ (lw_privs_5)))), lw_okq q
  exact List.forall_mem_append.mpr ⟨lw_r1, List.forall_mem_append.mpr ⟨lw_r2, List.forall_mem_append.mpr ⟨lw_r3, List.forall_mem_append.mpr ⟨lw_r4, lw_r5⟩⟩⟩⟩
end
section
def RX0 : String := "FilmWeeks$Award"
def TX0 : u_T := fun k => match k with
  | 0 => ("FilmWeeks$Award", "films", "LFilmWeeks$Films;", true)
  | 1 => ("FilmWeeks$Award", "jury", "LFilmWeeks$Jury;", true)
  | 2 => ("FilmWeeks$Award", "rules", "LFilmWeeks$Rules;", true)
  | 3 => ("FilmWeeks$Award", "counted", "[I", true)
  | 4 => ("FilmWeeks$Award", "countedOf", "[I", true)
  | 5 => ("FilmWeeks$Award", "firsts", "[I", true)
  | 6 => ("FilmWeeks$Award", "running", "[Z", true)
  | 7 => ("FilmWeeks$Award", "sums", "[I", true)
  | _ => ("FilmWeeks$Award", "rounds", "I", false)
def tyX0 : Nat → FieldType := fun k => match k with
  | 0 => .object "FilmWeeks$Films"
  | 1 => .object "FilmWeeks$Jury"
  | 2 => .object "FilmWeeks$Rules"
  | 3 => .array .int
  | 4 => .array .int
  | 5 => .array .int
  | 6 => .array .boolean
  | 7 => .array .int
  | _ => .int
abbrev wsX00 : List Cond := u_ws RX0 TX0 9
theorem nmX0 : ∀ a, a < 9 → ∀ b, b < 9 → a ≠ b → (TX0 a).2.1 ≠ (TX0 b).2.1 := by decide +kernel
theorem tyX0_ok : ∀ k, k < 9 → parseFieldDescriptor (TX0 k).2.2.1 = some (tyX0 k) := by decide +kernel
abbrev cX0_init : ByteArray := prog_2_method_1_code
def yX0_init : MethodName := ⟨RX0, "<init>", "(LFilmWeeks$Films;LFilmWeeks$Jury;LFilmWeeks$Rules;)V"⟩
abbrev cX0_sumIn : ByteArray := prog_2_method_2_code
def yX0_sumIn : MethodName := ⟨RX0, "sumIn", "(II)I"⟩
abbrev cX0_decide : ByteArray := prog_2_method_3_code
def yX0_decide : MethodName := ⟨RX0, "decide", "(I)I"⟩
abbrev cX0_gather : ByteArray := prog_2_method_4_code
def yX0_gather : MethodName := ⟨RX0, "gather", "(I)V"⟩
abbrev cX0_decideByPoints : ByteArray := prog_2_method_5_code
def yX0_decideByPoints : MethodName := ⟨RX0, "decideByPoints", "()I"⟩
abbrev cX0_decideByRounds : ByteArray := prog_2_method_6_code
def yX0_decideByRounds : MethodName := ⟨RX0, "decideByRounds", "()I"⟩
abbrev cX0_openRound : ByteArray := prog_2_method_7_code
def yX0_openRound : MethodName := ⟨RX0, "openRound", "(I)V"⟩
abbrev cX0_giveFirsts : ByteArray := prog_2_method_8_code
def yX0_giveFirsts : MethodName := ⟨RX0, "giveFirsts", "(I)I"⟩
abbrev cX0_foremost : ByteArray := prog_2_method_9_code
def yX0_foremost : MethodName := ⟨RX0, "foremost", "(I)I"⟩
abbrev cX0_putOutHindmost : ByteArray := prog_2_method_10_code
def yX0_putOutHindmost : MethodName := ⟨RX0, "putOutHindmost", "(I)V"⟩
abbrev cX0_isAhead : ByteArray := prog_2_method_11_code
def yX0_isAhead : MethodName := ⟨RX0, "isAhead", "(III)Z"⟩
def RX1 : String := "FilmWeeks$Bars"
def TX1 : u_T := fun k => match k with
  | 0 => ("FilmWeeks$Bars", "halls", "LFilmWeeks$Halls;", true)
  | 1 => ("FilmWeeks$Bars", "films", "LFilmWeeks$Films;", true)
  | _ => ("FilmWeeks$Bars", "showings", "LFilmWeeks$Showings;", true)
def tyX1 : Nat → FieldType := fun k => match k with
  | 0 => .object "FilmWeeks$Halls"
  | 1 => .object "FilmWeeks$Films"
  | _ => .object "FilmWeeks$Showings"
abbrev wsX10 : List Cond := u_ws RX1 TX1 3
theorem nmX1 : ∀ a, a < 3 → ∀ b, b < 3 → a ≠ b → (TX1 a).2.1 ≠ (TX1 b).2.1 := by decide +kernel
theorem tyX1_ok : ∀ k, k < 3 → parseFieldDescriptor (TX1 k).2.2.1 = some (tyX1 k) := by decide +kernel
abbrev cX1_init : ByteArray := prog_3_method_1_code
def yX1_init : MethodName := ⟨RX1, "<init>", "(LFilmWeeks$Halls;LFilmWeeks$Films;LFilmWeeks$Showings;)V"⟩
abbrev cX1_reason : ByteArray := prog_3_method_2_code
def yX1_reason : MethodName := ⟨RX1, "reason", "(IIIII)I"⟩
abbrev cX1_isHallTaken : ByteArray := prog_3_method_3_code
def yX1_isHallTaken : MethodName := ⟨RX1, "isHallTaken", "(IIII)Z"⟩
abbrev cX1_isPrintAway : ByteArray := prog_3_method_4_code
def yX1_isPrintAway : MethodName := ⟨RX1, "isPrintAway", "(IIIII)Z"⟩
abbrev cX1_isLateHour : ByteArray := prog_3_method_5_code
def yX1_isLateHour : MethodName := ⟨RX1, "isLateHour", "(I)Z"⟩
abbrev cX1_manyOf : ByteArray := prog_3_method_6_code
def yX1_manyOf : MethodName := ⟨RX1, "manyOf", "(II)I"⟩
abbrev cX1_isBesideBarred : ByteArray := prog_3_method_7_code
def yX1_isBesideBarred : MethodName := ⟨RX1, "isBesideBarred", "(IIIII)Z"⟩
def RX2 : String := "FilmWeeks$Films"
def TX2 : u_T := fun k => match k with
  | 0 => ("FilmWeeks$Films", "minutes", "[I", true)
  | 1 => ("FilmWeeks$Films", "format", "[I", true)
  | 2 => ("FilmWeeks$Films", "fame", "[I", true)
  | 3 => ("FilmWeeks$Films", "guestFrom", "[I", true)
  | 4 => ("FilmWeeks$Films", "guestTo", "[I", true)
  | 5 => ("FilmWeeks$Films", "notBefore", "[I", true)
  | 6 => ("FilmWeeks$Films", "atMost", "[I", true)
  | 7 => ("FilmWeeks$Films", "notBeside", "[I", true)
  | _ => ("FilmWeeks$Films", "many", "I", false)
def tyX2 : Nat → FieldType := fun k => match k with
  | 0 => .array .int
  | 1 => .array .int
  | 2 => .array .int
  | 3 => .array .int
  | 4 => .array .int
  | 5 => .array .int
  | 6 => .array .int
  | 7 => .array .int
  | _ => .int
abbrev wsX20 : List Cond := u_ws RX2 TX2 9
theorem nmX2 : ∀ a, a < 9 → ∀ b, b < 9 → a ≠ b → (TX2 a).2.1 ≠ (TX2 b).2.1 := by decide +kernel
theorem tyX2_ok : ∀ k, k < 9 → parseFieldDescriptor (TX2 k).2.2.1 = some (tyX2 k) := by decide +kernel
abbrev cX2_init : ByteArray := prog_4_method_1_code
def yX2_init : MethodName := ⟨RX2, "<init>", "()V"⟩
abbrev cX2_has : ByteArray := prog_4_method_2_code
def yX2_has : MethodName := ⟨RX2, "has", "(I)Z"⟩
abbrev cX2_add : ByteArray := prog_4_method_3_code
def yX2_add : MethodName := ⟨RX2, "add", "(III)I"⟩
abbrev cX2_setGuest : ByteArray := prog_4_method_4_code
def yX2_setGuest : MethodName := ⟨RX2, "setGuest", "(III)V"⟩
abbrev cX2_setBars : ByteArray := prog_4_method_5_code
def yX2_setBars : MethodName := ⟨RX2, "setBars", "(IIII)V"⟩
abbrev cX2_guestStays : ByteArray := prog_4_method_6_code
def yX2_guestStays : MethodName := ⟨RX2, "guestStays", "(III)Z"⟩
abbrev cX2_isBarredAtMost : ByteArray := prog_4_method_7_code
def yX2_isBarredAtMost : MethodName := ⟨RX2, "isBarredAtMost", "(I)Z"⟩
abbrev cX2_barOneAnother : ByteArray := prog_4_method_8_code
def yX2_barOneAnother : MethodName := ⟨RX2, "barOneAnother", "(II)Z"⟩
def RX3 : String := "FilmWeeks$Halls"
def TX3 : u_T := fun k => match k with
  | 0 => ("FilmWeeks$Halls", "town", "[I", true)
  | 1 => ("FilmWeeks$Halls", "seats", "[I", true)
  | 2 => ("FilmWeeks$Halls", "clearing", "[I", true)
  | 3 => ("FilmWeeks$Halls", "formats", "[I", true)
  | 4 => ("FilmWeeks$Halls", "ways", "[I", true)
  | _ => ("FilmWeeks$Halls", "many", "I", false)
def tyX3 : Nat → FieldType := fun k => match k with
  | 0 => .array .int
  | 1 => .array .int
  | 2 => .array .int
  | 3 => .array .int
  | 4 => .array .int
  | _ => .int
abbrev wsX30 : List Cond := u_ws RX3 TX3 6
theorem nmX3 : ∀ a, a < 6 → ∀ b, b < 6 → a ≠ b → (TX3 a).2.1 ≠ (TX3 b).2.1 := by decide +kernel
theorem tyX3_ok : ∀ k, k < 6 → parseFieldDescriptor (TX3 k).2.2.1 = some (tyX3 k) := by decide +kernel
abbrev cX3_init : ByteArray := prog_5_method_1_code
def yX3_init : MethodName := ⟨RX3, "<init>", "()V"⟩
abbrev cX3_has : ByteArray := prog_5_method_2_code
def yX3_has : MethodName := ⟨RX3, "has", "(I)Z"⟩
abbrev cX3_add : ByteArray := prog_5_method_3_code
def yX3_add : MethodName := ⟨RX3, "add", "(IIII)I"⟩
abbrev cX3_setWay : ByteArray := prog_5_method_4_code
def yX3_setWay : MethodName := ⟨RX3, "setWay", "(III)V"⟩
abbrev cX3_wayBetween : ByteArray := prog_5_method_5_code
def yX3_wayBetween : MethodName := ⟨RX3, "wayBetween", "(II)I"⟩
abbrev cX3_inOneTown : ByteArray := prog_5_method_6_code
def yX3_inOneTown : MethodName := ⟨RX3, "inOneTown", "(II)Z"⟩
def RX4 : String := "FilmWeeks$Jury"
def TX4 : u_T := fun k => match k with
  | 0 => ("FilmWeeks$Jury", "age", "[I", true)
  | 1 => ("FilmWeeks$Jury", "votesOf", "[I", true)
  | 2 => ("FilmWeeks$Jury", "votes", "[I", true)
  | 3 => ("FilmWeeks$Jury", "rowSort", "[I", true)
  | 4 => ("FilmWeeks$Jury", "rowJuror", "[I", true)
  | 5 => ("FilmWeeks$Jury", "rowFilm", "[I", true)
  | 6 => ("FilmWeeks$Jury", "rowKnown", "[I", true)
  | 7 => ("FilmWeeks$Jury", "many", "I", false)
  | _ => ("FilmWeeks$Jury", "rows", "I", false)
def tyX4 : Nat → FieldType := fun k => match k with
  | 0 => .array .int
  | 1 => .array .int
  | 2 => .array .int
  | 3 => .array .int
  | 4 => .array .int
  | 5 => .array .int
  | 6 => .array .int
  | 7 => .int
  | _ => .int
abbrev wsX40 : List Cond := u_ws RX4 TX4 9
theorem nmX4 : ∀ a, a < 9 → ∀ b, b < 9 → a ≠ b → (TX4 a).2.1 ≠ (TX4 b).2.1 := by decide +kernel
theorem tyX4_ok : ∀ k, k < 9 → parseFieldDescriptor (TX4 k).2.2.1 = some (tyX4 k) := by decide +kernel
abbrev cX4_init : ByteArray := prog_6_method_1_code
def yX4_init : MethodName := ⟨RX4, "<init>", "()V"⟩
abbrev cX4_has : ByteArray := prog_6_method_2_code
def yX4_has : MethodName := ⟨RX4, "has", "(I)Z"⟩
abbrev cX4_add : ByteArray := prog_6_method_3_code
def yX4_add : MethodName := ⟨RX4, "add", "(I)I"⟩
abbrev cX4_addVote : ByteArray := prog_6_method_4_code
def yX4_addVote : MethodName := ⟨RX4, "addVote", "(II)I"⟩
abbrev cX4_votesFor : ByteArray := prog_6_method_5_code
def yX4_votesFor : MethodName := ⟨RX4, "votesFor", "(II)Z"⟩
abbrev cX4_addRow : ByteArray := prog_6_method_6_code
def yX4_addRow : MethodName := ⟨RX4, "addRow", "(IIII)I"⟩
abbrev cX4_passes : ByteArray := prog_6_method_7_code
def yX4_passes : MethodName := ⟨RX4, "passes", "(LFilmWeeks$Rules;III)Z"⟩
abbrev cX4_hasRow : ByteArray := prog_6_method_8_code
def yX4_hasRow : MethodName := ⟨RX4, "hasRow", "(IIII)Z"⟩
def RX5 : String := "FilmWeeks$Lateness"
def TX5 : u_T := fun k => match k with
  | 0 => ("FilmWeeks$Lateness", "halls", "LFilmWeeks$Halls;", true)
  | 1 => ("FilmWeeks$Lateness", "films", "LFilmWeeks$Films;", true)
  | 2 => ("FilmWeeks$Lateness", "showings", "LFilmWeeks$Showings;", true)
  | 3 => ("FilmWeeks$Lateness", "order", "[I", true)
  | 4 => ("FilmWeeks$Lateness", "trueBegin", "[I", true)
  | 5 => ("FilmWeeks$Lateness", "trueEnd", "[I", true)
  | 6 => ("FilmWeeks$Lateness", "doorsLet", "I", false)
  | 7 => ("FilmWeeks$Lateness", "inside", "I", false)
  | _ => ("FilmWeeks$Lateness", "outside", "I", false)
def tyX5 : Nat → FieldType := fun k => match k with
  | 0 => .object "FilmWeeks$Halls"
  | 1 => .object "FilmWeeks$Films"
  | 2 => .object "FilmWeeks$Showings"
  | 3 => .array .int
  | 4 => .array .int
  | 5 => .array .int
  | 6 => .int
  | 7 => .int
  | _ => .int
abbrev wsX50 : List Cond := u_ws RX5 TX5 9
theorem nmX5 : ∀ a, a < 9 → ∀ b, b < 9 → a ≠ b → (TX5 a).2.1 ≠ (TX5 b).2.1 := by decide +kernel
theorem tyX5_ok : ∀ k, k < 9 → parseFieldDescriptor (TX5 k).2.2.1 = some (tyX5 k) := by decide +kernel
abbrev cX5_init : ByteArray := prog_7_method_1_code
def yX5_init : MethodName := ⟨RX5, "<init>", "(LFilmWeeks$Halls;LFilmWeeks$Films;LFilmWeeks$Showings;)V"⟩
abbrev cX5_reckon : ByteArray := prog_7_method_2_code
def yX5_reckon : MethodName := ⟨RX5, "reckon", "()V"⟩
abbrev cX5_sortByBegin : ByteArray := prog_7_method_3_code
def yX5_sortByBegin : MethodName := ⟨RX5, "sortByBegin", "()I"⟩
abbrev cX5_freeBehind : ByteArray := prog_7_method_4_code
def yX5_freeBehind : MethodName := ⟨RX5, "freeBehind", "(II)I"⟩
abbrev cX5_step : ByteArray := prog_7_method_5_code
def yX5_step : MethodName := ⟨RX5, "step", "(II)V"⟩
def RX6 : String := "FilmWeeks$Reader"
def TX6 : u_T := fun k => match k with
  | 0 => ("FilmWeeks$Reader", "tape", "[I", true)
  | 1 => ("FilmWeeks$Reader", "draft", "LFilmWeeks$Rules;", true)
  | 2 => ("FilmWeeks$Reader", "length", "I", false)
  | 3 => ("FilmWeeks$Reader", "faultAt", "I", false)
  | 4 => ("FilmWeeks$Reader", "at", "I", false)
  | 5 => ("FilmWeeks$Reader", "next", "I", false)
  | _ => ("FilmWeeks$Reader", "number", "I", false)
def tyX6 : Nat → FieldType := fun k => match k with
  | 0 => .array .int
  | 1 => .object "FilmWeeks$Rules"
  | 2 => .int
  | 3 => .int
  | 4 => .int
  | 5 => .int
  | _ => .int
abbrev wsX60 : List Cond := u_ws RX6 TX6 7
theorem nmX6 : ∀ a, a < 7 → ∀ b, b < 7 → a ≠ b → (TX6 a).2.1 ≠ (TX6 b).2.1 := by decide +kernel
theorem tyX6_ok : ∀ k, k < 7 → parseFieldDescriptor (TX6 k).2.2.1 = some (tyX6 k) := by decide +kernel
abbrev cX6_init : ByteArray := prog_8_method_1_code
def yX6_init : MethodName := ⟨RX6, "<init>", "()V"⟩
abbrev cX6_hasRoom : ByteArray := prog_8_method_2_code
def yX6_hasRoom : MethodName := ⟨RX6, "hasRoom", "(I)Z"⟩
abbrev cX6_append : ByteArray := prog_8_method_3_code
def yX6_append : MethodName := ⟨RX6, "append", "(I)V"⟩
abbrev cX6_read : ByteArray := prog_8_method_4_code
def yX6_read : MethodName := ⟨RX6, "read", "()Z"⟩
abbrev cX6_takeManner : ByteArray := prog_8_method_5_code
def yX6_takeManner : MethodName := ⟨RX6, "takeManner", "()Z"⟩
abbrev cX6_takePoints : ByteArray := prog_8_method_6_code
def yX6_takePoints : MethodName := ⟨RX6, "takePoints", "()Z"⟩
abbrev cX6_takeTie : ByteArray := prog_8_method_7_code
def yX6_takeTie : MethodName := ⟨RX6, "takeTie", "()Z"⟩
abbrev cX6_takeCond : ByteArray := prog_8_method_8_code
def yX6_takeCond : MethodName := ⟨RX6, "takeCond", "(I)Z"⟩
abbrev cX6_takeAnd : ByteArray := prog_8_method_9_code
def yX6_takeAnd : MethodName := ⟨RX6, "takeAnd", "(I)Z"⟩
abbrev cX6_takeNot : ByteArray := prog_8_method_10_code
def yX6_takeNot : MethodName := ⟨RX6, "takeNot", "(I)Z"⟩
abbrev cX6_takeAsked : ByteArray := prog_8_method_11_code
def yX6_takeAsked : MethodName := ⟨RX6, "takeAsked", "()Z"⟩
abbrev cX6_takeNumber : ByteArray := prog_8_method_12_code
def yX6_takeNumber : MethodName := ⟨RX6, "takeNumber", "()Z"⟩
abbrev cX6_takeByte : ByteArray := prog_8_method_13_code
def yX6_takeByte : MethodName := ⟨RX6, "takeByte", "(C)Z"⟩
abbrev cX6_takeWord : ByteArray := prog_8_method_14_code
def yX6_takeWord : MethodName := ⟨RX6, "takeWord", "(Ljava/lang/String;)Z"⟩
abbrev cX6_advance : ByteArray := prog_8_method_15_code
def yX6_advance : MethodName := ⟨RX6, "advance", "()V"⟩
abbrev cX6_isLetter : ByteArray := prog_8_method_16_code
def yX6_isLetter : MethodName := ⟨RX6, "isLetter", "(I)Z"⟩
abbrev cX6_isDigit : ByteArray := prog_8_method_17_code
def yX6_isDigit : MethodName := ⟨RX6, "isDigit", "(I)Z"⟩
def RX7 : String := "FilmWeeks$Rules"
def TX7 : u_T := fun k => match k with
  | 0 => ("FilmWeeks$Rules", "steps", "[I", true)
  | 1 => ("FilmWeeks$Rules", "points", "[I", true)
  | 2 => ("FilmWeeks$Rules", "stand", "Z", false)
  | 3 => ("FilmWeeks$Rules", "manySteps", "I", false)
  | 4 => ("FilmWeeks$Rules", "numbers", "I", false)
  | _ => ("FilmWeeks$Rules", "tie", "I", false)
def tyX7 : Nat → FieldType := fun k => match k with
  | 0 => .array .int
  | 1 => .array .int
  | 2 => .boolean
  | 3 => .int
  | 4 => .int
  | _ => .int
abbrev wsX70 : List Cond := u_ws RX7 TX7 6
theorem nmX7 : ∀ a, a < 6 → ∀ b, b < 6 → a ≠ b → (TX7 a).2.1 ≠ (TX7 b).2.1 := by decide +kernel
theorem tyX7_ok : ∀ k, k < 6 → parseFieldDescriptor (TX7 k).2.2.1 = some (tyX7 k) := by decide +kernel
abbrev cX7_init : ByteArray := prog_9_method_1_code
def yX7_init : MethodName := ⟨RX7, "<init>", "()V"⟩
abbrev cX7_empty : ByteArray := prog_9_method_2_code
def yX7_empty : MethodName := ⟨RX7, "empty", "()V"⟩
abbrev cX7_addStep : ByteArray := prog_9_method_3_code
def yX7_addStep : MethodName := ⟨RX7, "addStep", "(I)V"⟩
abbrev cX7_addNumber : ByteArray := prog_9_method_4_code
def yX7_addNumber : MethodName := ⟨RX7, "addNumber", "(I)Z"⟩
abbrev cX7_become : ByteArray := prog_9_method_5_code
def yX7_become : MethodName := ⟨RX7, "become", "(LFilmWeeks$Rules;)V"⟩
abbrev cX7_pointsAt : ByteArray := prog_9_method_6_code
def yX7_pointsAt : MethodName := ⟨RX7, "pointsAt", "(I)I"⟩
abbrev cX7_holds : ByteArray := prog_9_method_7_code
def yX7_holds : MethodName := ⟨RX7, "holds", "(ZZI)Z"⟩
def RX8 : String := "FilmWeeks$Showings"
def TX8 : u_T := fun k => match k with
  | 0 => ("FilmWeeks$Showings", "film", "[I", true)
  | 1 => ("FilmWeeks$Showings", "hall", "[I", true)
  | 2 => ("FilmWeeks$Showings", "begin", "[I", true)
  | 3 => ("FilmWeeks$Showings", "ending", "[I", true)
  | 4 => ("FilmWeeks$Showings", "sort", "[I", true)
  | 5 => ("FilmWeeks$Showings", "delays", "[I", true)
  | 6 => ("FilmWeeks$Showings", "there", "[Z", true)
  | 7 => ("FilmWeeks$Showings", "comers", "[I", true)
  | _ => ("FilmWeeks$Showings", "ever", "I", false)
def tyX8 : Nat → FieldType := fun k => match k with
  | 0 => .array .int
  | 1 => .array .int
  | 2 => .array .int
  | 3 => .array .int
  | 4 => .array .int
  | 5 => .array .int
  | 6 => .array .boolean
  | 7 => .array .int
  | _ => .int
abbrev wsX80 : List Cond := u_ws RX8 TX8 9
theorem nmX8 : ∀ a, a < 9 → ∀ b, b < 9 → a ≠ b → (TX8 a).2.1 ≠ (TX8 b).2.1 := by decide +kernel
theorem tyX8_ok : ∀ k, k < 9 → parseFieldDescriptor (TX8 k).2.2.1 = some (tyX8 k) := by decide +kernel
abbrev cX8_init : ByteArray := prog_10_method_1_code
def yX8_init : MethodName := ⟨RX8, "<init>", "()V"⟩
abbrev cX8_has : ByteArray := prog_10_method_2_code
def yX8_has : MethodName := ⟨RX8, "has", "(I)Z"⟩
abbrev cX8_add : ByteArray := prog_10_method_3_code
def yX8_add : MethodName := ⟨RX8, "add", "(IIIII)I"⟩
abbrev cX8_move : ByteArray := prog_10_method_4_code
def yX8_move : MethodName := ⟨RX8, "move", "(III)V"⟩
abbrev cX8_runsWithin : ByteArray := prog_10_method_5_code
def yX8_runsWithin : MethodName := ⟨RX8, "runsWithin", "(III)Z"⟩
abbrev cX8_manyThere : ByteArray := prog_10_method_6_code
def yX8_manyThere : MethodName := ⟨RX8, "manyThere", "()I"⟩
def RX9 : String := "FilmWeeks$Worths"
def TX9 : u_T := fun k => match k with
  | 0 => ("FilmWeeks$Worths", "halls", "LFilmWeeks$Halls;", true)
  | 1 => ("FilmWeeks$Worths", "films", "LFilmWeeks$Films;", true)
  | 2 => ("FilmWeeks$Worths", "showings", "LFilmWeeks$Showings;", true)
  | 3 => ("FilmWeeks$Worths", "bars", "LFilmWeeks$Bars;", true)
  | 4 => ("FilmWeeks$Worths", "parts", "[I", true)
  | 5 => ("FilmWeeks$Worths", "hourList", "[I", true)
  | 6 => ("FilmWeeks$Worths", "beside", "[I", true)
  | 7 => ("FilmWeeks$Worths", "besideWithout", "[I", true)
  | 8 => ("FilmWeeks$Worths", "hours", "I", false)
  | 9 => ("FilmWeeks$Worths", "bestGrid", "I", false)
  | 10 => ("FilmWeeks$Worths", "bestShowing", "I", false)
  | 11 => ("FilmWeeks$Worths", "bestHall", "I", false)
  | _ => ("FilmWeeks$Worths", "bestBegin", "I", false)
def tyX9 : Nat → FieldType := fun k => match k with
  | 0 => .object "FilmWeeks$Halls"
  | 1 => .object "FilmWeeks$Films"
  | 2 => .object "FilmWeeks$Showings"
  | 3 => .object "FilmWeeks$Bars"
  | 4 => .array .int
  | 5 => .array .int
  | 6 => .array .int
  | 7 => .array .int
  | 8 => .int
  | 9 => .int
  | 10 => .int
  | 11 => .int
  | _ => .int
abbrev wsX90 : List Cond := u_ws RX9 TX9 13
theorem nmX9 : ∀ a, a < 13 → ∀ b, b < 13 → a ≠ b → (TX9 a).2.1 ≠ (TX9 b).2.1 := by decide +kernel
theorem tyX9_ok : ∀ k, k < 13 → parseFieldDescriptor (TX9 k).2.2.1 = some (tyX9 k) := by decide +kernel
abbrev cX9_init : ByteArray := prog_11_method_1_code
def yX9_init : MethodName := ⟨RX9, "<init>", "(LFilmWeeks$Halls;LFilmWeeks$Films;LFilmWeeks$Showings;LFilmWeeks$Bars;)V"⟩
abbrev cX9_addHour : ByteArray := prog_11_method_2_code
def yX9_addHour : MethodName := ⟨RX9, "addHour", "(I)I"⟩
abbrev cX9_crowdOf : ByteArray := prog_11_method_3_code
def yX9_crowdOf : MethodName := ⟨RX9, "crowdOf", "(I)I"⟩
abbrev cX9_worthOf : ByteArray := prog_11_method_4_code
def yX9_worthOf : MethodName := ⟨RX9, "worthOf", "(I)I"⟩
abbrev cX9_sum : ByteArray := prog_11_method_5_code
def yX9_sum : MethodName := ⟨RX9, "sum", "()I"⟩
abbrev cX9_improve : ByteArray := prog_11_method_6_code
def yX9_improve : MethodName := ⟨RX9, "improve", "()I"⟩
abbrev cX9_findBestChange : ByteArray := prog_11_method_7_code
def yX9_findBestChange : MethodName := ⟨RX9, "findBestChange", "()Z"⟩
abbrev cX9_countBeside : ByteArray := prog_11_method_8_code
def yX9_countBeside : MethodName := ⟨RX9, "countBeside", "()V"⟩
abbrev cX9_gridWithout : ByteArray := prog_11_method_9_code
def yX9_gridWithout : MethodName := ⟨RX9, "gridWithout", "(I)I"⟩
abbrev cX9_tryAt : ByteArray := prog_11_method_10_code
def yX9_tryAt : MethodName := ⟨RX9, "tryAt", "(IIII)V"⟩
abbrev cX9_manyBeside : ByteArray := prog_11_method_11_code
def yX9_manyBeside : MethodName := ⟨RX9, "manyBeside", "(I)I"⟩
abbrev cX9_runBeside : ByteArray := prog_11_method_12_code
def yX9_runBeside : MethodName := ⟨RX9, "runBeside", "(II)Z"⟩
abbrev cX9_crowd : ByteArray := prog_11_method_13_code
def yX9_crowd : MethodName := ⟨RX9, "crowd", "(II)I"⟩
abbrev cX9_worth : ByteArray := prog_11_method_14_code
def yX9_worth : MethodName := ⟨RX9, "worth", "(II)I"⟩
abbrev cX9_share : ByteArray := prog_11_method_15_code
def yX9_share : MethodName := ⟨RX9, "share", "(III)I"⟩
def RX10 : String := "FilmWeeks"
def TX10 : u_T := fun k => match k with
  | 0 => ("FilmWeeks", "halls", "LFilmWeeks$Halls;", true)
  | 1 => ("FilmWeeks", "films", "LFilmWeeks$Films;", true)
  | 2 => ("FilmWeeks", "showings", "LFilmWeeks$Showings;", true)
  | 3 => ("FilmWeeks", "bars", "LFilmWeeks$Bars;", true)
  | 4 => ("FilmWeeks", "worths", "LFilmWeeks$Worths;", true)
  | 5 => ("FilmWeeks", "lateness", "LFilmWeeks$Lateness;", true)
  | 6 => ("FilmWeeks", "jury", "LFilmWeeks$Jury;", true)
  | 7 => ("FilmWeeks", "standing", "LFilmWeeks$Rules;", true)
  | 8 => ("FilmWeeks", "reader", "LFilmWeeks$Reader;", true)
  | 9 => ("FilmWeeks", "award", "LFilmWeeks$Award;", true)
  | _ => ("FilmWeeks", "refusedBy", "I", false)
def tyX10 : Nat → FieldType := fun k => match k with
  | 0 => .object "FilmWeeks$Halls"
  | 1 => .object "FilmWeeks$Films"
  | 2 => .object "FilmWeeks$Showings"
  | 3 => .object "FilmWeeks$Bars"
  | 4 => .object "FilmWeeks$Worths"
  | 5 => .object "FilmWeeks$Lateness"
  | 6 => .object "FilmWeeks$Jury"
  | 7 => .object "FilmWeeks$Rules"
  | 8 => .object "FilmWeeks$Reader"
  | 9 => .object "FilmWeeks$Award"
  | _ => .int
abbrev wsX100 : List Cond := u_ws RX10 TX10 11
theorem nmX10 : ∀ a, a < 11 → ∀ b, b < 11 → a ≠ b → (TX10 a).2.1 ≠ (TX10 b).2.1 := by decide +kernel
theorem tyX10_ok : ∀ k, k < 11 → parseFieldDescriptor (TX10 k).2.2.1 = some (tyX10 k) := by decide +kernel
abbrev cX10_init : ByteArray := prog_1_method_1_code
def yX10_init : MethodName := ⟨RX10, "<init>", "()V"⟩
abbrev cX10_hall : ByteArray := prog_1_method_2_code
def yX10_hall : MethodName := ⟨RX10, "hall", "(IIII)I"⟩
abbrev cX10_film : ByteArray := prog_1_method_3_code
def yX10_film : MethodName := ⟨RX10, "film", "(III)I"⟩
abbrev cX10_way : ByteArray := prog_1_method_4_code
def yX10_way : MethodName := ⟨RX10, "way", "(III)I"⟩
abbrev cX10_guest : ByteArray := prog_1_method_5_code
def yX10_guest : MethodName := ⟨RX10, "guest", "(III)I"⟩
abbrev cX10_bar : ByteArray := prog_1_method_6_code
def yX10_bar : MethodName := ⟨RX10, "bar", "(IIII)I"⟩
abbrev cX10_why : ByteArray := prog_1_method_7_code
def yX10_why : MethodName := ⟨RX10, "why", "(IIII)I"⟩
abbrev cX10_put : ByteArray := prog_1_method_8_code
def yX10_put : MethodName := ⟨RX10, "put", "(IIII)I"⟩
abbrev cX10_take : ByteArray := prog_1_method_9_code
def yX10_take : MethodName := ⟨RX10, "take", "(I)I"⟩
abbrev cX10_of : ByteArray := prog_1_method_10_code
def yX10_of : MethodName := ⟨RX10, "of", "(II)I"⟩
abbrev cX10_part : ByteArray := prog_1_method_11_code
def yX10_part : MethodName := ⟨RX10, "part", "(II)I"⟩
abbrev cX10_grid : ByteArray := prog_1_method_12_code
def yX10_grid : MethodName := ⟨RX10, "grid", "()I"⟩
abbrev cX10_hour : ByteArray := prog_1_method_13_code
def yX10_hour : MethodName := ⟨RX10, "hour", "(I)I"⟩
abbrev cX10_better : ByteArray := prog_1_method_14_code
def yX10_better : MethodName := ⟨RX10, "better", "()I"⟩
abbrev cX10_come : ByteArray := prog_1_method_15_code
def yX10_come : MethodName := ⟨RX10, "come", "(III)I"⟩
abbrev cX10_doors : ByteArray := prog_1_method_16_code
def yX10_doors : MethodName := ⟨RX10, "doors", "(I)I"⟩
abbrev cX10_delay : ByteArray := prog_1_method_17_code
def yX10_delay : MethodName := ⟨RX10, "delay", "(II)I"⟩
abbrev cX10_queue : ByteArray := prog_1_method_18_code
def yX10_queue : MethodName := ⟨RX10, "queue", "(III)I"⟩
abbrev cX10_juror : ByteArray := prog_1_method_19_code
def yX10_juror : MethodName := ⟨RX10, "juror", "(I)I"⟩
abbrev cX10_vote : ByteArray := prog_1_method_20_code
def yX10_vote : MethodName := ⟨RX10, "vote", "(II)I"⟩
abbrev cX10_clear : ByteArray := prog_1_method_21_code
def yX10_clear : MethodName := ⟨RX10, "clear", "(I)I"⟩
abbrev cX10_row : ByteArray := prog_1_method_22_code
def yX10_row : MethodName := ⟨RX10, "row", "(IIII)I"⟩
abbrev cX10_feed : ByteArray := prog_1_method_23_code
def yX10_feed : MethodName := ⟨RX10, "feed", "(IIIII)I"⟩
abbrev cX10_end : ByteArray := prog_1_method_24_code
def yX10_end : MethodName := ⟨RX10, "end", "(I)I"⟩
abbrev cX10_rules : ByteArray := prog_1_method_25_code
def yX10_rules : MethodName := ⟨RX10, "rules", "()I"⟩
abbrev cX10_fault : ByteArray := prog_1_method_26_code
def yX10_fault : MethodName := ⟨RX10, "fault", "()I"⟩
abbrev cX10_counts : ByteArray := prog_1_method_27_code
def yX10_counts : MethodName := ⟨RX10, "counts", "(III)I"⟩
abbrev cX10_prize : ByteArray := prog_1_method_28_code
def yX10_prize : MethodName := ⟨RX10, "prize", "(I)I"⟩
abbrev cX10_round : ByteArray := prog_1_method_29_code
def yX10_round : MethodName := ⟨RX10, "round", "(II)I"⟩
abbrev cX10_count : ByteArray := prog_1_method_30_code
def yX10_count : MethodName := ⟨RX10, "count", "(I)I"⟩
abbrev cX10_status : ByteArray := prog_1_method_31_code
def yX10_status : MethodName := ⟨RX10, "status", "()I"⟩
abbrev cX10_told : ByteArray := prog_1_method_32_code
def yX10_told : MethodName := ⟨RX10, "told", "(I)I"⟩
abbrev cX10_reasonAgainst : ByteArray := prog_1_method_33_code
def yX10_reasonAgainst : MethodName := ⟨RX10, "reasonAgainst", "(IIII)I"⟩
abbrev cX10_within : ByteArray := prog_1_method_34_code
def yX10_within : MethodName := ⟨RX10, "within", "(III)Z"⟩
abbrev cX10_isTown : ByteArray := prog_1_method_35_code
def yX10_isTown : MethodName := ⟨RX10, "isTown", "(I)Z"⟩
abbrev cX10_isMinute : ByteArray := prog_1_method_36_code
def yX10_isMinute : MethodName := ⟨RX10, "isMinute", "(I)Z"⟩
abbrev cX10_isKnown : ByteArray := prog_1_method_37_code
def yX10_isKnown : MethodName := ⟨RX10, "isKnown", "(I)Z"⟩
def RX11 : String := "FilmWeeksModel"
def TX11 : u_T := fun k => match k with
  | 0 => ("FilmWeeksModel", "thrown", "I", false)
  | 1 => ("FilmWeeksModel", "status", "I", false)
  | 2 => ("FilmWeeksModel", "halls", "I", false)
  | 3 => ("FilmWeeksModel", "hTown", "[I", true)
  | 4 => ("FilmWeeksModel", "hSeats", "[I", true)
  | 5 => ("FilmWeeksModel", "hClear", "[I", true)
  | 6 => ("FilmWeeksModel", "hFormats", "[I", true)
  | 7 => ("FilmWeeksModel", "films", "I", false)
  | 8 => ("FilmWeeksModel", "fMinutes", "[I", true)
  | 9 => ("FilmWeeksModel", "fFormat", "[I", true)
  | 10 => ("FilmWeeksModel", "fFame", "[I", true)
  | 11 => ("FilmWeeksModel", "gFrom", "[I", true)
  | 12 => ("FilmWeeksModel", "gTo", "[I", true)
  | 13 => ("FilmWeeksModel", "bBefore", "[I", true)
  | 14 => ("FilmWeeksModel", "bMost", "[I", true)
  | 15 => ("FilmWeeksModel", "bBeside", "[I", true)
  | 16 => ("FilmWeeksModel", "ways", "[I", true)
  | 17 => ("FilmWeeksModel", "ever", "I", false)
  | 18 => ("FilmWeeksModel", "sIs", "[Z", true)
  | 19 => ("FilmWeeksModel", "sFilm", "[I", true)
  | 20 => ("FilmWeeksModel", "sHall", "[I", true)
  | 21 => ("FilmWeeksModel", "sBegin", "[I", true)
  | 22 => ("FilmWeeksModel", "sSort", "[I", true)
  | 23 => ("FilmWeeksModel", "sDelay", "[I", true)
  | 24 => ("FilmWeeksModel", "coming", "[I", true)
  | 25 => ("FilmWeeksModel", "parts", "[I", true)
  | 26 => ("FilmWeeksModel", "hours", "[I", true)
  | 27 => ("FilmWeeksModel", "hourMany", "I", false)
  | 28 => ("FilmWeeksModel", "doors", "I", false)
  | 29 => ("FilmWeeksModel", "truly", "[I", true)
  | 30 => ("FilmWeeksModel", "isTrue", "[Z", true)
  | 31 => ("FilmWeeksModel", "cShowing", "I", false)
  | 32 => ("FilmWeeksModel", "cHall", "I", false)
  | 33 => ("FilmWeeksModel", "cBegin", "I", false)
  | 34 => ("FilmWeeksModel", "cGrid", "I", false)
  | 35 => ("FilmWeeksModel", "jurors", "I", false)
  | 36 => ("FilmWeeksModel", "ages", "[I", true)
  | 37 => ("FilmWeeksModel", "votes", "[I", true)
  | 38 => ("FilmWeeksModel", "voteMany", "[I", true)
  | 39 => ("FilmWeeksModel", "rows", "I", false)
  | 40 => ("FilmWeeksModel", "rSort", "[I", true)
  | 41 => ("FilmWeeksModel", "rJuror", "[I", true)
  | 42 => ("FilmWeeksModel", "rFilm", "[I", true)
  | 43 => ("FilmWeeksModel", "rKnown", "[I", true)
  | 44 => ("FilmWeeksModel", "hasRules", "Z", false)
  | 45 => ("FilmWeeksModel", "marks", "[I", true)
  | 46 => ("FilmWeeksModel", "markMany", "I", false)
  | 47 => ("FilmWeeksModel", "points", "[I", true)
  | 48 => ("FilmWeeksModel", "pointMany", "I", false)
  | 49 => ("FilmWeeksModel", "tie", "I", false)
  | 50 => ("FilmWeeksModel", "nMarks", "[I", true)
  | 51 => ("FilmWeeksModel", "nMany", "I", false)
  | 52 => ("FilmWeeksModel", "nPoints", "[I", true)
  | 53 => ("FilmWeeksModel", "nPointMany", "I", false)
  | 54 => ("FilmWeeksModel", "nTie", "I", false)
  | 55 => ("FilmWeeksModel", "pile", "[I", true)
  | 56 => ("FilmWeeksModel", "piled", "I", false)
  | 57 => ("FilmWeeksModel", "tape", "[I", true)
  | 58 => ("FilmWeeksModel", "taped", "I", false)
  | 59 => ("FilmWeeksModel", "from", "I", false)
  | 60 => ("FilmWeeksModel", "to", "I", false)
  | 61 => ("FilmWeeksModel", "kind", "I", false)
  | 62 => ("FilmWeeksModel", "worth", "J", false)
  | 63 => ("FilmWeeksModel", "fault", "I", false)
  | 64 => ("FilmWeeksModel", "bad", "Z", false)
  | 65 => ("FilmWeeksModel", "voted", "[Z", true)
  | 66 => ("FilmWeeksModel", "isIn", "[Z", true)
  | 67 => ("FilmWeeksModel", "firsts", "[I", true)
  | 68 => ("FilmWeeksModel", "sums", "[I", true)
  | _ => ("FilmWeeksModel", "rounds", "I", false)
def tyX11 : Nat → FieldType := fun k => match k with
  | 0 => .int
  | 1 => .int
  | 2 => .int
  | 3 => .array .int
  | 4 => .array .int
  | 5 => .array .int
  | 6 => .array .int
  | 7 => .int
  | 8 => .array .int
  | 9 => .array .int
  | 10 => .array .int
  | 11 => .array .int
  | 12 => .array .int
  | 13 => .array .int
  | 14 => .array .int
  | 15 => .array .int
  | 16 => .array .int
  | 17 => .int
  | 18 => .array .boolean
  | 19 => .array .int
  | 20 => .array .int
  | 21 => .array .int
  | 22 => .array .int
  | 23 => .array .int
  | 24 => .array .int
  | 25 => .array .int
  | 26 => .array .int
  | 27 => .int
  | 28 => .int
  | 29 => .array .int
  | 30 => .array .boolean
  | 31 => .int
  | 32 => .int
  | 33 => .int
  | 34 => .int
  | 35 => .int
  | 36 => .array .int
  | 37 => .array .int
  | 38 => .array .int
  | 39 => .int
  | 40 => .array .int
  | 41 => .array .int
  | 42 => .array .int
  | 43 => .array .int
  | 44 => .boolean
  | 45 => .array .int
  | 46 => .int
  | 47 => .array .int
  | 48 => .int
  | 49 => .int
  | 50 => .array .int
  | 51 => .int
  | 52 => .array .int
  | 53 => .int
  | 54 => .int
  | 55 => .array .int
  | 56 => .int
  | 57 => .array .int
  | 58 => .int
  | 59 => .int
  | 60 => .int
  | 61 => .int
  | 62 => .long
  | 63 => .int
  | 64 => .boolean
  | 65 => .array .boolean
  | 66 => .array .boolean
  | 67 => .array .int
  | 68 => .array .int
  | _ => .int
abbrev wsX110 : List Cond := u_ws RX11 TX11 70
theorem nmX11 : ∀ a, a < 70 → ∀ b, b < 70 → a ≠ b → (TX11 a).2.1 ≠ (TX11 b).2.1 := by decide +kernel
theorem tyX11_ok : ∀ k, k < 70 → parseFieldDescriptor (TX11 k).2.2.1 = some (tyX11 k) := by decide +kernel
abbrev cX11_init : ByteArray := prog_13_method_1_code
def yX11_init : MethodName := ⟨RX11, "<init>", "()V"⟩
abbrev cX11_in : ByteArray := prog_13_method_3_code
def yX11_in : MethodName := ⟨RX11, "in", "(JJJ)Z"⟩
abbrev cX11_told : ByteArray := prog_13_method_4_code
def yX11_told : MethodName := ⟨RX11, "told", "(I)I"⟩
abbrev cX11_isHall : ByteArray := prog_13_method_5_code
def yX11_isHall : MethodName := ⟨RX11, "isHall", "(I)Z"⟩
abbrev cX11_isFilm : ByteArray := prog_13_method_6_code
def yX11_isFilm : MethodName := ⟨RX11, "isFilm", "(I)Z"⟩
abbrev cX11_isShowing : ByteArray := prog_13_method_7_code
def yX11_isShowing : MethodName := ⟨RX11, "isShowing", "(I)Z"⟩
abbrev cX11_isMinute : ByteArray := prog_13_method_8_code
def yX11_isMinute : MethodName := ⟨RX11, "isMinute", "(I)Z"⟩
abbrev cX11_hall : ByteArray := prog_13_method_9_code
def yX11_hall : MethodName := ⟨RX11, "hall", "(IIII)I"⟩
abbrev cX11_film : ByteArray := prog_13_method_10_code
def yX11_film : MethodName := ⟨RX11, "film", "(III)I"⟩
abbrev cX11_way : ByteArray := prog_13_method_11_code
def yX11_way : MethodName := ⟨RX11, "way", "(III)I"⟩
abbrev cX11_guest : ByteArray := prog_13_method_12_code
def yX11_guest : MethodName := ⟨RX11, "guest", "(III)I"⟩
abbrev cX11_bar : ByteArray := prog_13_method_13_code
def yX11_bar : MethodName := ⟨RX11, "bar", "(IIII)I"⟩
abbrev cX11_endOf : ByteArray := prog_13_method_14_code
def yX11_endOf : MethodName := ⟨RX11, "endOf", "(I)I"⟩
abbrev cX11_whyOf : ByteArray := prog_13_method_15_code
def yX11_whyOf : MethodName := ⟨RX11, "whyOf", "(IIIII)I"⟩
abbrev cX11_why : ByteArray := prog_13_method_16_code
def yX11_why : MethodName := ⟨RX11, "why", "(IIII)I"⟩
abbrev cX11_put : ByteArray := prog_13_method_17_code
def yX11_put : MethodName := ⟨RX11, "put", "(IIII)I"⟩
abbrev cX11_take : ByteArray := prog_13_method_18_code
def yX11_take : MethodName := ⟨RX11, "take", "(I)I"⟩
abbrev cX11_crowdOf : ByteArray := prog_13_method_19_code
def yX11_crowdOf : MethodName := ⟨RX11, "crowdOf", "(I)I"⟩
abbrev cX11_worthOf : ByteArray := prog_13_method_20_code
def yX11_worthOf : MethodName := ⟨RX11, "worthOf", "(I)I"⟩
abbrev cX11_gridOf : ByteArray := prog_13_method_21_code
def yX11_gridOf : MethodName := ⟨RX11, "gridOf", "()I"⟩
abbrev cX11_trueEnd : ByteArray := prog_13_method_22_code
def yX11_trueEnd : MethodName := ⟨RX11, "trueEnd", "(I)I"⟩
abbrev cX11_findTrue : ByteArray := prog_13_method_23_code
def yX11_findTrue : MethodName := ⟨RX11, "findTrue", "()V"⟩
abbrev cX11_nextTrue : ByteArray := prog_13_method_24_code
def yX11_nextTrue : MethodName := ⟨RX11, "nextTrue", "()I"⟩
abbrev cX11_of : ByteArray := prog_13_method_25_code
def yX11_of : MethodName := ⟨RX11, "of", "(II)I"⟩
abbrev cX11_part : ByteArray := prog_13_method_26_code
def yX11_part : MethodName := ⟨RX11, "part", "(II)I"⟩
abbrev cX11_grid : ByteArray := prog_13_method_27_code
def yX11_grid : MethodName := ⟨RX11, "grid", "()I"⟩
abbrev cX11_hour : ByteArray := prog_13_method_28_code
def yX11_hour : MethodName := ⟨RX11, "hour", "(I)I"⟩
abbrev cX11_tryChange : ByteArray := prog_13_method_29_code
def yX11_tryChange : MethodName := ⟨RX11, "tryChange", "(III)V"⟩
abbrev cX11_better : ByteArray := prog_13_method_30_code
def yX11_better : MethodName := ⟨RX11, "better", "()I"⟩
abbrev cX11_come : ByteArray := prog_13_method_31_code
def yX11_come : MethodName := ⟨RX11, "come", "(III)I"⟩
abbrev cX11_doors : ByteArray := prog_13_method_32_code
def yX11_doors : MethodName := ⟨RX11, "doors", "(I)I"⟩
abbrev cX11_delay : ByteArray := prog_13_method_33_code
def yX11_delay : MethodName := ⟨RX11, "delay", "(II)I"⟩
abbrev cX11_queue : ByteArray := prog_13_method_34_code
def yX11_queue : MethodName := ⟨RX11, "queue", "(III)I"⟩
abbrev cX11_isJuror : ByteArray := prog_13_method_35_code
def yX11_isJuror : MethodName := ⟨RX11, "isJuror", "(I)Z"⟩
abbrev cX11_juror : ByteArray := prog_13_method_36_code
def yX11_juror : MethodName := ⟨RX11, "juror", "(I)I"⟩
abbrev cX11_placeOf : ByteArray := prog_13_method_37_code
def yX11_placeOf : MethodName := ⟨RX11, "placeOf", "(II)I"⟩
abbrev cX11_vote : ByteArray := prog_13_method_38_code
def yX11_vote : MethodName := ⟨RX11, "vote", "(II)I"⟩
abbrev cX11_clear : ByteArray := prog_13_method_39_code
def yX11_clear : MethodName := ⟨RX11, "clear", "(I)I"⟩
abbrev cX11_row : ByteArray := prog_13_method_40_code
def yX11_row : MethodName := ⟨RX11, "row", "(IIII)I"⟩
abbrev cX11_four : ByteArray := prog_13_method_41_code
def yX11_four : MethodName := ⟨RX11, "four", "(I)V"⟩
abbrev cX11_feed : ByteArray := prog_13_method_42_code
def yX11_feed : MethodName := ⟨RX11, "feed", "(IIIII)I"⟩
abbrev cX11_end : ByteArray := prog_13_method_43_code
def yX11_end : MethodName := ⟨RX11, "end", "(I)I"⟩
abbrev cX11_isSmall : ByteArray := prog_13_method_44_code
def yX11_isSmall : MethodName := ⟨RX11, "isSmall", "(I)Z"⟩
abbrev cX11_isDigit : ByteArray := prog_13_method_45_code
def yX11_isDigit : MethodName := ⟨RX11, "isDigit", "(I)Z"⟩
abbrev cX11_next : ByteArray := prog_13_method_46_code
def yX11_next : MethodName := ⟨RX11, "next", "()V"⟩
abbrev cX11_word : ByteArray := prog_13_method_47_code
def yX11_word : MethodName := ⟨RX11, "word", "(IIIIII)J"⟩
abbrev cX11_isWord : ByteArray := prog_13_method_48_code
def yX11_isWord : MethodName := ⟨RX11, "isWord", "(IIIIII)Z"⟩
abbrev cX11_isSign : ByteArray := prog_13_method_49_code
def yX11_isSign : MethodName := ⟨RX11, "isSign", "(I)Z"⟩
abbrev cX11_must : ByteArray := prog_13_method_50_code
def yX11_must : MethodName := ⟨RX11, "must", "(Z)V"⟩
abbrev cX11_mark : ByteArray := prog_13_method_51_code
def yX11_mark : MethodName := ⟨RX11, "mark", "(I)V"⟩
abbrev cX11_settle : ByteArray := prog_13_method_52_code
def yX11_settle : MethodName := ⟨RX11, "settle", "(I)V"⟩
abbrev cX11_readCond : ByteArray := prog_13_method_53_code
def yX11_readCond : MethodName := ⟨RX11, "readCond", "()V"⟩
abbrev cX11_depthNow : ByteArray := prog_13_method_54_code
def yX11_depthNow : MethodName := ⟨RX11, "depthNow", "(Z)I"⟩
abbrev cX11_readLeaf : ByteArray := prog_13_method_55_code
def yX11_readLeaf : MethodName := ⟨RX11, "readLeaf", "()V"⟩
abbrev cX11_readRules : ByteArray := prog_13_method_56_code
def yX11_readRules : MethodName := ⟨RX11, "readRules", "()V"⟩
abbrev cX11_rules : ByteArray := prog_13_method_57_code
def yX11_rules : MethodName := ⟨RX11, "rules", "()I"⟩
abbrev cX11_fault : ByteArray := prog_13_method_58_code
def yX11_fault : MethodName := ⟨RX11, "fault", "()I"⟩
abbrev cX11_isRow : ByteArray := prog_13_method_59_code
def yX11_isRow : MethodName := ⟨RX11, "isRow", "(IIII)Z"⟩
abbrev cX11_holds : ByteArray := prog_13_method_60_code
def yX11_holds : MethodName := ⟨RX11, "holds", "(III)Z"⟩
abbrev cX11_countsFor : ByteArray := prog_13_method_61_code
def yX11_countsFor : MethodName := ⟨RX11, "countsFor", "(III)Z"⟩
abbrev cX11_counts : ByteArray := prog_13_method_62_code
def yX11_counts : MethodName := ⟨RX11, "counts", "(III)I"⟩
abbrev cX11_isAhead : ByteArray := prog_13_method_63_code
def yX11_isAhead : MethodName := ⟨RX11, "isAhead", "(II)Z"⟩
abbrev cX11_findVotes : ByteArray := prog_13_method_64_code
def yX11_findVotes : MethodName := ⟨RX11, "findVotes", "(I)V"⟩
abbrev cX11_extreme : ByteArray := prog_13_method_65_code
def yX11_extreme : MethodName := ⟨RX11, "extreme", "(IZ)I"⟩
abbrev cX11_openRound : ByteArray := prog_13_method_66_code
def yX11_openRound : MethodName := ⟨RX11, "openRound", "()V"⟩
abbrev cX11_byPoints : ByteArray := prog_13_method_67_code
def yX11_byPoints : MethodName := ⟨RX11, "byPoints", "()I"⟩
abbrev cX11_byRounds : ByteArray := prog_13_method_68_code
def yX11_byRounds : MethodName := ⟨RX11, "byRounds", "()I"⟩
abbrev cX11_prize : ByteArray := prog_13_method_69_code
def yX11_prize : MethodName := ⟨RX11, "prize", "(I)I"⟩
abbrev cX11_round : ByteArray := prog_13_method_70_code
def yX11_round : MethodName := ⟨RX11, "round", "(II)I"⟩
abbrev cX11_count : ByteArray := prog_13_method_71_code
def yX11_count : MethodName := ⟨RX11, "count", "(I)I"⟩
abbrev cX11_status : ByteArray := prog_13_method_72_code
def yX11_status : MethodName := ⟨RX11, "status", "()I"⟩
def RJ9 : String := "java/lang/Math"
abbrev cJ9_max_7cf53 : ByteArray := prog_14_method_65_code
def yJ9_max_7cf53 : MethodName := ⟨RJ9, "max", "(II)I"⟩
abbrev cJ9_min_7cf53 : ByteArray := prog_14_method_69_code
def yJ9_min_7cf53 : MethodName := ⟨RJ9, "min", "(II)I"⟩
def RJ0 : String := "java/lang/String"
abbrev cJ0_length_8abf5 : ByteArray := prog_15_method_54_code
def yJ0_length_8abf5 : MethodName := ⟨RJ0, "length", "()I"⟩
abbrev cJ0_charAt_5068e : ByteArray := prog_15_method_56_code
def yJ0_charAt_5068e : MethodName := ⟨RJ0, "charAt", "(I)C"⟩
abbrev cJ0_coder_7d493 : ByteArray := prog_15_method_152_code
def yJ0_coder_7d493 : MethodName := ⟨RJ0, "coder", "()B"⟩
abbrev cJ0_isLatin1_aae02 : ByteArray := prog_15_method_154_code
def yJ0_isLatin1_aae02 : MethodName := ⟨RJ0, "isLatin1", "()Z"⟩
abbrev cJ0_checkIndex_df160 : ByteArray := prog_15_method_155_code
def yJ0_checkIndex_df160 : MethodName := ⟨RJ0, "checkIndex", "(II)V"⟩
def RJ1 : String := "java/lang/StringLatin1"
abbrev cJ1_charAt_3b067 : ByteArray := prog_16_method_2_code
def yJ1_charAt_3b067 : MethodName := ⟨RJ1, "charAt", "([BI)C"⟩
def RJ2 : String := "java/lang/StringUTF16"
abbrev cJ2_getChar_3b067 : ByteArray := prog_17_method_5_code
def yJ2_getChar_3b067 : MethodName := ⟨RJ2, "getChar", "([BI)C"⟩
abbrev cJ2_length_9d52b : ByteArray := prog_17_method_6_code
def yJ2_length_9d52b : MethodName := ⟨RJ2, "length", "([B)I"⟩
abbrev cJ2_charAt_3b067 : ByteArray := prog_17_method_83_code
def yJ2_charAt_3b067 : MethodName := ⟨RJ2, "charAt", "([BI)C"⟩
abbrev cJ2_checkIndex_2214a : ByteArray := prog_17_method_91_code
def yJ2_checkIndex_2214a : MethodName := ⟨RJ2, "checkIndex", "(I[B)V"⟩
def RJ10 : String := "java/lang/System"
def RJ7 : String := "java/util/Arrays"
abbrev cJ7_fill_53178 : ByteArray := prog_19_method_103_code
def yJ7_fill_53178 : MethodName := ⟨RJ7, "fill", "([II)V"⟩
def RJ3 : String := "jdk/internal/util/Preconditions"
abbrev cJ3_checkIndex_8e157 : ByteArray := prog_20_method_11_code
def yJ3_checkIndex_8e157 : MethodName := ⟨RJ3, "checkIndex", "(IILjava/util/function/BiFunction;)I"⟩
def RL : String := "FilmWeeksLaw"
abbrev cL_law : ByteArray := code
def yL_law : MethodName := ⟨RL, "law", "([I)Z"⟩
abbrev vwCl : List vw_C := [(RX0, TX0, 9), (RX1, TX1, 3), (RX2, TX2, 9), (RX3, TX3, 6), (RX4, TX4, 9), (RX5, TX5, 9), (RX6, TX6, 7), (RX7, TX7, 6), (RX8, TX8, 9), (RX9, TX9, 13), (RX10, TX10, 11), (RX11, TX11, 70)]
end
section
/-! THE FRAME: a world of fixed shape (all cells made once), its abstract state, rows over it; contracts of methods that make nothing. -/
def jf_tb : List Cond := lw_tbl.filter goodWord
theorem jf_mem {w : Cond} (h : w ∈ lw_tbl) (g : goodWord w = true) : w ∈ jf_tb := List.mem_filter.mpr ⟨h, g⟩
/-- the abstract state: ints by cell and place (fields, array elements), longs by cell and place -/
abbrev jf_S : Type := (Nat → Nat → Int32) × (Nat → Nat → Int64)
/-- a cell's shape: an object (its number among vwCl, its fields: none an int, some none a long, some (some k) the cell k), or an array (0 of ints, 1 of booleans; its length) -/
abbrev jf_K : Type := (Nat × List (Option (Option Nat))) ⊕ (Nat × Nat)
/-- launch, class ids, slots, array class ids, addresses -/
abbrev jf_E : Type := Launch × (Nat → ClassId) × (Nat → Nat → Nat) × (Nat → ClassId) × (Nat → Nat)
/-- what stands still while a method runs -/
abbrev jf_G : Type := Program × Env × Room × State × MethodId × Array Value × List Frame × Method × Code × (State → Prop)
abbrev jf_r (E : jf_E) (k : Nat) : Value := .ref (E.2.2.2.2 k)
def jf_v (E : jf_E) (σ : jf_S) (k j : Nat) (x : Option (Option Nat)) : Value := match x with
  | none => .int (σ.1 k j)
  | some none => .long (σ.2 k j)
  | some (some q) => jf_r E q
def jf_e (E : jf_E) (σ : jf_S) (k : Nat) (x : jf_K) : va_E := match x with
  | .inl o => .inr (o.1, o.2.mapIdx (fun j y => jf_v E σ k j y))
  | .inr a => .inl (E.2.2.2.1 a.1, a.2, .inl (σ.1 k))
def jf_w (sh : List jf_K) (E : jf_E) (σ : jf_S) : va_W := sh.mapIdx (fun k x => (E.2.2.2.2 k, jf_e E σ k x))
def jf_A (sh : List jf_K) (E : jf_E) : Nat → Prop := fun q => ∃ k, k < sh.length ∧ q = E.2.2.2.2 k
def jf_J (sh : List jf_K) (E : jf_E) : Prop := ∀ i j, i < sh.length → j < sh.length → E.2.2.2.2 i = E.2.2.2.2 j → i = j
abbrev jf_D (E : jf_E) : va_G := (E.2.1, E.2.2.1)
abbrev jf_T (E : jf_E) : List (ClassId × FieldType) := [(E.2.2.2.1 0, .int), (E.2.2.2.1 1, .boolean)]
def jf_B (sh : List jf_K) (E : jf_E) (σ : jf_S) (U : State) : Prop := va_P (jf_D E) vwCl (jf_w sh E σ) U.heap ∧ va_K (jf_D E) vwCl (jf_T E) U ∧ jf_J sh E
def jf_rm (d : Nat) : Room := { frames := d, cells := 0, slots := 0, locals := 64 * d }
/-- an int is written -/
def jf_i (σ : jf_S) (k j : Nat) (v : Int32) : jf_S := (fun a b => if a = k ∧ b = j then v else σ.1 a b, σ.2)
/-- a long is written -/
def jf_l (σ : jf_S) (k j : Nat) (v : Int64) : jf_S := (σ.1, fun a b => if a = k ∧ b = j then v else σ.2 a b)
def jf_C (sh : List jf_K) (E : jf_E) (G : jf_G) (nL : Nat) (cc : ByteArray) (own : String) (d : Nat) : Prop :=
  G.1.tables.exec = Jvm.exec ∧ G.2.2.2.2.2.2.2.2.1.code = cc ∧ G.2.2.2.2.2.2.2.2.1.maxLocals = nL ∧ G.2.2.2.1.vm.findClass own = some G.2.2.2.2.1.cls ∧ (∀ w ∈ jf_tb, w.before G.2.2.2.2.2.1 G.2.2.2.1 = true) ∧ va_K (jf_D E) vwCl (jf_T E) G.2.2.2.1 ∧ jf_J sh E ∧ d ≤ G.2.2.1.frames ∧ 64 * d ≤ G.2.2.1.locals
/-- from this place, with these locals, this stack, this state of the world, the machine comes to its end -/
def jf_X (sh : List jf_K) (E : jf_E) (G : jf_G) (nL pc : Nat) (L : List (Nat × Value)) (st : List Value) (σ : jf_S) : Prop :=
  ∀ (H : Heap) (locs : List Loc) (ls : Array Slot), va_P (jf_D E) vwCl (jf_w sh E σ) H → va_S (jf_A sh E) G.2.2.2.1.heap H locs → lv_has ls nL L → W G.1 E.1 G.2.1 G.2.2.1 G.2.2.2.1 G.2.2.2.2.1 G.2.2.2.2.2.1 G.2.2.2.2.2.2.1 G.2.2.2.2.2.2.2.1 G.2.2.2.2.2.2.2.2.1 H locs 0 0 G.2.2.2.2.2.2.2.2.2 (F0 G.2.2.2.2.1 pc ls st)
theorem jf_w_at {sh : List jf_K} {E : jf_E} {σ : jf_S} {k : Nat} {x : jf_K} (h : sh[k]? = some x) : (jf_w sh E σ)[k]? = some (E.2.2.2.2 k, jf_e E σ k x) := by
  unfold jf_w; rw [List.getElem?_mapIdx, h]; rfl
theorem jf_w_of {sh : List jf_K} {E : jf_E} {σ : jf_S} {k : Nat} {q : Nat × va_E} (h : (jf_w sh E σ)[k]? = some q) : ∃ x, sh[k]? = some x ∧ q = (E.2.2.2.2 k, jf_e E σ k x) := by
  unfold jf_w at h; rw [List.getElem?_mapIdx] at h
  cases hx : sh[k]? with
  | none => rw [hx] at h; cases h
  | some x => rw [hx] at h; exact ⟨x, rfl, (Option.some.inj h).symm⟩
theorem jf_Dd {sh : List jf_K} {E : jf_E} (σ : jf_S) (h : jf_J sh E) : va_D (jf_A sh E) (jf_w sh E σ) := by
  refine ⟨fun i j p q hi hj e => ?_, fun k q hk => ?_⟩
  · obtain ⟨x, h1, rfl⟩ := jf_w_of hi
    obtain ⟨y, h2, rfl⟩ := jf_w_of hj
    exact h i j (List.getElem?_eq_some_iff.mp h1).1 (List.getElem?_eq_some_iff.mp h2).1 e
  · obtain ⟨x, h1, rfl⟩ := jf_w_of hk
    exact ⟨k, (List.getElem?_eq_some_iff.mp h1).1, rfl⟩
/-- a state that differs in the cell k alone -/
theorem jf_w_set {sh : List jf_K} {E : jf_E} {σ τ : jf_S} {k : Nat} {x : jf_K} {v : va_E} (h : sh[k]? = some x) (hv : jf_e E τ k x = v) (h1 : ∀ a, a ≠ k → τ.1 a = σ.1 a) (h2 : ∀ a, a ≠ k → τ.2 a = σ.2 a) : (jf_w sh E σ).set k (E.2.2.2.2 k, v) = jf_w sh E τ := by
  have hl : k < (jf_w sh E σ).length := (List.getElem?_eq_some_iff.mp (jf_w_at (σ := σ) (E := E) h)).1
  apply List.ext_getElem?
  intro i
  by_cases hi : i = k
  · subst hi
    rw [List.getElem?_set_self hl, jf_w_at h, hv]
  · rw [List.getElem?_set_ne (Ne.symm hi)]
    unfold jf_w
    rw [List.getElem?_mapIdx, List.getElem?_mapIdx]
    cases hx : sh[i]? with
    | none => rfl
    | some y =>
      show some _ = some _
      congr 2
      cases y with
      | inl o =>
        have key : o.2.mapIdx (fun j y => jf_v E σ i j y) = o.2.mapIdx (fun j y => jf_v E τ i j y) := by
          apply List.ext_getElem?
          intro j
          rw [List.getElem?_mapIdx, List.getElem?_mapIdx]
          cases o.2[j]? with
          | none => rfl
          | some z => simp only [Option.map, jf_v]; rw [h1 i hi, h2 i hi]
        simp only [jf_e]; rw [key]
      | inr a => simp only [jf_e]; rw [h1 i hi]
theorem jf_i_o {σ : jf_S} {k j : Nat} {v : Int32} (a : Nat) (h : a ≠ k) : (jf_i σ k j v).1 a = σ.1 a := by
  funext b; simp [jf_i, h]
theorem jf_l_o {σ : jf_S} {k j : Nat} {v : Int64} (a : Nat) (h : a ≠ k) : (jf_l σ k j v).2 a = σ.2 a := by
  funext b; simp [jf_l, h]
theorem jf_i_at (σ : jf_S) (k j : Nat) (v : Int32) : (jf_i σ k j v).1 k = upd (σ.1 k) j v := by
  funext b; simp [jf_i, upd]
/-- the object cell behind a written int -/
theorem jf_seti {sh : List jf_K} {E : jf_E} {σ : jf_S} {k j ci : Nat} {fs : List (Option (Option Nat))} {v : Int32} (h : sh[k]? = some (.inl (ci, fs))) (hj : fs[j]? = some none) : (jf_w sh E σ).set k (E.2.2.2.2 k, .inr (ci, (fs.mapIdx (fun j y => jf_v E σ k j y)).set j (.int v))) = jf_w sh E (jf_i σ k j v) := by
  refine jf_w_set h ?_ (fun a ha => jf_i_o a ha) (fun a _ => rfl)
  show Sum.inr (ci, _) = Sum.inr (ci, _)
  congr 2
  apply List.ext_getElem?
  intro i
  have hl : j < (fs.mapIdx (fun j y => jf_v E σ k j y)).length := by rw [List.length_mapIdx]; exact (List.getElem?_eq_some_iff.mp hj).1
  by_cases hi : i = j
  · subst hi
    rw [List.getElem?_set_self hl, List.getElem?_mapIdx, hj]
    simp [jf_v, jf_i]
  · rw [List.getElem?_set_ne (Ne.symm hi), List.getElem?_mapIdx, List.getElem?_mapIdx]
    cases fs[i]? with
    | none => rfl
    | some z =>
      cases z with
      | none => simp [jf_v, jf_i, hi]
      | some z => cases z <;> simp [jf_v, jf_i]
theorem jf_setl {sh : List jf_K} {E : jf_E} {σ : jf_S} {k j ci : Nat} {fs : List (Option (Option Nat))} {v : Int64} (h : sh[k]? = some (.inl (ci, fs))) (hj : fs[j]? = some (some none)) : (jf_w sh E σ).set k (E.2.2.2.2 k, .inr (ci, (fs.mapIdx (fun j y => jf_v E σ k j y)).set j (.long v))) = jf_w sh E (jf_l σ k j v) := by
  refine jf_w_set h ?_ (fun a _ => rfl) (fun a ha => jf_l_o a ha)
  show Sum.inr (ci, _) = Sum.inr (ci, _)
  congr 2
  apply List.ext_getElem?
  intro i
  have hl : j < (fs.mapIdx (fun j y => jf_v E σ k j y)).length := by rw [List.length_mapIdx]; exact (List.getElem?_eq_some_iff.mp hj).1
  by_cases hi : i = j
  · subst hi
    rw [List.getElem?_set_self hl, List.getElem?_mapIdx, hj]
    simp [jf_v, jf_l]
  · rw [List.getElem?_set_ne (Ne.symm hi), List.getElem?_mapIdx, List.getElem?_mapIdx]
    cases fs[i]? with
    | none => rfl
    | some z =>
      cases z with
      | none => simp [jf_v, jf_l]
      | some z => cases z <;> simp [jf_v, jf_l, hi]
theorem jf_seta {sh : List jf_K} {E : jf_E} {σ : jf_S} {k j t n : Nat} {v : Int32} (h : sh[k]? = some (.inr (t, n))) : (jf_w sh E σ).set k (E.2.2.2.2 k, .inl (E.2.2.2.1 t, n, .inl (upd (σ.1 k) j v))) = jf_w sh E (jf_i σ k j v) := by
  refine jf_w_set h ?_ (fun a ha => jf_i_o a ha) (fun a _ => rfl)
  show Sum.inl (_, _, Sum.inl _) = Sum.inl (_, _, Sum.inl _)
  rw [jf_i_at]
/-! words -/
/-- the field idx of the class own is the place j (of the kind kd) of the cell k -/
def jf_f (sh : List jf_K) (own : String) (idx k j : Nat) (kd : Option (Option Nat)) : Prop := ∃ (ci : Nat) (fs : List (Option (Option Nat))) (C : String) (T : u_T) (N : Nat), sh[k]? = some (.inl (ci, fs)) ∧ fs[j]? = some kd ∧ vwCl[ci]? = some (C, T, N) ∧ j < N ∧ (∀ w ∈ u_ws C T N, w ∈ jf_tb) ∧ Cond.fieldLink own idx (T j).1 (T j).2.1 (T j).2.2.1 ∈ jf_tb
/-- and may be written -/
def jf_p (sh : List jf_K) (own : String) (idx k j : Nat) (kd : Option (Option Nat)) (ty : FieldType) : Prop := ∃ (ci : Nat) (fs : List (Option (Option Nat))) (C : String) (T : u_T) (N : Nat) (ty0 : Nat → FieldType), sh[k]? = some (.inl (ci, fs)) ∧ fs[j]? = some kd ∧ vwCl[ci]? = some (C, T, N) ∧ j < N ∧ (∀ w ∈ u_ws C T N, w ∈ jf_tb) ∧ Cond.fieldLink own idx (T j).1 (T j).2.1 (T j).2.2.1 ∈ jf_tb ∧ (∀ k, k < N → parseFieldDescriptor (T k).2.2.1 = some (ty0 k)) ∧ (∀ a, a < N → ∀ b, b < N → a ≠ b → (T a).2.1 ≠ (T b).2.1) ∧ (T j).2.2.2 = false ∧ parseFieldDescriptor (T j).2.2.1 = some ty
/-- a method as the tables have it -/
def jf_y (y : MethodName) (cc : ByteArray) (maxL : Nat) (ret : Option FieldType) (n : Nat) : Prop := Cond.code y cc maxL ret ∈ jf_tb ∧ Cond.initialized y.cls ∈ jf_tb ∧ (y.cls ≠ "java/lang/invoke/MethodHandle" ∧ y.cls ≠ "java/lang/invoke/VarHandle" ∧ (parseMethodDescriptor y.desc).map (fun d => d.parameters.length) = some n) ∧ maxL ≤ 45
def jf_yv (y : MethodName) : Prop := Cond.instanceMethod y ∈ jf_tb ∧ Cond.selects y.cls y y ∈ jf_tb
def jf_cl (sh : List jf_K) (k : Nat) (C : String) : Prop := ∃ (ci : Nat) (fs : List (Option (Option Nat))) (T : u_T) (N : Nat), sh[k]? = some (.inl (ci, fs)) ∧ vwCl[ci]? = some (C, T, N)
theorem jf_gin {w : Cond} (h : w ∈ jf_tb) : GoodIn jf_tb (w :: jf_tb) := by
  intro x hx
  have hm : x ∈ jf_tb := by
    rcases List.mem_cons.mp hx with e | e
    · rw [e]; exact h
    · exact e
  exact ⟨hm, good_of_word (List.mem_filter.mp hm).2⟩
end
section
/-! rows over the frame: one an instruction -/
/-- a local by its number -/
def jf_lk (i : Nat) : List (Nat × Value) → Option Value
  | [] => none
  | q :: r => bif Nat.beq q.1 i then some q.2 else jf_lk i r
theorem jf_lk_mem {i : Nat} {v : Value} : ∀ {L : List (Nat × Value)}, jf_lk i L = some v → (i, v) ∈ L
  | [], h => by cases h
  | q :: r, h => by
    unfold jf_lk at h
    cases hb : Nat.beq q.1 i with
    | true =>
      rw [hb] at h
      have e : q.1 = i := Nat.eq_of_beq_eq_true hb
      have e2 : q.2 = v := Option.some.inj h
      rw [← e, ← e2]
      exact List.mem_cons_self
    | false =>
      rw [hb] at h
      exact List.mem_cons_of_mem _ (jf_lk_mem h)
theorem jf_lk_at {ls : Array Slot} {nL i : Nat} {L : List (Nat × Value)} {v : Value} (h : lv_has ls nL L) (hi : jf_lk i L = some v) : ls[i]? = some (.val v) := h.2.2 (i, v) (jf_lk_mem hi)
theorem jf_lk_ix {i : Nat} {v : Value} {L : List (Nat × Value)} (h : jf_lk i L = some v) : ∃ j : Nat, L[j]? = some (i, v) := List.getElem?_of_mem (jf_lk_mem h)
def jf_s1 (i : Nat) (v : Value) (L : List (Nat × Value)) : List (Nat × Value) := (i, v) :: L.filter (fun q => !(q.1 == i) && !(q.1 + 1 == i && q.2.category == 2))
def jf_s2 (i : Nat) (v : Value) (L : List (Nat × Value)) : List (Nat × Value) := (i, v) :: L.filter (fun q => !(q.1 == i) && (!(q.1 == i + 1) && !(q.1 + 1 == i && q.2.category == 2)))
theorem jf_sub {ls : Array Slot} {nL : Nat} {L L' : List (Nat × Value)} (h : lv_has ls nL L) (hL : L'.map (fun q => jf_lk q.1 L) = L'.map (fun q => some q.2)) : lv_has ls nL L' := by
  refine ⟨h.1, h.2.1, fun q hq => ?_⟩
  obtain ⟨j, hj⟩ := List.getElem?_of_mem hq
  have e : (L'.map (fun q => jf_lk q.1 L))[j]? = (L'.map (fun q => some q.2))[j]? := by rw [hL]
  rw [List.getElem?_map, List.getElem?_map, hj] at e
  exact jf_lk_at h (Option.some.inj e)
section JR
variable {sh : List jf_K} {E : jf_E} {G : jf_G} {nL d pc : Nat} {cc : ByteArray} {own : String} {L : List (Nat × Value)} {st : List Value} {σ : jf_S}
theorem jr_iconst (C : jf_C sh E G nL cc own d) {n : Int} {v : Int32} (hd : decode cc pc = .ok (.iconst n, 1)) (hv : Int32.ofInt n = v) (k : jf_X sh E G nL (pc + 1) L (.int v :: st) σ) : jf_X sh E G nL pc L st σ := by
  intro H locs ls hP hS hl
  exact lv_iconst C.1 C.2.1 hd hv (k H locs ls hP hS hl)
theorem jr_bipush (C : jf_C sh E G nL cc own d) {n : Int} {v : Int32} (hd : decode cc pc = .ok (.bipush n, 2)) (hv : (Int8.ofInt n).toInt32 = v) (k : jf_X sh E G nL (pc + 2) L (.int v :: st) σ) : jf_X sh E G nL pc L st σ := by
  intro H locs ls hP hS hl
  exact lv_bipush C.1 C.2.1 hd hv (k H locs ls hP hS hl)
theorem jr_sipush (C : jf_C sh E G nL cc own d) {n : Int} {v : Int32} (hd : decode cc pc = .ok (.sipush n, 3)) (hv : (Int16.ofInt n).toInt32 = v) (k : jf_X sh E G nL (pc + 3) L (.int v :: st) σ) : jf_X sh E G nL pc L st σ := by
  intro H locs ls hP hS hl
  exact lv_sipush C.1 C.2.1 hd hv (k H locs ls hP hS hl)
theorem jr_lconst (C : jf_C sh E G nL cc own d) {n : Fin 2} {v : Int64} (hd : decode cc pc = .ok (.lconst n, 1)) (hv : Int64.ofNat (n : Nat) = v) (k : jf_X sh E G nL (pc + 1) L (.long v :: st) σ) : jf_X sh E G nL pc L st σ := by
  intro H locs ls hP hS hl
  exact lv_lconst C.1 C.2.1 hd hv (k H locs ls hP hS hl)
theorem jr_ldc (C : jf_C sh E G nL cc own d) {idx : Nat} {v : Int32} (hw : Cond.constant own idx v ∈ jf_tb) (hd : decode cc pc = .ok (.ldc idx, 2)) (k : jf_X sh E G nL (pc + 2) L (.int v :: st) σ) : jf_X sh E G nL pc L st σ := by
  intro H locs ls hP hS hl
  exact lv_ldc C.1 C.2.1 C.2.2.2.1 (C.2.2.2.2.1 _ hw) hd (k H locs ls hP hS hl)
theorem jr_ldc2 (C : jf_C sh E G nL cc own d) {idx : Nat} {v : Int64} (hw : Cond.constantLong own idx v ∈ jf_tb) (hd : decode cc pc = .ok (.ldc2_w idx, 3)) (k : jf_X sh E G nL (pc + 3) L (.long v :: st) σ) : jf_X sh E G nL pc L st σ := by
  intro H locs ls hP hS hl
  exact lv_ldc2 C.1 C.2.1 C.2.2.2.1 (C.2.2.2.2.1 _ hw) hd (k H locs ls hP hS hl)
theorem jr_iload_n (C : jf_C sh E G nL cc own d) {k : Fin 4} {x : Int32} (hd : decode cc pc = .ok (.iload_n k, 1)) (hL : jf_lk (k : Nat) L = some (.int x)) (kk : jf_X sh E G nL (pc + 1) L (.int x :: st) σ) : jf_X sh E G nL pc L st σ := by
  intro H locs ls hP hS hl
  exact lv_iload_n C.1 C.2.1 hd rfl (jf_lk_at hl hL) (kk H locs ls hP hS hl)
theorem jr_iload (C : jf_C sh E G nL cc own d) {i : Nat} {x : Int32} (hd : decode cc pc = .ok (.iload i, 2)) (hL : jf_lk i L = some (.int x)) (kk : jf_X sh E G nL (pc + 2) L (.int x :: st) σ) : jf_X sh E G nL pc L st σ := by
  intro H locs ls hP hS hl
  exact lv_iload C.1 C.2.1 hd (jf_lk_at hl hL) (kk H locs ls hP hS hl)
theorem jr_lload_n (C : jf_C sh E G nL cc own d) {k : Fin 4} {x : Int64} (hd : decode cc pc = .ok (.lload_n k, 1)) (hL : jf_lk (k : Nat) L = some (.long x)) (kk : jf_X sh E G nL (pc + 1) L (.long x :: st) σ) : jf_X sh E G nL pc L st σ := by
  intro H locs ls hP hS hl
  exact lv_lload_n C.1 C.2.1 hd rfl (jf_lk_at hl hL) (kk H locs ls hP hS hl)
theorem jr_lload (C : jf_C sh E G nL cc own d) {i : Nat} {x : Int64} (hd : decode cc pc = .ok (.lload i, 2)) (hL : jf_lk i L = some (.long x)) (kk : jf_X sh E G nL (pc + 2) L (.long x :: st) σ) : jf_X sh E G nL pc L st σ := by
  intro H locs ls hP hS hl
  exact lv_lload C.1 C.2.1 hd (jf_lk_at hl hL) (kk H locs ls hP hS hl)
theorem jr_aload_n (C : jf_C sh E G nL cc own d) {k : Fin 4} {x : Nat} (hd : decode cc pc = .ok (.aload_n k, 1)) (hL : jf_lk (k : Nat) L = some (.ref x)) (kk : jf_X sh E G nL (pc + 1) L (.ref x :: st) σ) : jf_X sh E G nL pc L st σ := by
  intro H locs ls hP hS hl
  exact lv_aload_n C.1 C.2.1 hd rfl (jf_lk_at hl hL) (kk H locs ls hP hS hl)
theorem jr_aload (C : jf_C sh E G nL cc own d) {i : Nat} {x : Nat} (hd : decode cc pc = .ok (.aload i, 2)) (hL : jf_lk i L = some (.ref x)) (kk : jf_X sh E G nL (pc + 2) L (.ref x :: st) σ) : jf_X sh E G nL pc L st σ := by
  intro H locs ls hP hS hl
  exact lv_aload C.1 C.2.1 hd (jf_lk_at hl hL) (kk H locs ls hP hS hl)
theorem jr_istore_n (C : jf_C sh E G nL cc own d) {k : Fin 4} {x : Int32} (hd : decode cc pc = .ok (.istore_n k, 1)) (hn : (k : Nat) < nL) (kk : jf_X sh E G nL (pc + 1) (jf_s1 (k : Nat) (.int x) L) st σ) : jf_X sh E G nL pc L (.int x :: st) σ := by
  intro H locs ls hP hS hl
  exact lv_istore_n C.1 C.2.1 hd rfl hl hn rfl (fun ls' hl' => kk H locs ls' hP hS hl')
theorem jr_istore (C : jf_C sh E G nL cc own d) {i : Nat} {x : Int32} (hd : decode cc pc = .ok (.istore i, 2)) (hn : i < nL) (kk : jf_X sh E G nL (pc + 2) (jf_s1 i (.int x) L) st σ) : jf_X sh E G nL pc L (.int x :: st) σ := by
  intro H locs ls hP hS hl
  exact lv_istore C.1 C.2.1 hd hl hn rfl (fun ls' hl' => kk H locs ls' hP hS hl')
theorem jr_lstore_n (C : jf_C sh E G nL cc own d) {k : Fin 4} {x : Int64} (hd : decode cc pc = .ok (.lstore_n k, 1)) (hn : (k : Nat) + 1 < nL) (kk : jf_X sh E G nL (pc + 1) (jf_s2 (k : Nat) (.long x) L) st σ) : jf_X sh E G nL pc L (.long x :: st) σ := by
  intro H locs ls hP hS hl
  exact lv_lstore_n C.1 C.2.1 hd rfl hl hn rfl (fun ls' hl' => kk H locs ls' hP hS hl')
theorem jr_lstore (C : jf_C sh E G nL cc own d) {i : Nat} {x : Int64} (hd : decode cc pc = .ok (.lstore i, 2)) (hn : i + 1 < nL) (kk : jf_X sh E G nL (pc + 2) (jf_s2 i (.long x) L) st σ) : jf_X sh E G nL pc L (.long x :: st) σ := by
  intro H locs ls hP hS hl
  exact lv_lstore C.1 C.2.1 hd hl hn rfl (fun ls' hl' => kk H locs ls' hP hS hl')
theorem jr_astore_n (C : jf_C sh E G nL cc own d) {k : Fin 4} {x : Nat} (hd : decode cc pc = .ok (.astore_n k, 1)) (hn : (k : Nat) < nL) (kk : jf_X sh E G nL (pc + 1) (jf_s1 (k : Nat) (.ref x) L) st σ) : jf_X sh E G nL pc L (.ref x :: st) σ := by
  intro H locs ls hP hS hl
  exact lv_astore_n C.1 C.2.1 hd rfl hl hn rfl (fun ls' hl' => kk H locs ls' hP hS hl')
theorem jr_astore (C : jf_C sh E G nL cc own d) {i : Nat} {x : Nat} (hd : decode cc pc = .ok (.astore i, 2)) (hn : i < nL) (kk : jf_X sh E G nL (pc + 2) (jf_s1 i (.ref x) L) st σ) : jf_X sh E G nL pc L (.ref x :: st) σ := by
  intro H locs ls hP hS hl
  exact lv_astore C.1 C.2.1 hd hl hn rfl (fun ls' hl' => kk H locs ls' hP hS hl')
theorem jr_iinc (C : jf_C sh E G nL cc own d) {i : Nat} {n : Int} {x : Int32} (v : Int32) (hd : decode cc pc = .ok (.iinc i n, 3)) (hj : jf_lk i L = some (.int x)) (hv : x + Int32.ofInt n = v) (hn : i < nL) (kk : jf_X sh E G nL (pc + 3) (jf_s1 i (.int v) L) st σ) : jf_X sh E G nL pc L st σ := by
  intro H locs ls hP hS hl
  obtain ⟨j, hj⟩ := jf_lk_ix hj
  exact lv_iinc C.1 C.2.1 hd hl hj hv hn rfl (fun ls' hl' => kk H locs ls' hP hS hl')
theorem jr_iadd (C : jf_C sh E G nL cc own d) {x y : Int32} (hd : decode cc pc = .ok (.iadd, 1)) (k : jf_X sh E G nL (pc + 1) L (.int (x + y) :: st) σ) : jf_X sh E G nL pc L (.int y :: .int x :: st) σ := by
  intro H locs ls hP hS hl
  exact lv_iadd C.1 C.2.1 hd (k H locs ls hP hS hl)
theorem jr_isub (C : jf_C sh E G nL cc own d) {x y : Int32} (hd : decode cc pc = .ok (.isub, 1)) (k : jf_X sh E G nL (pc + 1) L (.int (x - y) :: st) σ) : jf_X sh E G nL pc L (.int y :: .int x :: st) σ := by
  intro H locs ls hP hS hl
  exact lv_isub C.1 C.2.1 hd (k H locs ls hP hS hl)
theorem jr_imul (C : jf_C sh E G nL cc own d) {x y : Int32} (hd : decode cc pc = .ok (.imul, 1)) (k : jf_X sh E G nL (pc + 1) L (.int (x * y) :: st) σ) : jf_X sh E G nL pc L (.int y :: .int x :: st) σ := by
  intro H locs ls hP hS hl
  exact lv_imul C.1 C.2.1 hd (k H locs ls hP hS hl)
theorem jr_iand (C : jf_C sh E G nL cc own d) {x y : Int32} (hd : decode cc pc = .ok (.iand, 1)) (k : jf_X sh E G nL (pc + 1) L (.int (x &&& y) :: st) σ) : jf_X sh E G nL pc L (.int y :: .int x :: st) σ := by
  intro H locs ls hP hS hl
  exact lv_iand C.1 C.2.1 hd (k H locs ls hP hS hl)
theorem jr_ior (C : jf_C sh E G nL cc own d) {x y : Int32} (hd : decode cc pc = .ok (.ior, 1)) (k : jf_X sh E G nL (pc + 1) L (.int (x ||| y) :: st) σ) : jf_X sh E G nL pc L (.int y :: .int x :: st) σ := by
  intro H locs ls hP hS hl
  exact lv_ior C.1 C.2.1 hd (k H locs ls hP hS hl)
theorem jr_ixor (C : jf_C sh E G nL cc own d) {x y : Int32} (hd : decode cc pc = .ok (.ixor, 1)) (k : jf_X sh E G nL (pc + 1) L (.int (x ^^^ y) :: st) σ) : jf_X sh E G nL pc L (.int y :: .int x :: st) σ := by
  intro H locs ls hP hS hl
  exact lv_ixor C.1 C.2.1 hd (k H locs ls hP hS hl)
theorem jr_ishl (C : jf_C sh E G nL cc own d) {x y : Int32} (hd : decode cc pc = .ok (.ishl, 1)) (k : jf_X sh E G nL (pc + 1) L (.int (x <<< (y &&& 31)) :: st) σ) : jf_X sh E G nL pc L (.int y :: .int x :: st) σ := by
  intro H locs ls hP hS hl
  exact lv_ishl C.1 C.2.1 hd (k H locs ls hP hS hl)
theorem jr_ishr (C : jf_C sh E G nL cc own d) {x y : Int32} (hd : decode cc pc = .ok (.ishr, 1)) (k : jf_X sh E G nL (pc + 1) L (.int (x >>> (y &&& 31)) :: st) σ) : jf_X sh E G nL pc L (.int y :: .int x :: st) σ := by
  intro H locs ls hP hS hl
  exact lv_ishr C.1 C.2.1 hd (k H locs ls hP hS hl)
theorem jr_iushr (C : jf_C sh E G nL cc own d) {x y : Int32} (hd : decode cc pc = .ok (.iushr, 1)) (k : jf_X sh E G nL (pc + 1) L (.int ((x.toUInt32 >>> (y.toUInt32 &&& Int32.toUInt32 31)).toInt32) :: st) σ) : jf_X sh E G nL pc L (.int y :: .int x :: st) σ := by
  intro H locs ls hP hS hl
  exact lv_iushr C.1 C.2.1 hd rfl (k H locs ls hP hS hl)
theorem jr_idiv (C : jf_C sh E G nL cc own d) {x y : Int32} (hd : decode cc pc = .ok (.idiv, 1)) (hne : ¬ y = 0) (k : jf_X sh E G nL (pc + 1) L (.int (x / y) :: st) σ) : jf_X sh E G nL pc L (.int y :: .int x :: st) σ := by
  intro H locs ls hP hS hl
  exact lv_idiv C.1 C.2.1 hd hne (k H locs ls hP hS hl)
theorem jr_irem (C : jf_C sh E G nL cc own d) {x y : Int32} (hd : decode cc pc = .ok (.irem, 1)) (hne : ¬ y = 0) (k : jf_X sh E G nL (pc + 1) L (.int (x - x / y * y) :: st) σ) : jf_X sh E G nL pc L (.int y :: .int x :: st) σ := by
  intro H locs ls hP hS hl
  exact lv_irem C.1 C.2.1 hd hne (k H locs ls hP hS hl)
theorem jr_ladd (C : jf_C sh E G nL cc own d) {x y : Int64} (hd : decode cc pc = .ok (.ladd, 1)) (k : jf_X sh E G nL (pc + 1) L (.long (x + y) :: st) σ) : jf_X sh E G nL pc L (.long y :: .long x :: st) σ := by
  intro H locs ls hP hS hl
  exact lv_ladd C.1 C.2.1 hd (k H locs ls hP hS hl)
theorem jr_lsub (C : jf_C sh E G nL cc own d) {x y : Int64} (hd : decode cc pc = .ok (.lsub, 1)) (k : jf_X sh E G nL (pc + 1) L (.long (x - y) :: st) σ) : jf_X sh E G nL pc L (.long y :: .long x :: st) σ := by
  intro H locs ls hP hS hl
  exact lv_lsub C.1 C.2.1 hd (k H locs ls hP hS hl)
theorem jr_lmul (C : jf_C sh E G nL cc own d) {x y : Int64} (hd : decode cc pc = .ok (.lmul, 1)) (k : jf_X sh E G nL (pc + 1) L (.long (x * y) :: st) σ) : jf_X sh E G nL pc L (.long y :: .long x :: st) σ := by
  intro H locs ls hP hS hl
  exact lv_lmul C.1 C.2.1 hd (k H locs ls hP hS hl)
theorem jr_land (C : jf_C sh E G nL cc own d) {x y : Int64} (hd : decode cc pc = .ok (.land, 1)) (k : jf_X sh E G nL (pc + 1) L (.long (x &&& y) :: st) σ) : jf_X sh E G nL pc L (.long y :: .long x :: st) σ := by
  intro H locs ls hP hS hl
  exact lv_land C.1 C.2.1 hd (k H locs ls hP hS hl)
theorem jr_lor (C : jf_C sh E G nL cc own d) {x y : Int64} (hd : decode cc pc = .ok (.lor, 1)) (k : jf_X sh E G nL (pc + 1) L (.long (x ||| y) :: st) σ) : jf_X sh E G nL pc L (.long y :: .long x :: st) σ := by
  intro H locs ls hP hS hl
  exact lv_lor C.1 C.2.1 hd (k H locs ls hP hS hl)
theorem jr_lxor (C : jf_C sh E G nL cc own d) {x y : Int64} (hd : decode cc pc = .ok (.lxor, 1)) (k : jf_X sh E G nL (pc + 1) L (.long (x ^^^ y) :: st) σ) : jf_X sh E G nL pc L (.long y :: .long x :: st) σ := by
  intro H locs ls hP hS hl
  exact lv_lxor C.1 C.2.1 hd (k H locs ls hP hS hl)
theorem jr_lcmp (C : jf_C sh E G nL cc own d) {x y : Int64} (hd : decode cc pc = .ok (.lcmp, 1)) (k : jf_X sh E G nL (pc + 1) L (.int (lg_cmp x y) :: st) σ) : jf_X sh E G nL pc L (.long y :: .long x :: st) σ := by
  intro H locs ls hP hS hl
  exact W.lcmp C.1 C.2.1 hd (k H locs ls hP hS hl)
theorem jr_i2l (C : jf_C sh E G nL cc own d) {x : Int32} (hd : decode cc pc = .ok (.i2l, 1)) (k : jf_X sh E G nL (pc + 1) L (.long x.toInt64 :: st) σ) : jf_X sh E G nL pc L (.int x :: st) σ := by
  intro H locs ls hP hS hl
  exact lv_i2l C.1 C.2.1 hd rfl (k H locs ls hP hS hl)
theorem jr_l2i (C : jf_C sh E G nL cc own d) {x : Int64} (hd : decode cc pc = .ok (.l2i, 1)) (k : jf_X sh E G nL (pc + 1) L (.int x.toInt32 :: st) σ) : jf_X sh E G nL pc L (.long x :: st) σ := by
  intro H locs ls hP hS hl
  exact lv_l2i C.1 C.2.1 hd rfl (k H locs ls hP hS hl)
theorem jr_lshl (C : jf_C sh E G nL cc own d) {x : Int64} {y : Int32} (hd : decode cc pc = .ok (.lshl, 1)) (k : jf_X sh E G nL (pc + 1) L (.long (x <<< (y.toInt64 &&& 63)) :: st) σ) : jf_X sh E G nL pc L (.int y :: .long x :: st) σ := by
  intro H locs ls hP hS hl
  exact lv_lshl C.1 C.2.1 hd rfl (k H locs ls hP hS hl)
theorem jr_lshr (C : jf_C sh E G nL cc own d) {x : Int64} {y : Int32} (hd : decode cc pc = .ok (.lshr, 1)) (k : jf_X sh E G nL (pc + 1) L (.long (x >>> (y.toInt64 &&& 63)) :: st) σ) : jf_X sh E G nL pc L (.int y :: .long x :: st) σ := by
  intro H locs ls hP hS hl
  exact lv_lshr C.1 C.2.1 hd rfl (k H locs ls hP hS hl)
theorem jr_dup (C : jf_C sh E G nL cc own d) {a : Value} (hd : decode cc pc = .ok (.dup, 1)) (ha : a.category = 1) (k : jf_X sh E G nL (pc + 1) L (a :: a :: st) σ) : jf_X sh E G nL pc L (a :: st) σ := by
  intro H locs ls hP hS hl
  exact lv_dup C.1 C.2.1 hd ha (k H locs ls hP hS hl)
theorem jr_pop (C : jf_C sh E G nL cc own d) {a : Value} (hd : decode cc pc = .ok (.pop, 1)) (ha : a.category = 1) (k : jf_X sh E G nL (pc + 1) L st σ) : jf_X sh E G nL pc L (a :: st) σ := by
  intro H locs ls hP hS hl
  exact lv_pop C.1 C.2.1 hd ha (k H locs ls hP hS hl)
theorem jr_dup_x1 (C : jf_C sh E G nL cc own d) {a b : Value} (hd : decode cc pc = .ok (.dup_x1, 1)) (ha : a.category = 1) (hb : b.category = 1) (k : jf_X sh E G nL (pc + 1) L (a :: b :: a :: st) σ) : jf_X sh E G nL pc L (a :: b :: st) σ := by
  intro H locs ls hP hS hl
  exact lv_dup_x1 C.1 C.2.1 hd ha hb (k H locs ls hP hS hl)
theorem jr_dup2 (C : jf_C sh E G nL cc own d) {a b : Value} (hd : decode cc pc = .ok (.dup2, 1)) (ha : a.category = 1) (hb : b.category = 1) (k : jf_X sh E G nL (pc + 1) L (a :: b :: a :: b :: st) σ) : jf_X sh E G nL pc L (a :: b :: st) σ := by
  intro H locs ls hP hS hl
  exact lv_dup2_11 C.1 C.2.1 hd ha hb (k H locs ls hP hS hl)
theorem jr_if_eq (C : jf_C sh E G nL cc own d) {x : Int32} {off : Int} (tgt : Nat) (hd : decode cc pc = .ok (.ifCond .eq off, 3)) (ht : (pc : Int) + off = (tgt : Int)) (kt : x = 0 → jf_X sh E G nL tgt L st σ) (kf : ¬ x = 0 → jf_X sh E G nL (pc + 3) L st σ) : jf_X sh E G nL pc L (.int x :: st) σ := by
  intro H locs ls hP hS hl
  exact lv_if_eq C.1 C.2.1 hd ht (fun q => kt q H locs ls hP hS hl) (fun q => kf q H locs ls hP hS hl)
theorem jr_if_ne (C : jf_C sh E G nL cc own d) {x : Int32} {off : Int} (tgt : Nat) (hd : decode cc pc = .ok (.ifCond .ne off, 3)) (ht : (pc : Int) + off = (tgt : Int)) (kt : ¬ x = 0 → jf_X sh E G nL tgt L st σ) (kf : x = 0 → jf_X sh E G nL (pc + 3) L st σ) : jf_X sh E G nL pc L (.int x :: st) σ := by
  intro H locs ls hP hS hl
  exact lv_if_ne C.1 C.2.1 hd ht (fun q => kt q H locs ls hP hS hl) (fun q => kf q H locs ls hP hS hl)
theorem jr_if_lt (C : jf_C sh E G nL cc own d) {x : Int32} {off : Int} (tgt : Nat) (hd : decode cc pc = .ok (.ifCond .lt off, 3)) (ht : (pc : Int) + off = (tgt : Int)) (kt : x < 0 → jf_X sh E G nL tgt L st σ) (kf : ¬ x < 0 → jf_X sh E G nL (pc + 3) L st σ) : jf_X sh E G nL pc L (.int x :: st) σ := by
  intro H locs ls hP hS hl
  exact lv_if_lt C.1 C.2.1 hd ht (fun q => kt q H locs ls hP hS hl) (fun q => kf q H locs ls hP hS hl)
theorem jr_if_ge (C : jf_C sh E G nL cc own d) {x : Int32} {off : Int} (tgt : Nat) (hd : decode cc pc = .ok (.ifCond .ge off, 3)) (ht : (pc : Int) + off = (tgt : Int)) (kt : 0 ≤ x → jf_X sh E G nL tgt L st σ) (kf : ¬ 0 ≤ x → jf_X sh E G nL (pc + 3) L st σ) : jf_X sh E G nL pc L (.int x :: st) σ := by
  intro H locs ls hP hS hl
  exact lv_if_ge C.1 C.2.1 hd ht (fun q => kt q H locs ls hP hS hl) (fun q => kf q H locs ls hP hS hl)
theorem jr_if_gt (C : jf_C sh E G nL cc own d) {x : Int32} {off : Int} (tgt : Nat) (hd : decode cc pc = .ok (.ifCond .gt off, 3)) (ht : (pc : Int) + off = (tgt : Int)) (kt : 0 < x → jf_X sh E G nL tgt L st σ) (kf : ¬ 0 < x → jf_X sh E G nL (pc + 3) L st σ) : jf_X sh E G nL pc L (.int x :: st) σ := by
  intro H locs ls hP hS hl
  exact lv_if_gt C.1 C.2.1 hd ht (fun q => kt q H locs ls hP hS hl) (fun q => kf q H locs ls hP hS hl)
theorem jr_if_le (C : jf_C sh E G nL cc own d) {x : Int32} {off : Int} (tgt : Nat) (hd : decode cc pc = .ok (.ifCond .le off, 3)) (ht : (pc : Int) + off = (tgt : Int)) (kt : x ≤ 0 → jf_X sh E G nL tgt L st σ) (kf : ¬ x ≤ 0 → jf_X sh E G nL (pc + 3) L st σ) : jf_X sh E G nL pc L (.int x :: st) σ := by
  intro H locs ls hP hS hl
  exact lv_if_le C.1 C.2.1 hd ht (fun q => kt q H locs ls hP hS hl) (fun q => kf q H locs ls hP hS hl)
theorem jr_icmp_eq (C : jf_C sh E G nL cc own d) {x y : Int32} {off : Int} (tgt : Nat) (hd : decode cc pc = .ok (.if_icmp .eq off, 3)) (ht : (pc : Int) + off = (tgt : Int)) (kt : x = y → jf_X sh E G nL tgt L st σ) (kf : ¬ x = y → jf_X sh E G nL (pc + 3) L st σ) : jf_X sh E G nL pc L (.int y :: .int x :: st) σ := by
  intro H locs ls hP hS hl
  exact lv_icmp_eq C.1 C.2.1 hd ht (fun q => kt q H locs ls hP hS hl) (fun q => kf q H locs ls hP hS hl)
theorem jr_icmp_ne (C : jf_C sh E G nL cc own d) {x y : Int32} {off : Int} (tgt : Nat) (hd : decode cc pc = .ok (.if_icmp .ne off, 3)) (ht : (pc : Int) + off = (tgt : Int)) (kt : ¬ x = y → jf_X sh E G nL tgt L st σ) (kf : x = y → jf_X sh E G nL (pc + 3) L st σ) : jf_X sh E G nL pc L (.int y :: .int x :: st) σ := by
  intro H locs ls hP hS hl
  exact lv_icmp_ne C.1 C.2.1 hd ht (fun q => kt q H locs ls hP hS hl) (fun q => kf q H locs ls hP hS hl)
theorem jr_icmp_lt (C : jf_C sh E G nL cc own d) {x y : Int32} {off : Int} (tgt : Nat) (hd : decode cc pc = .ok (.if_icmp .lt off, 3)) (ht : (pc : Int) + off = (tgt : Int)) (kt : x < y → jf_X sh E G nL tgt L st σ) (kf : ¬ x < y → jf_X sh E G nL (pc + 3) L st σ) : jf_X sh E G nL pc L (.int y :: .int x :: st) σ := by
  intro H locs ls hP hS hl
  exact lv_icmp_lt C.1 C.2.1 hd ht (fun q => kt q H locs ls hP hS hl) (fun q => kf q H locs ls hP hS hl)
theorem jr_icmp_ge (C : jf_C sh E G nL cc own d) {x y : Int32} {off : Int} (tgt : Nat) (hd : decode cc pc = .ok (.if_icmp .ge off, 3)) (ht : (pc : Int) + off = (tgt : Int)) (kt : y ≤ x → jf_X sh E G nL tgt L st σ) (kf : ¬ y ≤ x → jf_X sh E G nL (pc + 3) L st σ) : jf_X sh E G nL pc L (.int y :: .int x :: st) σ := by
  intro H locs ls hP hS hl
  exact lv_icmp_ge C.1 C.2.1 hd ht (fun q => kt q H locs ls hP hS hl) (fun q => kf q H locs ls hP hS hl)
theorem jr_icmp_gt (C : jf_C sh E G nL cc own d) {x y : Int32} {off : Int} (tgt : Nat) (hd : decode cc pc = .ok (.if_icmp .gt off, 3)) (ht : (pc : Int) + off = (tgt : Int)) (kt : y < x → jf_X sh E G nL tgt L st σ) (kf : ¬ y < x → jf_X sh E G nL (pc + 3) L st σ) : jf_X sh E G nL pc L (.int y :: .int x :: st) σ := by
  intro H locs ls hP hS hl
  exact lv_icmp_gt C.1 C.2.1 hd ht (fun q => kt q H locs ls hP hS hl) (fun q => kf q H locs ls hP hS hl)
theorem jr_icmp_le (C : jf_C sh E G nL cc own d) {x y : Int32} {off : Int} (tgt : Nat) (hd : decode cc pc = .ok (.if_icmp .le off, 3)) (ht : (pc : Int) + off = (tgt : Int)) (kt : x ≤ y → jf_X sh E G nL tgt L st σ) (kf : ¬ x ≤ y → jf_X sh E G nL (pc + 3) L st σ) : jf_X sh E G nL pc L (.int y :: .int x :: st) σ := by
  intro H locs ls hP hS hl
  exact lv_icmp_le C.1 C.2.1 hd ht (fun q => kt q H locs ls hP hS hl) (fun q => kf q H locs ls hP hS hl)
theorem jr_goto (C : jf_C sh E G nL cc own d) {off : Int} (tgt : Nat) (hd : decode cc pc = .ok (.goto off, 3)) (ht : (pc : Int) + off = (tgt : Int)) (k : jf_X sh E G nL tgt L st σ) : jf_X sh E G nL pc L st σ := by
  intro H locs ls hP hS hl
  exact lv_goto C.1 C.2.1 hd ht (k H locs ls hP hS hl)
theorem jr_tabOut (C : jf_C sh E G nL cc own d) {dflt lo hi : Int} {offs : Array Int} {len : Nat} {x : Int32} (tgt : Nat) (hd : decode cc pc = .ok (.tableswitch dflt lo hi offs, len)) (h : x.toInt < lo ∨ hi < x.toInt) (ht : (pc : Int) + dflt = (tgt : Int)) (k : jf_X sh E G nL tgt L st σ) : jf_X sh E G nL pc L (.int x :: st) σ := by
  intro H locs ls hP hS hl
  exact lv_tableOut C.1 C.2.1 hd h ht (k H locs ls hP hS hl)
theorem jr_tabIn (C : jf_C sh E G nL cc own d) {dflt lo hi : Int} {offs : Array Int} {len : Nat} {x : Int32} {off : Int} (tgt : Nat) (hd : decode cc pc = .ok (.tableswitch dflt lo hi offs, len)) (h1 : ¬ x.toInt < lo) (h2 : ¬ hi < x.toInt) (ho : offs[(x.toInt - lo).toNat]? = some off) (ht : (pc : Int) + off = (tgt : Int)) (k : jf_X sh E G nL tgt L st σ) : jf_X sh E G nL pc L (.int x :: st) σ := by
  intro H locs ls hP hS hl
  exact lv_tableIn C.1 C.2.1 hd h1 h2 ho ht (k H locs ls hP hS hl)
theorem jr_get (C : jf_C sh E G nL cc own d) {idx k j : Nat} {kd : Option (Option Nat)} (hf : jf_f sh own idx k j kd) (hd : decode cc pc = .ok (.getfield idx, 3)) (kk : jf_X sh E G nL (pc + 3) L (jf_v E σ k j kd :: st) σ) : jf_X sh E G nL pc L (jf_r E k :: st) σ := by
  intro H locs ls hP hS hl
  obtain ⟨ci, fs, C0, T, N, h1, h2, h3, h4, h5, h6⟩ := hf
  exact va_get (D := jf_D E) (Ts := jf_tb) C.1 C.2.1 C.2.2.2.2.1 h5 C.2.2.2.1 C.2.2.2.2.2.1 hP k (jf_w_at h1) h3 j h4 (C.2.2.2.2.1 _ h6) (fun _ h9 => h9) (by rw [List.getElem?_mapIdx, h2]; rfl) hd (kk H locs ls hP hS hl)
theorem jr_geti (C : jf_C sh E G nL cc own d) {idx k j : Nat} (hf : jf_f sh own idx k j none) (hd : decode cc pc = .ok (.getfield idx, 3)) (kk : jf_X sh E G nL (pc + 3) L (.int (σ.1 k j) :: st) σ) : jf_X sh E G nL pc L (jf_r E k :: st) σ := by
  intro H locs ls hP hS hl
  exact jr_get C hf hd kk H locs ls hP hS hl
theorem jr_getl (C : jf_C sh E G nL cc own d) {idx k j : Nat} (hf : jf_f sh own idx k j (some none)) (hd : decode cc pc = .ok (.getfield idx, 3)) (kk : jf_X sh E G nL (pc + 3) L (.long (σ.2 k j) :: st) σ) : jf_X sh E G nL pc L (jf_r E k :: st) σ := by
  intro H locs ls hP hS hl
  exact jr_get C hf hd kk H locs ls hP hS hl
theorem jr_getr (C : jf_C sh E G nL cc own d) {idx k j q : Nat} (hf : jf_f sh own idx k j (some (some q))) (hd : decode cc pc = .ok (.getfield idx, 3)) (kk : jf_X sh E G nL (pc + 3) L (jf_r E q :: st) σ) : jf_X sh E G nL pc L (jf_r E k :: st) σ := by
  intro H locs ls hP hS hl
  exact jr_get C hf hd kk H locs ls hP hS hl
theorem jr_puti (C : jf_C sh E G nL cc own d) {idx k j : Nat} {v : Int32} (hf : jf_p sh own idx k j none .int) (hd : decode cc pc = .ok (.putfield idx, 3)) (kk : jf_X sh E G nL (pc + 3) L st (jf_i σ k j v)) : jf_X sh E G nL pc L (.int v :: jf_r E k :: st) σ := by
  intro H locs ls hP hS hl
  obtain ⟨ci, fs, C0, T, N, ty0, h1, h2, h3, h4, h5, h6, h7, h8, h9, hA⟩ := hf
  refine va_put (D := jf_D E) (Ts := jf_tb) (A := jf_A sh E) C.1 C.2.1 C.2.2.2.2.1 h5 ty0 h7 h8 C.2.2.2.1 C.2.2.2.2.2.1 hP (jf_Dd σ C.2.2.2.2.2.2.1) hS k (jf_w_at h1) h3 j h4 (C.2.2.2.2.1 _ h6) (fun _ h9 => h9) h9 hA (vp_nar_int v) rfl (by rw [List.length_mapIdx]; exact (List.getElem?_eq_some_iff.mp h2).1) hd (fun H1 locs1 q1 _ q3 => kk H1 locs1 ls ?_ q3 hl)
  have q1 := q1
  rw [jf_seti h1 h2] at q1
  exact q1
theorem jr_putz (C : jf_C sh E G nL cc own d) {idx k j : Nat} {v : Int32} (hf : jf_p sh own idx k j none .boolean) (hv : v = 0 ∨ v = 1) (hd : decode cc pc = .ok (.putfield idx, 3)) (kk : jf_X sh E G nL (pc + 3) L st (jf_i σ k j v)) : jf_X sh E G nL pc L (.int v :: jf_r E k :: st) σ := by
  intro H locs ls hP hS hl
  obtain ⟨ci, fs, C0, T, N, ty0, h1, h2, h3, h4, h5, h6, h7, h8, h9, hA⟩ := hf
  refine va_put (D := jf_D E) (Ts := jf_tb) (A := jf_A sh E) C.1 C.2.1 C.2.2.2.2.1 h5 ty0 h7 h8 C.2.2.2.1 C.2.2.2.2.2.1 hP (jf_Dd σ C.2.2.2.2.2.2.1) hS k (jf_w_at h1) h3 j h4 (C.2.2.2.2.1 _ h6) (fun _ h9 => h9) h9 hA (by rcases hv with rfl | rfl <;> rfl) (by rcases hv with rfl | rfl <;> rfl) (by rw [List.length_mapIdx]; exact (List.getElem?_eq_some_iff.mp h2).1) hd (fun H1 locs1 q1 _ q3 => kk H1 locs1 ls ?_ q3 hl)
  have q1 := q1
  rw [jf_seti h1 h2] at q1
  exact q1
theorem jr_putl (C : jf_C sh E G nL cc own d) {idx k j : Nat} {v : Int64} (hf : jf_p sh own idx k j (some none) .long) (hd : decode cc pc = .ok (.putfield idx, 3)) (kk : jf_X sh E G nL (pc + 3) L st (jf_l σ k j v)) : jf_X sh E G nL pc L (.long v :: jf_r E k :: st) σ := by
  intro H locs ls hP hS hl
  obtain ⟨ci, fs, C0, T, N, ty0, h1, h2, h3, h4, h5, h6, h7, h8, h9, hA⟩ := hf
  refine va_put (D := jf_D E) (Ts := jf_tb) (A := jf_A sh E) C.1 C.2.1 C.2.2.2.2.1 h5 ty0 h7 h8 C.2.2.2.1 C.2.2.2.2.2.1 hP (jf_Dd σ C.2.2.2.2.2.2.1) hS k (jf_w_at h1) h3 j h4 (C.2.2.2.2.1 _ h6) (fun _ h9 => h9) h9 hA rfl rfl (by rw [List.length_mapIdx]; exact (List.getElem?_eq_some_iff.mp h2).1) hd (fun H1 locs1 q1 _ q3 => kk H1 locs1 ls ?_ q3 hl)
  have q1 := q1
  rw [jf_setl h1 h2] at q1
  exact q1
theorem jr_iald (C : jf_C sh E G nL cc own d) {k n : Nat} {i : Int32} (hk : sh[k]? = some (.inr (0, n))) (hd : decode cc pc = .ok (.iaload, 1)) (hin : vp_in i n) (kk : jf_X sh E G nL (pc + 1) L (.int (σ.1 k i.toNatClampNeg) :: st) σ) : jf_X sh E G nL pc L (.int i :: jf_r E k :: st) σ := by
  intro H locs ls hP hS hl
  exact va_iald C.1 C.2.1 C.2.2.2.2.2.1 hP k 0 (jf_w_at hk) rfl hin hd (kk H locs ls hP hS hl)
theorem jr_zald (C : jf_C sh E G nL cc own d) {k n : Nat} {i : Int32} (hk : sh[k]? = some (.inr (1, n))) (hd : decode cc pc = .ok (.baload, 1)) (hin : vp_in i n) (kk : jf_X sh E G nL (pc + 1) L (.int (σ.1 k i.toNatClampNeg) :: st) σ) : jf_X sh E G nL pc L (.int i :: jf_r E k :: st) σ := by
  intro H locs ls hP hS hl
  exact va_zald C.1 C.2.1 C.2.2.2.2.2.1 hP k 1 (jf_w_at hk) rfl hin hd (kk H locs ls hP hS hl)
theorem jr_iast (C : jf_C sh E G nL cc own d) {k n : Nat} {i x : Int32} (hk : sh[k]? = some (.inr (0, n))) (hd : decode cc pc = .ok (.iastore, 1)) (hin : vp_in i n) (kk : jf_X sh E G nL (pc + 1) L st (jf_i σ k i.toNatClampNeg x)) : jf_X sh E G nL pc L (.int x :: .int i :: jf_r E k :: st) σ := by
  intro H locs ls hP hS hl
  refine va_iast C.1 C.2.1 C.2.2.2.2.2.1 hP (jf_Dd σ C.2.2.2.2.2.2.1) hS k 0 (jf_w_at hk) rfl hin hd (fun H1 locs1 q1 _ q3 => kk H1 locs1 ls ?_ q3 hl)
  have q1 := q1
  rw [jf_seta hk] at q1
  exact q1
theorem jr_zast (C : jf_C sh E G nL cc own d) {k n : Nat} {i x : Int32} (hk : sh[k]? = some (.inr (1, n))) (hd : decode cc pc = .ok (.bastore, 1)) (hin : vp_in i n) (hx : x = 0 ∨ x = 1) (kk : jf_X sh E G nL (pc + 1) L st (jf_i σ k i.toNatClampNeg x)) : jf_X sh E G nL pc L (.int x :: .int i :: jf_r E k :: st) σ := by
  intro H locs ls hP hS hl
  refine va_zast C.1 C.2.1 C.2.2.2.2.2.1 hP (jf_Dd σ C.2.2.2.2.2.2.1) hS k 1 (jf_w_at hk) rfl hin hd (fun H1 locs1 q1 _ q3 => kk H1 locs1 ls ?_ q3 hl)
  have q1 := q1
  rw [show vp_nar .boolean x = x by rcases hx with rfl | rfl <;> rfl] at q1
  rw [jf_seta hk] at q1
  exact q1
theorem jr_sub (L' : List (Nat × Value)) (hL : L'.map (fun q => jf_lk q.1 L) = L'.map (fun q => some q.2)) (k : jf_X sh E G nL pc L' st σ) : jf_X sh E G nL pc L st σ := fun H locs ls hP hS hl => k H locs ls hP hS (jf_sub hl hL)
theorem jr_topi {x : Int32} (k : ∀ y : Int32, y = x → jf_X sh E G nL pc L (.int y :: st) σ) : jf_X sh E G nL pc L (.int x :: st) σ := k x rfl
theorem jr_topl {x : Int64} (k : ∀ y : Int64, y = x → jf_X sh E G nL pc L (.long y :: st) σ) : jf_X sh E G nL pc L (.long x :: st) σ := k x rfl
theorem jr_val {x y : Int32} (e : x = y) (k : jf_X sh E G nL pc L (.int y :: st) σ) : jf_X sh E G nL pc L (.int x :: st) σ := e ▸ k
theorem jr_st {τ : jf_S} (e : σ = τ) (k : jf_X sh E G nL pc L st τ) : jf_X sh E G nL pc L st σ := e ▸ k
theorem jr_mmin (C : jf_C sh E G nL cc own d) {x y : Int32} {idx : Nat} (hw : Cond.methodLink own idx Lib.Math.min.name ∈ jf_tb ∧ Cond.static Lib.Math.min.name ∈ jf_tb ∧ Cond.initialized "java/lang/Math" ∈ jf_tb ∧ Cond.code Lib.Math.min.name Lib.Math.min.code 2 (some .int) ∈ jf_tb) (hd0 : 1 ≤ d) (hr : (st.map fun v => v.category).sum ≤ 8) (hd : decode cc pc = .ok (.invokestatic idx, 3)) (kk : jf_X sh E G nL (pc + 3) L (.int (if y < x then y else x) :: st) σ) : jf_X sh E G nL pc L (.int y :: .int x :: st) σ := by
  intro H locs ls hP hS hl
  have h1 := C.2.2.2.2.2.2.2.1
  have h2 := C.2.2.2.2.2.2.2.2
  exact va_mmin C.1 C.2.1 (by rw [C.2.2.1]; exact hl.1.symm) C.2.2.2.1 (C.2.2.2.2.1 _ hw.1) (C.2.2.2.2.1 _ hw.2.1) (C.2.2.2.2.1 _ hw.2.2.1) (C.2.2.2.2.1 _ hw.2.2.2) (by omega) (by omega) (Nat.zero_le _) (Nat.zero_le _) hd (kk H locs ls hP hS hl)
theorem jr_mmax (C : jf_C sh E G nL cc own d) {x y : Int32} {idx : Nat} (hw : Cond.methodLink own idx Lib.Math.max.name ∈ jf_tb ∧ Cond.static Lib.Math.max.name ∈ jf_tb ∧ Cond.initialized "java/lang/Math" ∈ jf_tb ∧ Cond.code Lib.Math.max.name Lib.Math.max.code 2 (some .int) ∈ jf_tb) (hd0 : 1 ≤ d) (hr : (st.map fun v => v.category).sum ≤ 8) (hd : decode cc pc = .ok (.invokestatic idx, 3)) (kk : jf_X sh E G nL (pc + 3) L (.int (if x < y then y else x) :: st) σ) : jf_X sh E G nL pc L (.int y :: .int x :: st) σ := by
  intro H locs ls hP hS hl
  have h1 := C.2.2.2.2.2.2.2.1
  have h2 := C.2.2.2.2.2.2.2.2
  exact va_mmax C.1 C.2.1 (by rw [C.2.2.1]; exact hl.1.symm) C.2.2.2.1 (C.2.2.2.2.1 _ hw.1) (C.2.2.2.2.1 _ hw.2.1) (C.2.2.2.2.1 _ hw.2.2.1) (C.2.2.2.2.1 _ hw.2.2.2) (by omega) (by omega) (Nat.zero_le _) (Nat.zero_le _) hd (kk H locs ls hP hS hl)
end JR
/-! contracts -/
/-- a method that answers an int (or a boolean): from the state σ with these arguments it returns, and 'post answer state' -/
def jf_I (sh : List jf_K) (E : jf_E) (y : MethodName) (cc : ByteArray) (maxL : Nat) (ret : FieldType) (d : Nat) (As : List Value) (σ : jf_S) (post : Int32 → jf_S → Prop) : Prop :=
  Met E.1 y (.code y cc maxL (some ret) :: jf_tb) (jf_rm d) (va_Pc As (jf_B sh E σ)) (va_Qi post (jf_B sh E) (jf_A sh E)) 0 0 (jf_A sh E)
def jf_V (sh : List jf_K) (E : jf_E) (y : MethodName) (cc : ByteArray) (maxL : Nat) (d : Nat) (As : List Value) (σ : jf_S) (post : jf_S → Prop) : Prop :=
  Met E.1 y (.code y cc maxL none :: jf_tb) (jf_rm d) (va_Pc As (jf_B sh E σ)) (va_Qv post (jf_B sh E) (jf_A sh E)) 0 0 (jf_A sh E)
def jf_O (sh : List jf_K) (E : jf_E) (y : MethodName) (cc : ByteArray) (maxL : Nat) (d : Nat) (As : List Value) (σ : jf_S) (post : Int64 → jf_S → Prop) : Prop :=
  Met E.1 y (.code y cc maxL (some .long) :: jf_tb) (jf_rm d) (va_Pc As (jf_B sh E σ)) (va_Ql post (jf_B sh E) (jf_A sh E)) 0 0 (jf_A sh E)
set_option maxHeartbeats 1000000 in
theorem jf_mkI {sh : List jf_K} {E : jf_E} {y : MethodName} {cc : ByteArray} {maxL : Nat} {ret : FieldType} {d : Nat} {As : List Value} {σ : jf_S} {post : Int32 → jf_S → Prop} (hy : plainName y.cls = true) (hsl : (lg_sl As).length ≤ maxL)
    (body : ∀ G : jf_G, jf_C sh E G maxL cc y.cls d → (∀ (pc : Nat) (L : List (Nat × Value)) (v : Int32) (τ : jf_S), decode cc pc = .ok (.ireturn, 1) → narrow ret (.int v) = .int v → post v τ → jf_X sh E G maxL pc L [.int v] τ) → jf_X sh E G maxL 0 (lv_args 0 As) [] σ) : jf_I sh E y cc maxL ret d As σ post := by
  refine Met.ofW (cc := cc) (maxL := maxL) (ret := some ret) hy rfl ?_
  intro p e s m args below meth c s₁ B hml hv
  obtain ⟨rfl, hP, hK, hJ⟩ := hv
  have hx := B.exec
  have hb := B.bytes
  have hr := B.returns
  have hts := atoms_spec (ws := .code y cc maxL (some ret) :: jf_tb) B.pre
  have hown : s.vm.findClass y.cls = some m.cls := findClass_of_methodNamed B.named
  have hlocks := B.notSynchronized
  have key := body (p, e, jf_rm d, s, m, As.toArray, below, meth, c, MQ below (va_Qi post (jf_B sh E) (jf_A sh E)) As.toArray s 0 0 (jf_A sh E)) ⟨hx, hb, hml, hown, fun w h => hts w (List.mem_cons_of_mem _ h), hK, hJ, Nat.le_refl _, Nat.le_refl _⟩ ?_
  · rw [lg_entry_eq]
    exact key s.heap [] _ hP va_S.rf (lv_entry As hsl)
  · intro pc L v τ hd hn hp H locs ls hP' hS hl
    exact W.zret (ty := ret) hx hb hr hn (fun t ht hW => ⟨⟨v, τ, rfl, hp, by rw [ht]; exact hP', va_K.moved hW.alike hK, hJ⟩, hS.F ht⟩) hS.2.2 hd hlocks
set_option maxHeartbeats 1000000 in
theorem jf_mkV {sh : List jf_K} {E : jf_E} {y : MethodName} {cc : ByteArray} {maxL : Nat} {d : Nat} {As : List Value} {σ : jf_S} {post : jf_S → Prop} (hy : plainName y.cls = true) (hsl : (lg_sl As).length ≤ maxL)
    (body : ∀ G : jf_G, jf_C sh E G maxL cc y.cls d → (∀ (pc : Nat) (L : List (Nat × Value)) (τ : jf_S), decode cc pc = .ok (.return_, 1) → post τ → jf_X sh E G maxL pc L [] τ) → jf_X sh E G maxL 0 (lv_args 0 As) [] σ) : jf_V sh E y cc maxL d As σ post := by
  refine Met.ofW (cc := cc) (maxL := maxL) (ret := none) hy rfl ?_
  intro p e s m args below meth c s₁ B hml hv
  obtain ⟨rfl, hP, hK, hJ⟩ := hv
  have hx := B.exec
  have hb := B.bytes
  have hr := B.returns
  have hts := atoms_spec (ws := .code y cc maxL (none) :: jf_tb) B.pre
  have hown : s.vm.findClass y.cls = some m.cls := findClass_of_methodNamed B.named
  have hlocks := B.notSynchronized
  have key := body (p, e, jf_rm d, s, m, As.toArray, below, meth, c, MQ below (va_Qv post (jf_B sh E) (jf_A sh E)) As.toArray s 0 0 (jf_A sh E)) ⟨hx, hb, hml, hown, fun w h => hts w (List.mem_cons_of_mem _ h), hK, hJ, Nat.le_refl _, Nat.le_refl _⟩ ?_
  · rw [lg_entry_eq]
    exact key s.heap [] _ hP va_S.rf (lv_entry As hsl)
  · intro pc L τ hd hp H locs ls hP' hS hl
    exact W.vret hx hb hr (fun t ht hW => ⟨⟨τ, rfl, hp, by rw [ht]; exact hP', va_K.moved hW.alike hK, hJ⟩, hS.F ht⟩) hS.2.2 hd hlocks
set_option maxHeartbeats 1000000 in
theorem jf_mkO {sh : List jf_K} {E : jf_E} {y : MethodName} {cc : ByteArray} {maxL : Nat} {d : Nat} {As : List Value} {σ : jf_S} {post : Int64 → jf_S → Prop} (hy : plainName y.cls = true) (hsl : (lg_sl As).length ≤ maxL)
    (body : ∀ G : jf_G, jf_C sh E G maxL cc y.cls d → (∀ (pc : Nat) (L : List (Nat × Value)) (v : Int64) (τ : jf_S), decode cc pc = .ok (.lreturn, 1) → post v τ → jf_X sh E G maxL pc L [.long v] τ) → jf_X sh E G maxL 0 (lv_args 0 As) [] σ) : jf_O sh E y cc maxL d As σ post := by
  refine Met.ofW (cc := cc) (maxL := maxL) (ret := some .long) hy rfl ?_
  intro p e s m args below meth c s₁ B hml hv
  obtain ⟨rfl, hP, hK, hJ⟩ := hv
  have hx := B.exec
  have hb := B.bytes
  have hr := B.returns
  have hts := atoms_spec (ws := .code y cc maxL (some .long) :: jf_tb) B.pre
  have hown : s.vm.findClass y.cls = some m.cls := findClass_of_methodNamed B.named
  have hlocks := B.notSynchronized
  have key := body (p, e, jf_rm d, s, m, As.toArray, below, meth, c, MQ below (va_Ql post (jf_B sh E) (jf_A sh E)) As.toArray s 0 0 (jf_A sh E)) ⟨hx, hb, hml, hown, fun w h => hts w (List.mem_cons_of_mem _ h), hK, hJ, Nat.le_refl _, Nat.le_refl _⟩ ?_
  · rw [lg_entry_eq]
    exact key s.heap [] _ hP va_S.rf (lv_entry As hsl)
  · intro pc L v τ hd hp H locs ls hP' hS hl
    exact W.lret hx hb hr (fun t ht hW => ⟨⟨v, τ, rfl, hp, by rw [ht]; exact hP', va_K.moved hW.alike hK, hJ⟩, hS.F ht⟩) hS.2.2 hd hlocks
theorem jf_blind {sh : List jf_K} {E : jf_E} {σ : jf_S} {As : List Value} : FrameBlind (va_Pc As (jf_B sh E σ)) := fun a U g mk q => by
  obtain ⟨q0, qP, qK, qJ⟩ := q
  exact ⟨q0, qP, va_K.moved (u := U) (U := U.calling g mk a) (Vm.Alike.refl U.vm) qK, qJ⟩
set_option maxHeartbeats 1000000 in
theorem jr_vi {sh : List jf_K} {E : jf_E} {G : jf_G} {nL d pc : Nat} {cc : ByteArray} {own : String} {L : List (Nat × Value)} {st : List Value} {σ : jf_S} (C : jf_C sh E G nL cc own d) {idx k maxL' d' : Nat} {y : MethodName} {b' : ByteArray} {ret' : FieldType} {post : Int32 → jf_S → Prop} (As rest : List Value) (hM : jf_I sh E y b' maxL' ret' d' (jf_r E k :: As) σ post) (hy : jf_y y b' maxL' (some ret') As.length) (hyv : jf_yv y) (hk : jf_cl sh k y.cls) (hw : Cond.methodLink own idx y ∈ jf_tb) (hlev : d' + 1 ≤ d) (hst : st = As.reverse ++ jf_r E k :: rest) (hr : (rest.map fun v => v.category).sum ≤ 8) (hd : decode cc pc = .ok (.invokevirtual idx, 3)) (kk : ∀ (r : Int32) (τ : jf_S), post r τ → jf_X sh E G nL (pc + 3) L (.int r :: rest) τ) : jf_X sh E G nL pc L st σ := by
  intro H locs ls hP hS hl
  obtain ⟨ci, fs, T, N, h1, h2⟩ := hk
  have g1 := C.2.2.2.2.2.2.2.1
  have g2 := C.2.2.2.2.2.2.2.2
  have g3 := hy.2.2.2
  have hB : CallB G.2.2.1 G.2.2.2.1 G.2.2.2.2.2.1 own idx y b' maxL' (some ret') (.code y b' maxL' (some ret') :: jf_tb) (jf_rm d') 0 0 As.length :=
    callB_of As.length C.2.2.2.2.1 (jf_gin hy.1) rfl rfl rfl (C.2.2.2.2.1 _ hy.2.1) (C.2.2.2.2.1 _ hw) hy.2.2.1 ⟨by show d' + 1 ≤ _; omega, by show 8 + (maxL' + 11) + 64 * d' ≤ _; omega⟩
  refine va_calli (va_runV (As := As) (rest := rest) (C := y.cls) (Ts := jf_tb) ⟨C.1, C.2.1, C.2.2.1, C.2.2.2.1, C.2.2.2.2.1⟩ hM ⟨hB, C.2.2.2.2.1 _ hyv.1, C.2.2.2.2.1 _ hyv.2⟩ ⟨jf_blind, va_recv C.2.2.2.2.2.1 hP h2 (jf_w_at h1), fun U hU hW => ⟨rfl, by rw [hU]; exact hP, va_K.moved hW.alike C.2.2.2.2.2.1, C.2.2.2.2.2.2.1⟩⟩ rfl rfl hl.1 hst (lv_room hr) hd ⟨Nat.zero_le _, Nat.zero_le _⟩) hS (fun q _ h => h) (fun q h => h) (fun r u t H1 locs1 e1 e2 e3 e4 e5 e6 e7 => ?_)
  have hP1 : va_P (jf_D E) vwCl (jf_w sh E u) H1 := by rw [← e1]; exact e4.1
  exact kk r u e3 H1 locs1 ls hP1 e7 hl
set_option maxHeartbeats 1000000 in
theorem jr_si {sh : List jf_K} {E : jf_E} {G : jf_G} {nL d pc : Nat} {cc : ByteArray} {own : String} {L : List (Nat × Value)} {st : List Value} {σ : jf_S} (C : jf_C sh E G nL cc own d) {idx maxL' d' : Nat} {y : MethodName} {b' : ByteArray} {ret' : FieldType} {post : Int32 → jf_S → Prop} (As rest : List Value) (hM : jf_I sh E y b' maxL' ret' d' As σ post) (hy : jf_y y b' maxL' (some ret') As.length) (hys : Cond.static y ∈ jf_tb) (hw : Cond.methodLink own idx y ∈ jf_tb) (hlev : d' + 1 ≤ d) (hst : st = As.reverse ++ rest) (hr : (rest.map fun v => v.category).sum ≤ 8) (hd : decode cc pc = .ok (.invokestatic idx, 3)) (kk : ∀ (r : Int32) (τ : jf_S), post r τ → jf_X sh E G nL (pc + 3) L (.int r :: rest) τ) : jf_X sh E G nL pc L st σ := by
  intro H locs ls hP hS hl
  have g1 := C.2.2.2.2.2.2.2.1
  have g2 := C.2.2.2.2.2.2.2.2
  have g3 := hy.2.2.2
  have hB : CallB G.2.2.1 G.2.2.2.1 G.2.2.2.2.2.1 own idx y b' maxL' (some ret') (.code y b' maxL' (some ret') :: jf_tb) (jf_rm d') 0 0 As.length :=
    callB_of As.length C.2.2.2.2.1 (jf_gin hy.1) rfl rfl rfl (C.2.2.2.2.1 _ hy.2.1) (C.2.2.2.2.1 _ hw) hy.2.2.1 ⟨by show d' + 1 ≤ _; omega, by show 8 + (maxL' + 11) + 64 * d' ≤ _; omega⟩
  refine va_calli (va_runS (As := As) (rest := rest) (Ts := jf_tb) ⟨C.1, C.2.1, C.2.2.1, C.2.2.2.1, C.2.2.2.2.1⟩ hM ⟨hB, C.2.2.2.2.1 _ hys⟩ ⟨jf_blind, fun U hU hW => ⟨rfl, by rw [hU]; exact hP, va_K.moved hW.alike C.2.2.2.2.2.1, C.2.2.2.2.2.2.1⟩⟩ rfl rfl hl.1 hst (lv_room hr) hd ⟨Nat.zero_le _, Nat.zero_le _⟩) hS (fun q _ h => h) (fun q h => h) (fun r u t H1 locs1 e1 e2 e3 e4 e5 e6 e7 => ?_)
  have hP1 : va_P (jf_D E) vwCl (jf_w sh E u) H1 := by rw [← e1]; exact e4.1
  exact kk r u e3 H1 locs1 ls hP1 e7 hl
set_option maxHeartbeats 1000000 in
theorem jr_vv {sh : List jf_K} {E : jf_E} {G : jf_G} {nL d pc : Nat} {cc : ByteArray} {own : String} {L : List (Nat × Value)} {st : List Value} {σ : jf_S} (C : jf_C sh E G nL cc own d) {idx k maxL' d' : Nat} {y : MethodName} {b' : ByteArray} {post : jf_S → Prop} (As rest : List Value) (hM : jf_V sh E y b' maxL' d' (jf_r E k :: As) σ post) (hy : jf_y y b' maxL' (none) As.length) (hyv : jf_yv y) (hk : jf_cl sh k y.cls) (hw : Cond.methodLink own idx y ∈ jf_tb) (hlev : d' + 1 ≤ d) (hst : st = As.reverse ++ jf_r E k :: rest) (hr : (rest.map fun v => v.category).sum ≤ 8) (hd : decode cc pc = .ok (.invokevirtual idx, 3)) (kk : ∀ (τ : jf_S), post τ → jf_X sh E G nL (pc + 3) L rest τ) : jf_X sh E G nL pc L st σ := by
  intro H locs ls hP hS hl
  obtain ⟨ci, fs, T, N, h1, h2⟩ := hk
  have g1 := C.2.2.2.2.2.2.2.1
  have g2 := C.2.2.2.2.2.2.2.2
  have g3 := hy.2.2.2
  have hB : CallB G.2.2.1 G.2.2.2.1 G.2.2.2.2.2.1 own idx y b' maxL' (none) (.code y b' maxL' (none) :: jf_tb) (jf_rm d') 0 0 As.length :=
    callB_of As.length C.2.2.2.2.1 (jf_gin hy.1) rfl rfl rfl (C.2.2.2.2.1 _ hy.2.1) (C.2.2.2.2.1 _ hw) hy.2.2.1 ⟨by show d' + 1 ≤ _; omega, by show 8 + (maxL' + 11) + 64 * d' ≤ _; omega⟩
  refine va_callv (va_runV (As := As) (rest := rest) (C := y.cls) (Ts := jf_tb) ⟨C.1, C.2.1, C.2.2.1, C.2.2.2.1, C.2.2.2.2.1⟩ hM ⟨hB, C.2.2.2.2.1 _ hyv.1, C.2.2.2.2.1 _ hyv.2⟩ ⟨jf_blind, va_recv C.2.2.2.2.2.1 hP h2 (jf_w_at h1), fun U hU hW => ⟨rfl, by rw [hU]; exact hP, va_K.moved hW.alike C.2.2.2.2.2.1, C.2.2.2.2.2.2.1⟩⟩ rfl rfl hl.1 hst (lv_room hr) hd ⟨Nat.zero_le _, Nat.zero_le _⟩) hS (fun q _ h => h) (fun q h => h) (fun u t H1 locs1 e1 e2 e3 e4 e5 e6 e7 => ?_)
  have hP1 : va_P (jf_D E) vwCl (jf_w sh E u) H1 := by rw [← e1]; exact e4.1
  exact kk u e3 H1 locs1 ls hP1 e7 hl
set_option maxHeartbeats 1000000 in
theorem jr_sv {sh : List jf_K} {E : jf_E} {G : jf_G} {nL d pc : Nat} {cc : ByteArray} {own : String} {L : List (Nat × Value)} {st : List Value} {σ : jf_S} (C : jf_C sh E G nL cc own d) {idx maxL' d' : Nat} {y : MethodName} {b' : ByteArray} {post : jf_S → Prop} (As rest : List Value) (hM : jf_V sh E y b' maxL' d' As σ post) (hy : jf_y y b' maxL' (none) As.length) (hys : Cond.static y ∈ jf_tb) (hw : Cond.methodLink own idx y ∈ jf_tb) (hlev : d' + 1 ≤ d) (hst : st = As.reverse ++ rest) (hr : (rest.map fun v => v.category).sum ≤ 8) (hd : decode cc pc = .ok (.invokestatic idx, 3)) (kk : ∀ (τ : jf_S), post τ → jf_X sh E G nL (pc + 3) L rest τ) : jf_X sh E G nL pc L st σ := by
  intro H locs ls hP hS hl
  have g1 := C.2.2.2.2.2.2.2.1
  have g2 := C.2.2.2.2.2.2.2.2
  have g3 := hy.2.2.2
  have hB : CallB G.2.2.1 G.2.2.2.1 G.2.2.2.2.2.1 own idx y b' maxL' (none) (.code y b' maxL' (none) :: jf_tb) (jf_rm d') 0 0 As.length :=
    callB_of As.length C.2.2.2.2.1 (jf_gin hy.1) rfl rfl rfl (C.2.2.2.2.1 _ hy.2.1) (C.2.2.2.2.1 _ hw) hy.2.2.1 ⟨by show d' + 1 ≤ _; omega, by show 8 + (maxL' + 11) + 64 * d' ≤ _; omega⟩
  refine va_callv (va_runS (As := As) (rest := rest) (Ts := jf_tb) ⟨C.1, C.2.1, C.2.2.1, C.2.2.2.1, C.2.2.2.2.1⟩ hM ⟨hB, C.2.2.2.2.1 _ hys⟩ ⟨jf_blind, fun U hU hW => ⟨rfl, by rw [hU]; exact hP, va_K.moved hW.alike C.2.2.2.2.2.1, C.2.2.2.2.2.2.1⟩⟩ rfl rfl hl.1 hst (lv_room hr) hd ⟨Nat.zero_le _, Nat.zero_le _⟩) hS (fun q _ h => h) (fun q h => h) (fun u t H1 locs1 e1 e2 e3 e4 e5 e6 e7 => ?_)
  have hP1 : va_P (jf_D E) vwCl (jf_w sh E u) H1 := by rw [← e1]; exact e4.1
  exact kk u e3 H1 locs1 ls hP1 e7 hl
set_option maxHeartbeats 1000000 in
theorem jr_vl {sh : List jf_K} {E : jf_E} {G : jf_G} {nL d pc : Nat} {cc : ByteArray} {own : String} {L : List (Nat × Value)} {st : List Value} {σ : jf_S} (C : jf_C sh E G nL cc own d) {idx k maxL' d' : Nat} {y : MethodName} {b' : ByteArray} {post : Int64 → jf_S → Prop} (As rest : List Value) (hM : jf_O sh E y b' maxL' d' (jf_r E k :: As) σ post) (hy : jf_y y b' maxL' (some .long) As.length) (hyv : jf_yv y) (hk : jf_cl sh k y.cls) (hw : Cond.methodLink own idx y ∈ jf_tb) (hlev : d' + 1 ≤ d) (hst : st = As.reverse ++ jf_r E k :: rest) (hr : (rest.map fun v => v.category).sum ≤ 8) (hd : decode cc pc = .ok (.invokevirtual idx, 3)) (kk : ∀ (r : Int64) (τ : jf_S), post r τ → jf_X sh E G nL (pc + 3) L (.long r :: rest) τ) : jf_X sh E G nL pc L st σ := by
  intro H locs ls hP hS hl
  obtain ⟨ci, fs, T, N, h1, h2⟩ := hk
  have g1 := C.2.2.2.2.2.2.2.1
  have g2 := C.2.2.2.2.2.2.2.2
  have g3 := hy.2.2.2
  have hB : CallB G.2.2.1 G.2.2.2.1 G.2.2.2.2.2.1 own idx y b' maxL' (some .long) (.code y b' maxL' (some .long) :: jf_tb) (jf_rm d') 0 0 As.length :=
    callB_of As.length C.2.2.2.2.1 (jf_gin hy.1) rfl rfl rfl (C.2.2.2.2.1 _ hy.2.1) (C.2.2.2.2.1 _ hw) hy.2.2.1 ⟨by show d' + 1 ≤ _; omega, by show 8 + (maxL' + 11) + 64 * d' ≤ _; omega⟩
  refine va_calll (va_runV (As := As) (rest := rest) (C := y.cls) (Ts := jf_tb) ⟨C.1, C.2.1, C.2.2.1, C.2.2.2.1, C.2.2.2.2.1⟩ hM ⟨hB, C.2.2.2.2.1 _ hyv.1, C.2.2.2.2.1 _ hyv.2⟩ ⟨jf_blind, va_recv C.2.2.2.2.2.1 hP h2 (jf_w_at h1), fun U hU hW => ⟨rfl, by rw [hU]; exact hP, va_K.moved hW.alike C.2.2.2.2.2.1, C.2.2.2.2.2.2.1⟩⟩ rfl rfl hl.1 hst (lv_room hr) hd ⟨Nat.zero_le _, Nat.zero_le _⟩) hS (fun q _ h => h) (fun q h => h) (fun r u t H1 locs1 e1 e2 e3 e4 e5 e6 e7 => ?_)
  have hP1 : va_P (jf_D E) vwCl (jf_w sh E u) H1 := by rw [← e1]; exact e4.1
  exact kk r u e3 H1 locs1 ls hP1 e7 hl
set_option maxHeartbeats 1000000 in
theorem jr_sl {sh : List jf_K} {E : jf_E} {G : jf_G} {nL d pc : Nat} {cc : ByteArray} {own : String} {L : List (Nat × Value)} {st : List Value} {σ : jf_S} (C : jf_C sh E G nL cc own d) {idx maxL' d' : Nat} {y : MethodName} {b' : ByteArray} {post : Int64 → jf_S → Prop} (As rest : List Value) (hM : jf_O sh E y b' maxL' d' As σ post) (hy : jf_y y b' maxL' (some .long) As.length) (hys : Cond.static y ∈ jf_tb) (hw : Cond.methodLink own idx y ∈ jf_tb) (hlev : d' + 1 ≤ d) (hst : st = As.reverse ++ rest) (hr : (rest.map fun v => v.category).sum ≤ 8) (hd : decode cc pc = .ok (.invokestatic idx, 3)) (kk : ∀ (r : Int64) (τ : jf_S), post r τ → jf_X sh E G nL (pc + 3) L (.long r :: rest) τ) : jf_X sh E G nL pc L st σ := by
  intro H locs ls hP hS hl
  have g1 := C.2.2.2.2.2.2.2.1
  have g2 := C.2.2.2.2.2.2.2.2
  have g3 := hy.2.2.2
  have hB : CallB G.2.2.1 G.2.2.2.1 G.2.2.2.2.2.1 own idx y b' maxL' (some .long) (.code y b' maxL' (some .long) :: jf_tb) (jf_rm d') 0 0 As.length :=
    callB_of As.length C.2.2.2.2.1 (jf_gin hy.1) rfl rfl rfl (C.2.2.2.2.1 _ hy.2.1) (C.2.2.2.2.1 _ hw) hy.2.2.1 ⟨by show d' + 1 ≤ _; omega, by show 8 + (maxL' + 11) + 64 * d' ≤ _; omega⟩
  refine va_calll (va_runS (As := As) (rest := rest) (Ts := jf_tb) ⟨C.1, C.2.1, C.2.2.1, C.2.2.2.1, C.2.2.2.2.1⟩ hM ⟨hB, C.2.2.2.2.1 _ hys⟩ ⟨jf_blind, fun U hU hW => ⟨rfl, by rw [hU]; exact hP, va_K.moved hW.alike C.2.2.2.2.2.1, C.2.2.2.2.2.2.1⟩⟩ rfl rfl hl.1 hst (lv_room hr) hd ⟨Nat.zero_le _, Nat.zero_le _⟩) hS (fun q _ h => h) (fun q h => h) (fun r u t H1 locs1 e1 e2 e3 e4 e5 e6 e7 => ?_)
  have hP1 : va_P (jf_D E) vwCl (jf_w sh E u) H1 := by rw [← e1]; exact e4.1
  exact kk r u e3 H1 locs1 ls hP1 e7 hl
end
