section
-- ===== PART A: goes FIRST, ahead of the names: the tables' words, and 'selects' of the private methods out of them =====
/-- a private method of a class that the tables say can be made, by its rows of tables_1 -/
def lw_okq (q : MethodName × Nat) : Prop := (q.1.cls ≠ "java/lang/invoke/MethodHandle" ∧ q.1.cls ≠ "java/lang/invoke/VarHandle") ∧ Cond.instantiable q.1.cls q.2 ∈ tables_1 ∧ Cond.privateMethod q.1 ∈ tables_1 ∧ Cond.instanceMethod q.1 ∈ tables_1
theorem lw_p0 : lw_okq (⟨"Spliceroom", "isWearWithin", "(I)Z"⟩, 8) := ⟨⟨by decide +kernel, by decide +kernel⟩, List.mem_of_getElem? (i := 36) (by decide +kernel), List.mem_of_getElem? (i := 103) (by decide +kernel), List.mem_of_getElem? (i := 104) (by decide +kernel)⟩
theorem lw_p1 : lw_okq (⟨"Spliceroom", "arePassedGradesSound", "()Z"⟩, 8) := ⟨⟨by decide +kernel, by decide +kernel⟩, List.mem_of_getElem? (i := 36) (by decide +kernel), List.mem_of_getElem? (i := 133) (by decide +kernel), List.mem_of_getElem? (i := 134) (by decide +kernel)⟩
theorem lw_p2 : lw_okq (⟨"Spliceroom", "areVersionLengthsSound", "()Z"⟩, 8) := ⟨⟨by decide +kernel, by decide +kernel⟩, List.mem_of_getElem? (i := 36) (by decide +kernel), List.mem_of_getElem? (i := 146) (by decide +kernel), List.mem_of_getElem? (i := 147) (by decide +kernel)⟩
theorem lw_p3 : lw_okq (⟨"java/lang/Throwable", "fillInStackTrace", "(I)Ljava/lang/Throwable;"⟩, 6) := ⟨⟨by decide +kernel, by decide +kernel⟩, List.mem_of_getElem? (i := 230) (by decide +kernel), List.mem_of_getElem? (i := 228) (by decide +kernel), List.mem_of_getElem? (i := 229) (by decide +kernel)⟩
theorem lw_p4 : lw_okq (⟨"java/util/ArrayList", "add", "(Ljava/lang/Object;[Ljava/lang/Object;I)V"⟩, 3) := ⟨⟨by decide +kernel, by decide +kernel⟩, List.mem_of_getElem? (i := 44) (by decide +kernel), List.mem_of_getElem? (i := 281) (by decide +kernel), List.mem_of_getElem? (i := 282) (by decide +kernel)⟩
theorem lw_p5 : lw_okq (⟨"java/util/ArrayList", "grow", "()[Ljava/lang/Object;"⟩, 3) := ⟨⟨by decide +kernel, by decide +kernel⟩, List.mem_of_getElem? (i := 44) (by decide +kernel), List.mem_of_getElem? (i := 285) (by decide +kernel), List.mem_of_getElem? (i := 286) (by decide +kernel)⟩
theorem lw_p6 : lw_okq (⟨"java/util/ArrayList", "grow", "(I)[Ljava/lang/Object;"⟩, 3) := ⟨⟨by decide +kernel, by decide +kernel⟩, List.mem_of_getElem? (i := 44) (by decide +kernel), List.mem_of_getElem? (i := 289) (by decide +kernel), List.mem_of_getElem? (i := 290) (by decide +kernel)⟩
theorem lw_p7 : lw_okq (⟨"Spliceroom", "filmNumbered", "(I)LSpliceroom$Film;"⟩, 8) := ⟨⟨by decide +kernel, by decide +kernel⟩, List.mem_of_getElem? (i := 36) (by decide +kernel), List.mem_of_getElem? (i := 373) (by decide +kernel), List.mem_of_getElem? (i := 374) (by decide +kernel)⟩
theorem lw_p8 : lw_okq (⟨"Spliceroom", "requireLengthAndScene", "(II)V"⟩, 8) := ⟨⟨by decide +kernel, by decide +kernel⟩, List.mem_of_getElem? (i := 36) (by decide +kernel), List.mem_of_getElem? (i := 390) (by decide +kernel), List.mem_of_getElem? (i := 391) (by decide +kernel)⟩
theorem lw_p9 : lw_okq (⟨"Spliceroom", "newShot", "(LSpliceroom$Film;II)LSpliceroom$Shot;"⟩, 8) := ⟨⟨by decide +kernel, by decide +kernel⟩, List.mem_of_getElem? (i := 36) (by decide +kernel), List.mem_of_getElem? (i := 411) (by decide +kernel), List.mem_of_getElem? (i := 412) (by decide +kernel)⟩
theorem lw_p10 : lw_okq (⟨"Spliceroom", "newReel", "(LSpliceroom$Film;)LSpliceroom$Reel;"⟩, 8) := ⟨⟨by decide +kernel, by decide +kernel⟩, List.mem_of_getElem? (i := 36) (by decide +kernel), List.mem_of_getElem? (i := 473) (by decide +kernel), List.mem_of_getElem? (i := 474) (by decide +kernel)⟩
theorem lw_p11 : lw_okq (⟨"Spliceroom", "reelNumbered", "(I)LSpliceroom$Reel;"⟩, 8) := ⟨⟨by decide +kernel, by decide +kernel⟩, List.mem_of_getElem? (i := 36) (by decide +kernel), List.mem_of_getElem? (i := 505) (by decide +kernel), List.mem_of_getElem? (i := 506) (by decide +kernel)⟩
theorem lw_p12 : lw_okq (⟨"Spliceroom", "shotNumbered", "(I)LSpliceroom$Shot;"⟩, 8) := ⟨⟨by decide +kernel, by decide +kernel⟩, List.mem_of_getElem? (i := 36) (by decide +kernel), List.mem_of_getElem? (i := 510) (by decide +kernel), List.mem_of_getElem? (i := 511) (by decide +kernel)⟩
theorem lw_p13 : lw_okq (⟨"Spliceroom", "isAheadOfEnd", "(LSpliceroom$Shot;LSpliceroom$Reel;)Z"⟩, 8) := ⟨⟨by decide +kernel, by decide +kernel⟩, List.mem_of_getElem? (i := 36) (by decide +kernel), List.mem_of_getElem? (i := 520) (by decide +kernel), List.mem_of_getElem? (i := 521) (by decide +kernel)⟩
theorem lw_p14 : lw_okq (⟨"Spliceroom", "requireNotLent", "(LSpliceroom$Film;)V"⟩, 8) := ⟨⟨by decide +kernel, by decide +kernel⟩, List.mem_of_getElem? (i := 36) (by decide +kernel), List.mem_of_getElem? (i := 546) (by decide +kernel), List.mem_of_getElem? (i := 547) (by decide +kernel)⟩
theorem lw_p15 : lw_okq (⟨"java/util/ArrayList", "rangeCheckForAdd", "(I)V"⟩, 3) := ⟨⟨by decide +kernel, by decide +kernel⟩, List.mem_of_getElem? (i := 44) (by decide +kernel), List.mem_of_getElem? (i := 569) (by decide +kernel), List.mem_of_getElem? (i := 570) (by decide +kernel)⟩
def lw_privs_1 : List (MethodName × Nat) := [(⟨"Spliceroom", "isWearWithin", "(I)Z"⟩, 8), (⟨"Spliceroom", "arePassedGradesSound", "()Z"⟩, 8), (⟨"Spliceroom", "areVersionLengthsSound", "()Z"⟩, 8), (⟨"java/lang/Throwable", "fillInStackTrace", "(I)Ljava/lang/Throwable;"⟩, 6), (⟨"java/util/ArrayList", "add", "(Ljava/lang/Object;[Ljava/lang/Object;I)V"⟩, 3), (⟨"java/util/ArrayList", "grow", "()[Ljava/lang/Object;"⟩, 3), (⟨"java/util/ArrayList", "grow", "(I)[Ljava/lang/Object;"⟩, 3), (⟨"Spliceroom", "filmNumbered", "(I)LSpliceroom$Film;"⟩, 8), (⟨"Spliceroom", "requireLengthAndScene", "(II)V"⟩, 8), (⟨"Spliceroom", "newShot", "(LSpliceroom$Film;II)LSpliceroom$Shot;"⟩, 8), (⟨"Spliceroom", "newReel", "(LSpliceroom$Film;)LSpliceroom$Reel;"⟩, 8), (⟨"Spliceroom", "reelNumbered", "(I)LSpliceroom$Reel;"⟩, 8), (⟨"Spliceroom", "shotNumbered", "(I)LSpliceroom$Shot;"⟩, 8), (⟨"Spliceroom", "isAheadOfEnd", "(LSpliceroom$Shot;LSpliceroom$Reel;)Z"⟩, 8), (⟨"Spliceroom", "requireNotLent", "(LSpliceroom$Film;)V"⟩, 8), (⟨"java/util/ArrayList", "rangeCheckForAdd", "(I)V"⟩, 3)]
theorem lw_r1 : ∀ q ∈ lw_privs_1, lw_okq q := List.forall_mem_cons.mpr ⟨lw_p0, List.forall_mem_cons.mpr ⟨lw_p1, List.forall_mem_cons.mpr ⟨lw_p2, List.forall_mem_cons.mpr ⟨lw_p3, List.forall_mem_cons.mpr ⟨lw_p4, List.forall_mem_cons.mpr ⟨lw_p5, List.forall_mem_cons.mpr ⟨lw_p6, List.forall_mem_cons.mpr ⟨lw_p7, List.forall_mem_cons.mpr ⟨lw_p8, List.forall_mem_cons.mpr ⟨lw_p9, List.forall_mem_cons.mpr ⟨lw_p10, List.forall_mem_cons.mpr ⟨lw_p11, List.forall_mem_cons.mpr ⟨lw_p12, List.forall_mem_cons.mpr ⟨lw_p13, List.forall_mem_cons.mpr ⟨lw_p14, List.forall_mem_cons.mpr ⟨lw_p15, fun _ h => absurd h List.not_mem_nil⟩⟩⟩⟩⟩⟩⟩⟩⟩⟩⟩⟩⟩⟩⟩⟩
theorem lw_p16 : lw_okq (⟨"java/util/ArrayList", "outOfBoundsMsg", "(I)Ljava/lang/String;"⟩, 3) := ⟨⟨by decide +kernel, by decide +kernel⟩, List.mem_of_getElem? (i := 44) (by decide +kernel), List.mem_of_getElem? (i := 574) (by decide +kernel), List.mem_of_getElem? (i := 575) (by decide +kernel)⟩
theorem lw_p17 : lw_okq (⟨"Spliceroom", "canBeJoined", "(LSpliceroom$Reel;LSpliceroom$Reel;)Z"⟩, 8) := ⟨⟨by decide +kernel, by decide +kernel⟩, List.mem_of_getElem? (i := 36) (by decide +kernel), List.mem_of_getElem? (i := 814) (by decide +kernel), List.mem_of_getElem? (i := 815) (by decide +kernel)⟩
theorem lw_p18 : lw_okq (⟨"Spliceroom", "isAnyFilmLent", "()Z"⟩, 8) := ⟨⟨by decide +kernel, by decide +kernel⟩, List.mem_of_getElem? (i := 36) (by decide +kernel), List.mem_of_getElem? (i := 902) (by decide +kernel), List.mem_of_getElem? (i := 903) (by decide +kernel)⟩
theorem lw_p19 : lw_okq (⟨"Spliceroom", "play", "(LSpliceroom$Reel;I)V"⟩, 8) := ⟨⟨by decide +kernel, by decide +kernel⟩, List.mem_of_getElem? (i := 36) (by decide +kernel), List.mem_of_getElem? (i := 915) (by decide +kernel), List.mem_of_getElem? (i := 916) (by decide +kernel)⟩
theorem lw_p20 : lw_okq (⟨"Spliceroom", "shotAheadOfSplice", "(LSpliceroom$Reel;I)LSpliceroom$Shot;"⟩, 8) := ⟨⟨by decide +kernel, by decide +kernel⟩, List.mem_of_getElem? (i := 36) (by decide +kernel), List.mem_of_getElem? (i := 939) (by decide +kernel), List.mem_of_getElem? (i := 940) (by decide +kernel)⟩
theorem lw_p21 : lw_okq (⟨"Spliceroom", "takeLastFrame", "(LSpliceroom$Shot;)V"⟩, 8) := ⟨⟨by decide +kernel, by decide +kernel⟩, List.mem_of_getElem? (i := 36) (by decide +kernel), List.mem_of_getElem? (i := 956) (by decide +kernel), List.mem_of_getElem? (i := 957) (by decide +kernel)⟩
theorem lw_p22 : lw_okq (⟨"Spliceroom", "framesLostAt", "(LSpliceroom$Reel;I)I"⟩, 8) := ⟨⟨by decide +kernel, by decide +kernel⟩, List.mem_of_getElem? (i := 36) (by decide +kernel), List.mem_of_getElem? (i := 980) (by decide +kernel), List.mem_of_getElem? (i := 981) (by decide +kernel)⟩
theorem lw_p23 : lw_okq (⟨"Spliceroom", "isWorn", "(LSpliceroom$Reel;I)Z"⟩, 8) := ⟨⟨by decide +kernel, by decide +kernel⟩, List.mem_of_getElem? (i := 36) (by decide +kernel), List.mem_of_getElem? (i := 984) (by decide +kernel), List.mem_of_getElem? (i := 985) (by decide +kernel)⟩
theorem lw_p24 : lw_okq (⟨"Spliceroom", "hasVersion", "(LSpliceroom$Film;I)Z"⟩, 8) := ⟨⟨by decide +kernel, by decide +kernel⟩, List.mem_of_getElem? (i := 36) (by decide +kernel), List.mem_of_getElem? (i := 1049) (by decide +kernel), List.mem_of_getElem? (i := 1050) (by decide +kernel)⟩
theorem lw_p25 : lw_okq (⟨"Spliceroom", "versionNumbered", "(I)LSpliceroom$Version;"⟩, 8) := ⟨⟨by decide +kernel, by decide +kernel⟩, List.mem_of_getElem? (i := 36) (by decide +kernel), List.mem_of_getElem? (i := 1080) (by decide +kernel), List.mem_of_getElem? (i := 1081) (by decide +kernel)⟩
theorem lw_p26 : lw_okq (⟨"Spliceroom", "canFilmTake", "(LSpliceroom$Film;I)Z"⟩, 8) := ⟨⟨by decide +kernel, by decide +kernel⟩, List.mem_of_getElem? (i := 36) (by decide +kernel), List.mem_of_getElem? (i := 1106) (by decide +kernel), List.mem_of_getElem? (i := 1107) (by decide +kernel)⟩
theorem lw_p27 : lw_okq (⟨"Spliceroom", "loanNumbered", "(I)LSpliceroom$Loan;"⟩, 8) := ⟨⟨by decide +kernel, by decide +kernel⟩, List.mem_of_getElem? (i := 36) (by decide +kernel), List.mem_of_getElem? (i := 1144) (by decide +kernel), List.mem_of_getElem? (i := 1145) (by decide +kernel)⟩
theorem lw_p28 : lw_okq (⟨"SpliceroomModel", "goesOn", "(I)Z"⟩, 31) := ⟨⟨by decide +kernel, by decide +kernel⟩, List.mem_of_getElem? (i := 1202) (by decide +kernel), List.mem_of_getElem? (i := 1312) (by decide +kernel), List.mem_of_getElem? (i := 1313) (by decide +kernel)⟩
theorem lw_p29 : lw_okq (⟨"SpliceroomModel", "isFilm", "(I)Z"⟩, 31) := ⟨⟨by decide +kernel, by decide +kernel⟩, List.mem_of_getElem? (i := 1202) (by decide +kernel), List.mem_of_getElem? (i := 1320) (by decide +kernel), List.mem_of_getElem? (i := 1321) (by decide +kernel)⟩
theorem lw_p30 : lw_okq (⟨"SpliceroomModel", "makes", "(IIII)I"⟩, 31) := ⟨⟨by decide +kernel, by decide +kernel⟩, List.mem_of_getElem? (i := 1202) (by decide +kernel), List.mem_of_getElem? (i := 1330) (by decide +kernel), List.mem_of_getElem? (i := 1331) (by decide +kernel)⟩
theorem lw_p31 : lw_okq (⟨"SpliceroomModel", "isReel", "(I)Z"⟩, 31) := ⟨⟨by decide +kernel, by decide +kernel⟩, List.mem_of_getElem? (i := 1202) (by decide +kernel), List.mem_of_getElem? (i := 1342) (by decide +kernel), List.mem_of_getElem? (i := 1343) (by decide +kernel)⟩
def lw_privs_2 : List (MethodName × Nat) := [(⟨"java/util/ArrayList", "outOfBoundsMsg", "(I)Ljava/lang/String;"⟩, 3), (⟨"Spliceroom", "canBeJoined", "(LSpliceroom$Reel;LSpliceroom$Reel;)Z"⟩, 8), (⟨"Spliceroom", "isAnyFilmLent", "()Z"⟩, 8), (⟨"Spliceroom", "play", "(LSpliceroom$Reel;I)V"⟩, 8), (⟨"Spliceroom", "shotAheadOfSplice", "(LSpliceroom$Reel;I)LSpliceroom$Shot;"⟩, 8), (⟨"Spliceroom", "takeLastFrame", "(LSpliceroom$Shot;)V"⟩, 8), (⟨"Spliceroom", "framesLostAt", "(LSpliceroom$Reel;I)I"⟩, 8), (⟨"Spliceroom", "isWorn", "(LSpliceroom$Reel;I)Z"⟩, 8), (⟨"Spliceroom", "hasVersion", "(LSpliceroom$Film;I)Z"⟩, 8), (⟨"Spliceroom", "versionNumbered", "(I)LSpliceroom$Version;"⟩, 8), (⟨"Spliceroom", "canFilmTake", "(LSpliceroom$Film;I)Z"⟩, 8), (⟨"Spliceroom", "loanNumbered", "(I)LSpliceroom$Loan;"⟩, 8), (⟨"SpliceroomModel", "goesOn", "(I)Z"⟩, 31), (⟨"SpliceroomModel", "isFilm", "(I)Z"⟩, 31), (⟨"SpliceroomModel", "makes", "(IIII)I"⟩, 31), (⟨"SpliceroomModel", "isReel", "(I)Z"⟩, 31)]
theorem lw_r2 : ∀ q ∈ lw_privs_2, lw_okq q := List.forall_mem_cons.mpr ⟨lw_p16, List.forall_mem_cons.mpr ⟨lw_p17, List.forall_mem_cons.mpr ⟨lw_p18, List.forall_mem_cons.mpr ⟨lw_p19, List.forall_mem_cons.mpr ⟨lw_p20, List.forall_mem_cons.mpr ⟨lw_p21, List.forall_mem_cons.mpr ⟨lw_p22, List.forall_mem_cons.mpr ⟨lw_p23, List.forall_mem_cons.mpr ⟨lw_p24, List.forall_mem_cons.mpr ⟨lw_p25, List.forall_mem_cons.mpr ⟨lw_p26, List.forall_mem_cons.mpr ⟨lw_p27, List.forall_mem_cons.mpr ⟨lw_p28, List.forall_mem_cons.mpr ⟨lw_p29, List.forall_mem_cons.mpr ⟨lw_p30, List.forall_mem_cons.mpr ⟨lw_p31, fun _ h => absurd h List.not_mem_nil⟩⟩⟩⟩⟩⟩⟩⟩⟩⟩⟩⟩⟩⟩⟩⟩
theorem lw_p32 : lw_okq (⟨"SpliceroomModel", "isShot", "(I)Z"⟩, 31) := ⟨⟨by decide +kernel, by decide +kernel⟩, List.mem_of_getElem? (i := 1202) (by decide +kernel), List.mem_of_getElem? (i := 1346) (by decide +kernel), List.mem_of_getElem? (i := 1347) (by decide +kernel)⟩
theorem lw_p33 : lw_okq (⟨"SpliceroomModel", "placeOf", "(I)I"⟩, 31) := ⟨⟨by decide +kernel, by decide +kernel⟩, List.mem_of_getElem? (i := 1202) (by decide +kernel), List.mem_of_getElem? (i := 1350) (by decide +kernel), List.mem_of_getElem? (i := 1351) (by decide +kernel)⟩
theorem lw_p34 : lw_okq (⟨"SpliceroomModel", "lastOf", "(I)I"⟩, 31) := ⟨⟨by decide +kernel, by decide +kernel⟩, List.mem_of_getElem? (i := 1202) (by decide +kernel), List.mem_of_getElem? (i := 1354) (by decide +kernel), List.mem_of_getElem? (i := 1355) (by decide +kernel)⟩
theorem lw_p35 : lw_okq (⟨"SpliceroomModel", "isLent", "(I)Z"⟩, 31) := ⟨⟨by decide +kernel, by decide +kernel⟩, List.mem_of_getElem? (i := 1202) (by decide +kernel), List.mem_of_getElem? (i := 1358) (by decide +kernel), List.mem_of_getElem? (i := 1359) (by decide +kernel)⟩
theorem lw_p36 : lw_okq (⟨"SpliceroomModel", "adds", "(III)V"⟩, 31) := ⟨⟨by decide +kernel, by decide +kernel⟩, List.mem_of_getElem? (i := 1202) (by decide +kernel), List.mem_of_getElem? (i := 1362) (by decide +kernel), List.mem_of_getElem? (i := 1363) (by decide +kernel)⟩
theorem lw_p37 : lw_okq (⟨"SpliceroomModel", "framesAhead", "(II)I"⟩, 31) := ⟨⟨by decide +kernel, by decide +kernel⟩, List.mem_of_getElem? (i := 1202) (by decide +kernel), List.mem_of_getElem? (i := 1390) (by decide +kernel), List.mem_of_getElem? (i := 1391) (by decide +kernel)⟩
theorem lw_p38 : lw_okq (⟨"SpliceroomModel", "shotWith", "(II)I"⟩, 31) := ⟨⟨by decide +kernel, by decide +kernel⟩, List.mem_of_getElem? (i := 1202) (by decide +kernel), List.mem_of_getElem? (i := 1398) (by decide +kernel), List.mem_of_getElem? (i := 1399) (by decide +kernel)⟩
theorem lw_p39 : lw_okq (⟨"SpliceroomModel", "greatest", "(I)I"⟩, 31) := ⟨⟨by decide +kernel, by decide +kernel⟩, List.mem_of_getElem? (i := 1202) (by decide +kernel), List.mem_of_getElem? (i := 1410) (by decide +kernel), List.mem_of_getElem? (i := 1411) (by decide +kernel)⟩
theorem lw_p40 : lw_okq (⟨"SpliceroomModel", "hasLoan", "()Z"⟩, 31) := ⟨⟨by decide +kernel, by decide +kernel⟩, List.mem_of_getElem? (i := 1202) (by decide +kernel), List.mem_of_getElem? (i := 1414) (by decide +kernel), List.mem_of_getElem? (i := 1415) (by decide +kernel)⟩
theorem lw_p41 : lw_okq (⟨"SpliceroomModel", "bears", "(II)Z"⟩, 31) := ⟨⟨by decide +kernel, by decide +kernel⟩, List.mem_of_getElem? (i := 1202) (by decide +kernel), List.mem_of_getElem? (i := 1422) (by decide +kernel), List.mem_of_getElem? (i := 1423) (by decide +kernel)⟩
theorem lw_p42 : lw_okq (⟨"SpliceroomModel", "wears", "(II)V"⟩, 31) := ⟨⟨by decide +kernel, by decide +kernel⟩, List.mem_of_getElem? (i := 1202) (by decide +kernel), List.mem_of_getElem? (i := 1426) (by decide +kernel), List.mem_of_getElem? (i := 1427) (by decide +kernel)⟩
theorem lw_p43 : lw_okq (⟨"SpliceroomModel", "framesOn", "(I)I"⟩, 31) := ⟨⟨by decide +kernel, by decide +kernel⟩, List.mem_of_getElem? (i := 1202) (by decide +kernel), List.mem_of_getElem? (i := 1430) (by decide +kernel), List.mem_of_getElem? (i := 1431) (by decide +kernel)⟩
theorem lw_p44 : lw_okq (⟨"SpliceroomModel", "isSplice", "(II)Z"⟩, 31) := ⟨⟨by decide +kernel, by decide +kernel⟩, List.mem_of_getElem? (i := 1202) (by decide +kernel), List.mem_of_getElem? (i := 1438) (by decide +kernel), List.mem_of_getElem? (i := 1439) (by decide +kernel)⟩
theorem lw_p45 : lw_okq (⟨"SpliceroomModel", "isWorn", "(II)Z"⟩, 31) := ⟨⟨by decide +kernel, by decide +kernel⟩, List.mem_of_getElem? (i := 1202) (by decide +kernel), List.mem_of_getElem? (i := 1450) (by decide +kernel), List.mem_of_getElem? (i := 1451) (by decide +kernel)⟩
theorem lw_p46 : lw_okq (⟨"SpliceroomModel", "gradeNow", "(I)I"⟩, 31) := ⟨⟨by decide +kernel, by decide +kernel⟩, List.mem_of_getElem? (i := 1202) (by decide +kernel), List.mem_of_getElem? (i := 1466) (by decide +kernel), List.mem_of_getElem? (i := 1467) (by decide +kernel)⟩
theorem lw_p47 : lw_okq (⟨"SpliceroomModel", "isVersion", "(I)Z"⟩, 31) := ⟨⟨by decide +kernel, by decide +kernel⟩, List.mem_of_getElem? (i := 1202) (by decide +kernel), List.mem_of_getElem? (i := 1490) (by decide +kernel), List.mem_of_getElem? (i := 1491) (by decide +kernel)⟩
def lw_privs_3 : List (MethodName × Nat) := [(⟨"SpliceroomModel", "isShot", "(I)Z"⟩, 31), (⟨"SpliceroomModel", "placeOf", "(I)I"⟩, 31), (⟨"SpliceroomModel", "lastOf", "(I)I"⟩, 31), (⟨"SpliceroomModel", "isLent", "(I)Z"⟩, 31), (⟨"SpliceroomModel", "adds", "(III)V"⟩, 31), (⟨"SpliceroomModel", "framesAhead", "(II)I"⟩, 31), (⟨"SpliceroomModel", "shotWith", "(II)I"⟩, 31), (⟨"SpliceroomModel", "greatest", "(I)I"⟩, 31), (⟨"SpliceroomModel", "hasLoan", "()Z"⟩, 31), (⟨"SpliceroomModel", "bears", "(II)Z"⟩, 31), (⟨"SpliceroomModel", "wears", "(II)V"⟩, 31), (⟨"SpliceroomModel", "framesOn", "(I)I"⟩, 31), (⟨"SpliceroomModel", "isSplice", "(II)Z"⟩, 31), (⟨"SpliceroomModel", "isWorn", "(II)Z"⟩, 31), (⟨"SpliceroomModel", "gradeNow", "(I)I"⟩, 31), (⟨"SpliceroomModel", "isVersion", "(I)Z"⟩, 31)]
theorem lw_r3 : ∀ q ∈ lw_privs_3, lw_okq q := List.forall_mem_cons.mpr ⟨lw_p32, List.forall_mem_cons.mpr ⟨lw_p33, List.forall_mem_cons.mpr ⟨lw_p34, List.forall_mem_cons.mpr ⟨lw_p35, List.forall_mem_cons.mpr ⟨lw_p36, List.forall_mem_cons.mpr ⟨lw_p37, List.forall_mem_cons.mpr ⟨lw_p38, List.forall_mem_cons.mpr ⟨lw_p39, List.forall_mem_cons.mpr ⟨lw_p40, List.forall_mem_cons.mpr ⟨lw_p41, List.forall_mem_cons.mpr ⟨lw_p42, List.forall_mem_cons.mpr ⟨lw_p43, List.forall_mem_cons.mpr ⟨lw_p44, List.forall_mem_cons.mpr ⟨lw_p45, List.forall_mem_cons.mpr ⟨lw_p46, List.forall_mem_cons.mpr ⟨lw_p47, fun _ h => absurd h List.not_mem_nil⟩⟩⟩⟩⟩⟩⟩⟩⟩⟩⟩⟩⟩⟩⟩⟩
theorem lw_p48 : lw_okq (⟨"SpliceroomModel", "isOutOf", "(III)Z"⟩, 31) := ⟨⟨by decide +kernel, by decide +kernel⟩, List.mem_of_getElem? (i := 1202) (by decide +kernel), List.mem_of_getElem? (i := 1494) (by decide +kernel), List.mem_of_getElem? (i := 1495) (by decide +kernel)⟩
theorem lw_p49 : lw_okq (⟨"SpliceroomModel", "isLoan", "(I)Z"⟩, 31) := ⟨⟨by decide +kernel, by decide +kernel⟩, List.mem_of_getElem? (i := 1202) (by decide +kernel), List.mem_of_getElem? (i := 1510) (by decide +kernel), List.mem_of_getElem? (i := 1511) (by decide +kernel)⟩
def lw_privs_4 : List (MethodName × Nat) := [(⟨"SpliceroomModel", "isOutOf", "(III)Z"⟩, 31), (⟨"SpliceroomModel", "isLoan", "(I)Z"⟩, 31)]
theorem lw_r4 : ∀ q ∈ lw_privs_4, lw_okq q := List.forall_mem_cons.mpr ⟨lw_p48, List.forall_mem_cons.mpr ⟨lw_p49, fun _ h => absurd h List.not_mem_nil⟩⟩
def lw_privs : List (MethodName × Nat) := lw_privs_1 ++ (lw_privs_2 ++ (lw_privs_3 ++ (lw_privs_4)))
def lw_tbl : List Cond := k2_sels lw_privs ++ tables_1
theorem lw_privs_ok : ∀ q ∈ lw_privs, lw_okq q := by
  show ∀ q ∈ lw_privs_1 ++ (lw_privs_2 ++ (lw_privs_3 ++ (lw_privs_4))), lw_okq q
  exact List.forall_mem_append.mpr ⟨lw_r1, List.forall_mem_append.mpr ⟨lw_r2, List.forall_mem_append.mpr ⟨lw_r3, lw_r4⟩⟩⟩
/-- the streams that the claim lets the run draw from -/
abbrev lw_cs : List Choice := [Jvm.Choice.named "NaN.bits"]
theorem lw_bits : nanBits ∈ lw_cs := by first | decide | exact List.mem_cons_self | simp [lw_cs, nanBits]
-- ===== end of PART A; then your names; then what follows =====
end
section
/-! ===== BEGIN words of one list among another's, by their places ===== -/
theorem goodIn_r {big : List Cond} (ws : List Cond) (ps : List Nat) (hp : ws = ps.filterMap (fun i => big[i]?)) (h : ws.all goodWord = true) : GoodIn big ws := by
  intro w hw
  have h1 := List.all_eq_true.mp h w hw
  rw [hp] at hw
  obtain ⟨i, -, hi⟩ := List.mem_filterMap.mp hw
  have hm : w ∈ big := by first | exact List.mem_of_getElem? hi | exact List.getElem?_mem hi
  exact ⟨hm, good_of_word h1⟩
theorem goodIn_app {big a b : List Cond} (ha : GoodIn big a) (hb : GoodIn big b) : GoodIn big (a ++ b) := fun w h => (List.mem_append.mp h).elim (ha w) (hb w)
theorem goodIn_ca {big a b : List Cond} {c : Cond} (ha : GoodIn big (c :: a)) (hb : GoodIn big b) : GoodIn big (c :: (a ++ b)) := fun w h => (List.mem_cons.mp h).elim (fun e => ha w (List.mem_cons.mpr (Or.inl e))) (fun h => (List.mem_append.mp h).elim (fun h => ha w (List.mem_cons.mpr (Or.inr h))) (hb w))
theorem goodIn_sub {big ws : List Cond} (hm : ∀ w ∈ ws, w ∈ big) (h : ws.all goodWord = true) : GoodIn big ws := fun w hw => ⟨hm w hw, good_of_word (List.all_eq_true.mp h w hw)⟩
/-! ===== END ===== -/
/-! ===== BEGIN exceptions that leave a method, and their catching by the caller (launches without stack traces) ===== -/
section VXA
/-! The laws vx_back, vx_callV, vx_callS, vx_callSW, vx_throw0, vx_throwS follow proofs of the library, with one case more: JvmDerived/Free/Laws.lean (Back.of_free), Shelf42/LK1.lean (callV, callS), Shelf/KitTraced.lean (throwNew0V, throwNewS). -/
/-- where a method has thrown q: the class by its name, the cell, what was written, the world -/
def vx_T (XC : String → State → State → Prop) (st : State) (q : Addr) (t : State) (mc ms : Nat) (free : Addr → Prop) : Prop :=
  ∃ (E : String) (ce : Cell) (L : List Loc), XC E st t ∧ t.heap[q]? = some ce ∧ ce.vm = .none ∧ st.vm.findClass E = some ce.cls ∧ st.WarmedH t.vm ∧ st.sameButNew ({ t with vm := st.vm } : State) L mc ms ∧ ∀ z ∈ L, free z.base
def vx_Q (Qc : Array Value → State → Outcome → State → Prop) (XC : String → State → State → Prop) (mc ms : Nat) (free : Addr → Prop) : Array Value → State → Outcome → State → Prop := fun a st o t =>
  (Qc a st o t ∧ ∃ L, FrameEnd st o t L mc ms ∧ ∀ q ∈ L, free q.base) ∨ ∃ q, o = .threw q ∧ vx_T XC st q t mc ms free
/-- a callee that returns or throws -/
def vx_Met (l : Launch) (y : MethodName) (ws : List Cond) (rm : Room) (Pc : Array Value → State → Prop) (Qc : Array Value → State → Outcome → State → Prop) (XC : String → State → State → Prop) (mc ms : Nat) (free : Addr → Prop) : Prop :=
  MetFree l y (headSpec ws rm) Pc (fun _ _ _ _ _ => True) (vx_Q Qc XC mc ms free)
def vx_Post (XC : String → State → State → Prop) (mc ms : Nat) (free : Addr → Prop) : Pt → Array Value → Addr → Pt → Prop := fun A a q B =>
  ∃ (g : JFrame) (mk : MethodId) (t : State) (L : List Loc) (E : String) (ce : Cell), B.U.heap = t.heap ∧ B.U.vm = t.vm ∧ XC E (A.U.calling g mk a) t ∧ t.heap[q]? = some ce ∧ ce.vm = .none ∧ A.U.vm.findClass E = some ce.cls ∧ B.locs = A.locs ++ L ∧ (∀ z ∈ L, free z.base) ∧ B.cells = A.cells + mc ∧ B.slots = A.slots + ms
def vx_Back (l : Launch) (R : Room) (p : Program) (e : Env) (below : List Frame) (s : State) (sargs : Array Value) (y : MethodName) (len W9 : Nat)
    (Pre : Pt → Array Value → Prop) (Post : Pt → Array Value → Option Value → Pt → Prop) (PostX : Pt → Array Value → Addr → Pt → Prop) : Prop :=
  ∀ (m : MethodId) (meth : Method) (c : Code) (A : Pt) (g : JFrame) (ig : Instr) (mk : MethodId) (a : Array Value),
    Stand p l e R s m sargs below meth c A.U A.locs A.cells A.slots → g.method = m → g.locals.size = c.maxLocals → decode c.code g.pc = .ok (ig, len) →
    2 * g.monitorRoom + (g.stack.map fun v => v.category).sum ≤ W9 → A.U.methodNamed? y = some mk → Pre A a →
    (∃ (v : Option Value) (B : Pt), Stand p l e R s m sargs below meth c B.U B.locs B.cells B.slots ∧ Post A a v B ∧
      Steps p.tables e below (doInvoke e (A.U.setTop g) [] mk a).1 (B.U.setTop { g with pc := g.pc + len, stack := v.toList ++ g.stack })) ∨
    (∃ (q : Addr) (B : Pt), Stand p l e R s m sargs below meth c B.U B.locs B.cells B.slots ∧ PostX A a q B ∧
      Steps p.tables e below (doInvoke e (A.U.setTop g) [] mk a).1 ((B.U.setTop g).pushFrame (.throwing q)))
section Payer
variable {l : Launch} {R : Room} {p : Program} {e : Env} {below : List Frame} {s : State} {sargs : Array Value} {y : MethodName} {len W9 : Nat}
theorem vx_back {ws : List Cond} {rm : Room} {Pc : Array Value → State → Prop} {Qc : Array Value → State → Outcome → State → Prop} {XC : String → State → State → Prop} {mc ms : Nat} {free : Addr → Prop} {bytes : ByteArray} {maxL : Nat} {ret : Option FieldType}
    (hM : vx_Met l y ws rm Pc Qc XC mc ms free) (hblind : FrameBlind Pc) (hrc : rm.cells = mc) (hrs : rm.slots = ms)
    (hframes : rm.frames + 1 ≤ R.frames) (hlocals : W9 + (maxL + 11) + rm.locals ≤ R.locals)
    (hws : ∀ w ∈ ws, ∀ a' U, s.WarmedH U.vm → w.before a' U = true) (hcode : Cond.code y bytes maxL ret ∈ ws) (hinit : ∀ a' U, s.WarmedH U.vm → (Cond.initialized y.cls).before a' U = true) :
    vx_Back l R p e below s sargs y len W9 (PreOf R mc ms Pc) (PostOf Qc mc ms free) (vx_Post XC mc ms free) := by
  intro m meth c A g ig mk a X hg hsize hdg hW hn hp
  have h1 : (headSpec ws rm).pre.before a A.U = true := atoms_intro fun w hw => hws w hw _ _ X.warmed
  have h2 : (Cond.code y bytes maxL ret).before a A.U = true := hws _ hcode _ _ X.warmed
  have h3 : (Cond.initialized y.cls).before a A.U = true := hinit _ _ X.warmed
  have h4 : A.cells + (headSpec ws rm).room.cells ≤ R.cells := by rw [show (headSpec ws rm).room.cells = mc from hrc]; exact hp.1
  have h5 : A.slots + (headSpec ws rm).room.slots ≤ R.slots := by rw [show (headSpec ws rm).room.slots = ms from hrs]; exact hp.2.1
  have hPc : Pc a (A.U.calling g mk a) := hblind _ _ _ _ hp.2.2
  obtain ⟨U, Ls, c0, s0⟩ := A
  dsimp only [Pt.U, Pt.locs, Pt.cells, Pt.slots] at h1 h2 h3 h4 h5 X hn hPc ⊢
  obtain ⟨methY, cY, hmY, hcY, -, hlY, -, -, -, -⟩ := Cond.code_spec hn h2
  obtain ⟨kY, hkY, -⟩ := className_of_methodNamed hn
  have hinitY : kY.init = .initialized := Cond.initialized_spec (findClass_of_methodNamed hn) hkY h3
  have h : At U g.method c below := by rw [hg]; exact X.here
  have hlocals9 : W9 + (maxL + 11) + (headSpec ws rm).room.locals ≤ R.locals := hlocals
  have happ : (headSpec ws rm).appliesLoose y e.platform (U.calling g mk a) = true :=
    Spec.appliesLoose_calling (g := g) h hdg hn hkY hinitY
      (X.room_calling (g := g) (R' := (headSpec ws rm).room) hsize hmY hcY hframes (by rw [hlY]; omega) h4 h5) h1
  obtain ⟨mid, hmid⟩ := h.above
  have hfr : (U.setTop g).frames = (.java g :: mid) ++ below := by rw [State.frames_setTop' g h.top, hmid]; rfl
  obtain ⟨o, s₂, hsteps, -, hend, hq⟩ := Steps.callFree hM p X.admits X.cas X.clock (acts := []) hfr happ hPc trivial
  have hq' : vx_Q Qc XC mc ms free a (U.calling g mk a) o s₂ := hq
  rw [State.frames_setTop' g h.top] at hend
  obtain ⟨g₀, hg0⟩ := Option.isSome_iff_exists.mp h.top
  obtain ⟨r, hr⟩ := State.topJava?_eq_some.mp hg0
  have hr' : (({ U with heap := s₂.heap, slotsUsed := s₂.slotsUsed } : State).setVm s₂.vm).frames = .java g₀ :: r := hr
  rcases hq' with ⟨hqc, L, hfe, hL⟩ | ⟨q, rfl, E, ce, L, hx, hce, hcv, hcl, hW₂, hsm, hL⟩
  · obtain ⟨⟨v, rfl⟩, hW₂, e2, q2, q3, q4, q5, q6⟩ := id hfe
    have e3 : s₂ = ({ (U.calling g mk a).setFrames s₂.frames with heap := s₂.heap, slotsUsed := s₂.slotsUsed } : State).setVm s₂.vm := by
      have : s₂ = ({ s₂ with vm := (U.calling g mk a).vm } : State).setVm s₂.vm := rfl
      rw [e2] at this
      exact this
    obtain ⟨c₂, i₂, len₂, hc₂, hd₂, hf₂⟩ := hend
    have hW' : U.WarmedH s₂.vm := hW₂
    have hcc : c₂ = c := by
      have h1 : s₂.code? g.method = U.code? g.method := by
        rw [State.code?_eq, State.code?_eq, hW'.alike.method?]
      exact Option.some.inj (hc₂.symm.trans (h1.trans h.code))
    subst hcc
    have hlen : len₂ = len := by rw [hdg] at hd₂; cases hd₂; rfl
    subst hlen
    have hs₂ : s₂ = (({ U with heap := s₂.heap, slotsUsed := s₂.slotsUsed } : State).setVm s₂.vm).setTop { g with pc := g.pc + len₂, stack := v.toList ++ g.stack } := by
      refine e3.trans ?_
      rw [hf₂, State.calling_eq h.top, State.setFrames_setFrames, State.setTop_of_frames _ hr', hr]
      rfl
    have hsame : U.sameButNew ({ U with heap := s₂.heap, slotsUsed := s₂.slotsUsed } : State) L mc ms := by
      refine ⟨?_, q2, q3, q4, q5, q6⟩
      obtain ⟨t, ht, -⟩ := State.frames_cons hr
      show ({ U with heap := s₂.heap, slotsUsed := s₂.slotsUsed } : State) = { U.setFrames U.frames with heap := s₂.heap, slotsUsed := s₂.slotsUsed }
      rw [State.setFrames_self ht]
    subst hg
    refine Or.inl ⟨v, ⟨(({ U with heap := s₂.heap, slotsUsed := s₂.slotsUsed } : State).setVm s₂.vm), Ls ++ L, c0 + mc, s0 + ms⟩,
      ⟨X.admits, X.cas, X.clock, X.frames, X.room, X.hears, X.method, X.code, (X.here.setHeapUsed s₂.heap s₂.slotsUsed).setVm hW'.alike, X.tail, State.WarmedH.trans X.warmed hW', X.limits, X.bytes, X.same.trans (hsame.setVm s.vm)⟩,
      ⟨g, mk, s₂, L, rfl, rfl, hqc, rfl, hL, rfl, rfl⟩, ?_⟩
    show Steps p.tables e below _ ((({ U with heap := s₂.heap, slotsUsed := s₂.slotsUsed } : State).setVm s₂.vm).setTop { g with pc := g.pc + len₂, stack := v.toList ++ g.stack })
    rw [← hs₂]
    exact hsteps
  · obtain ⟨e2, q2, q3, q4, q5, q6⟩ := id hsm
    have e3 : s₂ = ({ (U.calling g mk a).setFrames s₂.frames with heap := s₂.heap, slotsUsed := s₂.slotsUsed } : State).setVm s₂.vm := by
      have : s₂ = ({ s₂ with vm := (U.calling g mk a).vm } : State).setVm s₂.vm := rfl
      rw [e2] at this
      exact this
    have hf₂ : s₂.frames = .throwing q :: .java g :: U.frames.tail := hend
    have hW' : U.WarmedH s₂.vm := hW₂
    have hs₂ : s₂ = ((({ U with heap := s₂.heap, slotsUsed := s₂.slotsUsed } : State).setVm s₂.vm).setTop g).pushFrame (.throwing q) := by
      refine e3.trans ?_
      rw [hf₂, State.calling_eq h.top, State.setFrames_setFrames, State.pushFrame, State.frames_setTop _ hr', State.setTop_of_frames _ hr', State.setFrames_setFrames, hr]
      rfl
    have hsame : U.sameButNew ({ U with heap := s₂.heap, slotsUsed := s₂.slotsUsed } : State) L mc ms := by
      refine ⟨?_, q2, q3, q4, q5, q6⟩
      obtain ⟨t, ht, -⟩ := State.frames_cons hr
      show ({ U with heap := s₂.heap, slotsUsed := s₂.slotsUsed } : State) = { U.setFrames U.frames with heap := s₂.heap, slotsUsed := s₂.slotsUsed }
      rw [State.setFrames_self ht]
    subst hg
    refine Or.inr ⟨q, ⟨(({ U with heap := s₂.heap, slotsUsed := s₂.slotsUsed } : State).setVm s₂.vm), Ls ++ L, c0 + mc, s0 + ms⟩,
      ⟨X.admits, X.cas, X.clock, X.frames, X.room, X.hears, X.method, X.code, (X.here.setHeapUsed s₂.heap s₂.slotsUsed).setVm hW'.alike, X.tail, State.WarmedH.trans X.warmed hW', X.limits, X.bytes, X.same.trans (hsame.setVm s.vm)⟩,
      ⟨g, mk, s₂, L, E, ce, rfl, rfl, hx, hce, hcv, hcl, rfl, hL, rfl, rfl⟩, ?_⟩
    show Steps p.tables e below _ (((({ U with heap := s₂.heap, slotsUsed := s₂.slotsUsed } : State).setVm s₂.vm).setTop g).pushFrame (.throwing q))
    rw [← hs₂]
    exact hsteps
end Payer
section Calls
variable {p : Program} {l : Launch} {e : Env} {R : Room} {s : State} {m : MethodId} {args : Array Value} {below : List Frame} {meth : Method} {c : Code} {T : State} {locs : List Loc} {cells slots : Nat}
theorem vx_callV (X : Stand p l e R s m args below meth c T locs cells slots) (hexec : p.tables.exec = Jvm.exec) {own C : String} {index : Nat} {y : MethodName} {bytes : ByteArray} {maxL : Nat} {ret : Option FieldType}
    (hown : s.vm.findClass own = some m.cls) (hlink : (Cond.methodLink own index y).before args s = true) (hinst : (Cond.instanceMethod y).before args s = true) (hsel : (Cond.selects C y y).before args s = true)
    (hcode : (Cond.code y bytes maxL ret).before args s = true) (hy : y.cls ≠ "java/lang/invoke/MethodHandle" ∧ y.cls ≠ "java/lang/invoke/VarHandle")
    {W9 : Nat} {Pre : Pt → Array Value → Prop} {Post : Pt → Array Value → Option Value → Pt → Prop} {PostX : Pt → Array Value → Addr → Pt → Prop} (hK : vx_Back l R p e below s args y 3 W9 Pre Post PostX)
    {b : Addr} {cellB : Cell} (hcell : T.heap[b]? = some cellB) (hobj : cellB.vm.isStatics = false) (hcls : s.vm.findClass C = some cellB.cls)
    {g : JFrame} (hg : g.method = m) (hsize : g.locals.size = c.maxLocals) {argsL rest : List Value} (hlen : ∀ sig, parseMethodDescriptor y.desc = some sig → argsL.length = sig.parameters.length)
    (hstack : g.stack = argsL.reverse ++ .ref b :: rest) (hW : 2 * g.monitorRoom + (rest.map fun v => v.category).sum ≤ W9) (hdg : decode c.code g.pc = .ok (.invokevirtual index, 3))
    (hpre : ∀ vm₁, s.WarmedH vm₁ → Pre ⟨T.setVm vm₁, locs, cells, slots⟩ (Value.ref b :: argsL).toArray) :
    (∃ (v : Option Value) (vm₁ : Vm) (B : Pt), s.WarmedH vm₁ ∧ Stand p l e R s m args below meth c B.U B.locs B.cells B.slots ∧ Post ⟨T.setVm vm₁, locs, cells, slots⟩ (Value.ref b :: argsL).toArray v B ∧
      ∀ target, Steps p.tables e below (B.U.setTop { g with pc := g.pc + 3, stack := v.toList ++ rest }) target → Steps p.tables e below (T.setTop g) target) ∨
    (∃ (q : Addr) (vm₁ : Vm) (B : Pt), s.WarmedH vm₁ ∧ Stand p l e R s m args below meth c B.U B.locs B.cells B.slots ∧ PostX ⟨T.setVm vm₁, locs, cells, slots⟩ (Value.ref b :: argsL).toArray q B ∧
      Steps p.tables e below (T.setTop g) ((B.U.setTop { g with stack := rest }).pushFrame (.throwing q))) := by
  obtain ⟨mk, methM, hnamed, hmethM, hstM, habM⟩ := Cond.instanceMethod_spec hinst
  obtain ⟨methM', cM, hmethM', -, -, -, -, -, -, hsigM⟩ := Cond.code_spec hnamed hcode
  cases hmethM.symm.trans hmethM'
  obtain ⟨c2, r2, m2, q1, q2, q3, q4, kP, hkP, hkPi⟩ := Cond.selects_spec hsel
  cases hcls.symm.trans q1
  cases (State.methodFound?_of_named hnamed hy).symm.trans q2
  cases hnamed.symm.trans q3
  have hselP : selectMethod e.platform s.vm cellB.cls mk = .method mk := by rw [Launch.admits_selectMethod X.admits]; exact q4
  obtain ⟨vm₁, X₁, hstep₁⟩ := X.invokevirtual hexec hown hlink hnamed hmethM hstM hkP hkPi hy (a := b) (cell := cellB) hcell
    (fun z h => by rw [h] at hobj; cases hobj) hselP hmethM habM hkP hkPi (g := g) hg (argsL := argsL) (rest := rest) (hlen _ hsigM) hstack hdg
  rcases hK m meth c ⟨T.setVm vm₁, locs, cells, slots⟩ { g with stack := rest } (.invokevirtual index) mk (Value.ref b :: argsL).toArray X₁ hg hsize hdg hW (X₁.named hnamed) (hpre vm₁ X₁.warmed) with ⟨v, B, X', hpost, hsteps⟩ | ⟨q, B, X', hpost, hsteps⟩
  · exact Or.inl ⟨v, vm₁, B, X₁.warmed, X', hpost, fun target h => hstep₁ _ fun acts => by rw [doInvoke_state]; exact hsteps.trans h⟩
  · exact Or.inr ⟨q, vm₁, B, X₁.warmed, X', hpost, hstep₁ _ fun acts => by rw [doInvoke_state]; exact hsteps⟩
theorem vx_callS (X : Stand p l e R s m args below meth c T locs cells slots) (hexec : p.tables.exec = Jvm.exec) {own : String} {index : Nat} {y : MethodName} {bytes : ByteArray} {maxL : Nat} {ret : Option FieldType}
    (hown : s.vm.findClass own = some m.cls) (hlink : (Cond.methodLink own index y).before args s = true) (hstat : (Cond.static y).before args s = true) (hinit : (Cond.initialized y.cls).before args s = true)
    (hcode : (Cond.code y bytes maxL ret).before args s = true) (hy : y.cls ≠ "java/lang/invoke/MethodHandle" ∧ y.cls ≠ "java/lang/invoke/VarHandle")
    {W9 : Nat} {Pre : Pt → Array Value → Prop} {Post : Pt → Array Value → Option Value → Pt → Prop} {PostX : Pt → Array Value → Addr → Pt → Prop} (hK : vx_Back l R p e below s args y 3 W9 Pre Post PostX)
    {g : JFrame} (hg : g.method = m) (hsize : g.locals.size = c.maxLocals) {argsL rest : List Value} (hlen : ∀ sig, parseMethodDescriptor y.desc = some sig → argsL.length = sig.parameters.length)
    (hstack : g.stack = argsL.reverse ++ rest) (hW : 2 * g.monitorRoom + (rest.map fun v => v.category).sum ≤ W9) (hdg : decode c.code g.pc = .ok (.invokestatic index, 3))
    (hpre : ∀ vm₁, s.WarmedH vm₁ → Pre ⟨T.setVm vm₁, locs, cells, slots⟩ argsL.toArray) :
    (∃ (v : Option Value) (vm₁ : Vm) (B : Pt), s.WarmedH vm₁ ∧ Stand p l e R s m args below meth c B.U B.locs B.cells B.slots ∧ Post ⟨T.setVm vm₁, locs, cells, slots⟩ argsL.toArray v B ∧
      ∀ target, Steps p.tables e below (B.U.setTop { g with pc := g.pc + 3, stack := v.toList ++ rest }) target → Steps p.tables e below (T.setTop g) target) ∨
    (∃ (q : Addr) (vm₁ : Vm) (B : Pt), s.WarmedH vm₁ ∧ Stand p l e R s m args below meth c B.U B.locs B.cells B.slots ∧ PostX ⟨T.setVm vm₁, locs, cells, slots⟩ argsL.toArray q B ∧
      Steps p.tables e below (T.setTop g) ((B.U.setTop { g with stack := rest }).pushFrame (.throwing q))) := by
  obtain ⟨mk, hnamed⟩ := Cond.code_named hcode
  obtain ⟨methM, cM, hmethM, -, -, -, -, -, -, hsigM⟩ := Cond.code_spec hnamed hcode
  have hstatic : methM.isStatic = true := Cond.static_spec hnamed hmethM hstat
  obtain ⟨kP, hkP, -⟩ := className_of_methodNamed hnamed
  have hinitP : kP.init = .initialized := Cond.initialized_spec (findClass_of_methodNamed hnamed) hkP hinit
  obtain ⟨vm₁, X₁, hstep₁⟩ := X.invokestatic hexec hown hlink hnamed hmethM hstatic hkP hinitP hy (g := g) hg (argsL := argsL) (rest := rest) (hlen _ hsigM) hstack hdg
  rcases hK m meth c ⟨T.setVm vm₁, locs, cells, slots⟩ { g with stack := rest } (.invokestatic index) mk argsL.toArray X₁ hg hsize hdg hW (X₁.named hnamed) (hpre vm₁ X₁.warmed) with ⟨v, B, X', hpost, hsteps⟩ | ⟨q, B, X', hpost, hsteps⟩
  · exact Or.inl ⟨v, vm₁, B, X₁.warmed, X', hpost, fun target h => hstep₁ _ fun acts => by rw [doInvoke_state]; exact hsteps.trans h⟩
  · exact Or.inr ⟨q, vm₁, B, X₁.warmed, X', hpost, hstep₁ _ fun acts => by rw [doInvoke_state]; exact hsteps⟩
end Calls
theorem vx_cls {s : State} {T : State} {vm₁ : Vm} {E : String} {k : ClassId} (hW : s.WarmedH vm₁) (h : (T.setVm vm₁).vm.findClass E = some k) : s.vm.findClass E = some k := by
  have h1 : vm₁.findClass E = some k := h
  rw [hW.alike.findClass] at h1
  exact h1
/-- the method's frame g, with q thrown over it -/
def vx_W (p : Program) (l : Launch) (e : Env) (R : Room) (s : State) (m : MethodId) (args : Array Value) (below : List Frame) (meth : Method) (c : Code) (H : Heap) (locs : List Loc) (cells slots : Nat) (Q : State → Prop) (g : JFrame) (q : Addr) : Prop :=
  ∀ T : State, T.heap = H → Stand p l e R s m args below meth c T locs cells slots → ∃ t, Steps p.tables e below ((T.setTop g).pushFrame (.throwing q)) t ∧ Q t
def vx_Run (p : Program) (l : Launch) (e : Env) (R : Room) (s : State) (m : MethodId) (args : Array Value) (below : List Frame) (meth : Method) (c : Code) (H : Heap) (locs : List Loc) (cells slots mc ms : Nat) (g : JFrame) (rest : List Value) (Qa : State → Outcome → State → Prop) (XC : String → State → State → Prop) (free : Addr → Prop) : Prop :=
  ∀ T : State, T.heap = H → Stand p l e R s m args below meth c T locs cells slots →
    (∃ (v : Option Value) (st₀ t T' : State) (L : List Loc), st₀.heap = H ∧ Stand p l e R s m args below meth c T' (locs ++ L) (cells + mc) (slots + ms) ∧ (∀ q ∈ L, free q.base) ∧ T'.heap = t.heap ∧ T'.vm = t.vm ∧ Qa st₀ (.returned v) t ∧
      Goes p e below T g T' { g with pc := g.pc + 3, stack := v.toList ++ rest }) ∨
    (∃ (q : Addr) (st₀ t T' : State) (L : List Loc) (E : String) (ce : Cell), st₀.heap = H ∧ Stand p l e R s m args below meth c T' (locs ++ L) (cells + mc) (slots + ms) ∧ (∀ z ∈ L, free z.base) ∧ T'.heap = t.heap ∧ T'.vm = t.vm ∧ XC E st₀ t ∧ t.heap[q]? = some ce ∧ ce.vm = .none ∧ s.vm.findClass E = some ce.cls ∧
      Steps p.tables e below (T.setTop g) ((T'.setTop { g with stack := rest }).pushFrame (.throwing q)))
def vx_X {S : Type} (px : S → Prop) (B : String → S → State → Prop) (A : Nat → Prop) : String → State → State → Prop := fun E st t => ∃ u : S, px u ∧ B E u t ∧ va_F A st t
section Runs
variable {p : Program} {l : Launch} {e : Env} {R : Room} {s : State} {m : MethodId} {args : Array Value} {below : List Frame} {meth : Method} {c : Code} {H : Heap} {locs : List Loc} {cells slots : Nat}
variable {y : MethodName} {bytes cc : ByteArray} {maxL nL mc ms n index : Nat} {ret : Option FieldType} {ws : List Cond} {rm : Room} {Pc : Array Value → State → Prop} {Qc : Array Value → State → Outcome → State → Prop} {XC : String → State → State → Prop} {free : Addr → Prop} {Ts : List Cond} {own C : String} {b : Addr} {As rest : List Value} {g : JFrame}
theorem vx_callBack (cb : CallB R s args own index y bytes maxL ret ws rm mc ms n) (hM : vx_Met l y ws rm Pc Qc XC mc ms free) (hbl : FrameBlind Pc) : vx_Back l R p e below s args y 3 8 (PreOf R mc ms Pc) (PostOf Qc mc ms free) (vx_Post XC mc ms free) := by
  obtain ⟨hrc, hrs, hfr, hlo, hws, hcw, -, hini, -⟩ := cb
  exact vx_back (bytes := bytes) (maxL := maxL) (ret := ret) hM hbl hrc hrs hfr hlo hws hcw (fun a' U hW => word_at hW (Or.inl (by first | rfl | simp [Cond.onTables, Cond.keeps, Cond.steady])) hini)
theorem vx_runV (S : CallFix p m c cc nL s args Ts own) (hM : vx_Met l y ws rm Pc Qc XC mc ms free) (cw : CallW R s args own C index y bytes maxL ret ws rm mc ms n) (hp : PreV s H C b Pc As)
    (hg : g.method = m) (hn : As.length = n) (hsize : g.locals.size = nL) (hstack : g.stack = As.reverse ++ .ref b :: rest) (hW : 2 * g.monitorRoom + (rest.map fun v => v.category).sum ≤ 8) (hdg : decode cc g.pc = .ok (.invokevirtual index, 3)) (hf : cells + mc ≤ R.cells ∧ slots + ms ≤ R.slots) :
    vx_Run p l e R s m args below meth c H locs cells slots mc ms g rest (Qc (Value.ref b :: As).toArray) XC free := by
  have hK : vx_Back l R p e below s args y 3 8 (PreOf R mc ms Pc) (PostOf Qc mc ms free) (vx_Post XC mc ms free) := vx_callBack cw.1 hM hp.1
  obtain ⟨⟨-, -, -, -, -, -, hcode, -, hy, hlen, hl⟩, hin, hse⟩ := cw
  obtain ⟨hx, hb, hml, ho, -⟩ := S
  obtain ⟨-, ⟨cellB, hcB, hoB, hclB⟩, hPc⟩ := hp
  intro T hT X
  rcases vx_callV X hx (C := C) (bytes := bytes) (maxL := maxL) (ret := ret) ho hl hin hse hcode hy hK (by rw [hT]; exact hcB) hoB hclB hg (hsize.trans hml.symm) (argsL := As) (rest := rest) (fun sig h => hn.trans (hlen sig h)) hstack hW (by rw [hb]; exact hdg)
    (fun vm₁ hW₁ => ⟨hf.1, hf.2, hPc (T.setVm vm₁) hT hW₁⟩) with ⟨v, vm₁, ⟨U', l2, c2, s2⟩, hW₁, X', ⟨g', mk, t, L, e1, e2, hq, h1, hL, h2, h3⟩, st⟩ | ⟨q, vm₁, ⟨U', l2, c2, s2⟩, hW₁, X', ⟨g', mk, t, L, E, ce, e1, e2, hq, hce, hcv, hcl, h1, hL, h2, h3⟩, st⟩
  · dsimp only [Pt.U, Pt.locs, Pt.cells, Pt.slots] at X' e1 e2 h1 h2 h3 st
    subst h1; subst h2; subst h3
    exact Or.inl ⟨v, (T.setVm vm₁).calling g' mk (Value.ref b :: As).toArray, t, U', L, hT, X', hL, e1, e2, hq, st⟩
  · dsimp only [Pt.U, Pt.locs, Pt.cells, Pt.slots] at X' e1 e2 h1 h2 h3 st hcl
    subst h1; subst h2; subst h3
    exact Or.inr ⟨q, (T.setVm vm₁).calling g' mk (Value.ref b :: As).toArray, t, U', L, E, ce, hT, X', hL, e1, e2, hq, hce, hcv, vx_cls hW₁ hcl, st⟩
theorem vx_runS (S : CallFix p m c cc nL s args Ts own) (hM : vx_Met l y ws rm Pc Qc XC mc ms free) (cw : CallB R s args own index y bytes maxL ret ws rm mc ms n ∧ (Cond.static y).before args s = true) (hp : PreS s H Pc As)
    (hg : g.method = m) (hn : As.length = n) (hsize : g.locals.size = nL) (hstack : g.stack = As.reverse ++ rest) (hW : 2 * g.monitorRoom + (rest.map fun v => v.category).sum ≤ 8) (hdg : decode cc g.pc = .ok (.invokestatic index, 3)) (hf : cells + mc ≤ R.cells ∧ slots + ms ≤ R.slots) :
    vx_Run p l e R s m args below meth c H locs cells slots mc ms g rest (Qc As.toArray) XC free := by
  have hK : vx_Back l R p e below s args y 3 8 (PreOf R mc ms Pc) (PostOf Qc mc ms free) (vx_Post XC mc ms free) := vx_callBack cw.1 hM hp.1
  obtain ⟨⟨-, -, -, -, -, -, hcode, hini, hy, hlen, hl⟩, hstt⟩ := cw
  obtain ⟨hx, hb, hml, ho, -⟩ := S
  intro T hT X
  rcases vx_callS X hx (bytes := bytes) (maxL := maxL) (ret := ret) ho hl hstt hini hcode hy hK hg (hsize.trans hml.symm) (argsL := As) (rest := rest) (fun sig h => hn.trans (hlen sig h)) hstack hW (by rw [hb]; exact hdg)
    (fun vm₁ hW₁ => ⟨hf.1, hf.2, hp.2 (T.setVm vm₁) hT hW₁⟩) with ⟨v, vm₁, ⟨U', l2, c2, s2⟩, hW₁, X', ⟨g', mk, t, L, e1, e2, hq, h1, hL, h2, h3⟩, st⟩ | ⟨q, vm₁, ⟨U', l2, c2, s2⟩, hW₁, X', ⟨g', mk, t, L, E, ce, e1, e2, hq, hce, hcv, hcl, h1, hL, h2, h3⟩, st⟩
  · dsimp only [Pt.U, Pt.locs, Pt.cells, Pt.slots] at X' e1 e2 h1 h2 h3 st
    subst h1; subst h2; subst h3
    exact Or.inl ⟨v, (T.setVm vm₁).calling g' mk As.toArray, t, U', L, hT, X', hL, e1, e2, hq, st⟩
  · dsimp only [Pt.U, Pt.locs, Pt.cells, Pt.slots] at X' e1 e2 h1 h2 h3 st hcl
    subst h1; subst h2; subst h3
    exact Or.inr ⟨q, (T.setVm vm₁).calling g' mk As.toArray, t, U', L, E, ce, hT, X', hL, e1, e2, hq, hce, hcv, vx_cls hW₁ hcl, st⟩
end Runs
section Rows
variable {p : Program} {l : Launch} {e : Env} {R : Room} {s : State} {m : MethodId} {args : Array Value} {below : List Frame} {meth : Method} {c : Code} {H : Heap} {locs : List Loc} {cells slots : Nat} {Q : State → Prop}
variable {mc ms : Nat} {free : Addr → Prop} {A0 A1 : Nat → Prop} {H0 : Heap} {a : Array Value} {pc : Nat} {ls : Array Slot} {st0 rest : List Value}
theorem vx_keep {st₀ t T' : State} {L : List Loc} (h0 : st₀.heap = H) (e1 : T'.heap = t.heap) (hS : va_S A0 H0 H locs) (hA : ∀ q, q < H.size → A1 q → A0 q) (hf : ∀ q, free q → A0 q) (hL : ∀ q ∈ L, free q.base) (hF : va_F A1 st₀ t) :
    H.size ≤ T'.heap.size ∧ (∀ q : Nat, q < H.size → ¬ A1 q → T'.heap[q]? = H[q]?) ∧ va_S A0 H0 T'.heap (locs ++ L) := by
  obtain ⟨hz, hk⟩ := hF
  rw [h0] at hz hk
  exact ⟨by rw [e1]; exact hz, fun q h1 h2 => by rw [e1]; exact hk q h1 h2,
    ⟨Nat.le_trans hS.1 (by rw [e1]; exact hz), fun q h1 h2 => by rw [e1, hk q (Nat.lt_of_lt_of_le h1 hS.1) (fun z => h2 (hA q (Nat.lt_of_lt_of_le h1 hS.1) z))]; exact hS.2.1 q h1 h2, fun q hq => by
      rcases List.mem_append.mp hq with h | h
      · exact hS.2.2 q h
      · exact hf _ (hL q h)⟩⟩
theorem vx_calli {S SX : Type} {post : Int32 → S → Prop} {px : SX → Prop} {B : S → State → Prop} {BX : String → SX → State → Prop} {AX : Nat → Prop} (hr : vx_Run p l e R s m args below meth c H locs cells slots mc ms (F0 m pc ls st0) rest (va_Qi post B A1 a) (vx_X px BX AX) free) (hS : va_S A0 H0 H locs) (hA : ∀ q, q < H.size → A1 q → A0 q) (hf : ∀ q, free q → A0 q) (hAX : ∀ q, q < H.size → AX q → A0 q)
    (kx : ∀ (E : String) (ce : Cell) (q9 : Addr) (u : SX) (t : State) (H1 : Heap) (locs1 : List Loc), t.heap = H1 → s.vm.Alike t.vm → px u → BX E u t → H.size ≤ H1.size → (∀ q : Nat, q < H.size → ¬ AX q → H1[q]? = H[q]?) → va_S A0 H0 H1 locs1 → H1[q9]? = some ce → ce.vm = .none → s.vm.findClass E = some ce.cls → vx_W p l e R s m args below meth c H1 locs1 (cells + mc) (slots + ms) Q (F0 m pc ls rest) q9)
    (kk : ∀ (r : Int32) (u : S) (t : State) (H1 : Heap) (locs1 : List Loc), t.heap = H1 → s.vm.Alike t.vm → post r u → B u t → H.size ≤ H1.size → (∀ q : Nat, q < H.size → ¬ A1 q → H1[q]? = H[q]?) → va_S A0 H0 H1 locs1 → W p l e R s m args below meth c H1 locs1 (cells + mc) (slots + ms) Q (F0 m (pc + 3) ls (.int r :: rest))) : W p l e R s m args below meth c H locs cells slots Q (F0 m pc ls st0) := by
  intro T hT X
  rcases hr T hT X with ⟨v, st₀, t, T', L, h0, X', hL, e1, e2, ⟨⟨r, u, hv, hp, hb⟩, hF⟩, st⟩ | ⟨q, st₀, t, T', L, E, ce, h0, X', hL, e1, e2, ⟨u, hp, hb, hF⟩, hce, hcv, hcl, st⟩
  · cases hv
    obtain ⟨k1, k2, k3⟩ := vx_keep h0 e1 hS hA hf hL hF
    obtain ⟨t2, a1, b1⟩ := kk r u t T'.heap (locs ++ L) e1.symm (by rw [← e2]; exact X'.warmed.alike) hp hb k1 k2 k3 T' rfl X'
    exact ⟨t2, st t2 a1, b1⟩
  · obtain ⟨k1, k2, k3⟩ := vx_keep h0 e1 hS hAX hf hL hF
    obtain ⟨t2, a1, b1⟩ := kx E ce q u t T'.heap (locs ++ L) e1.symm (by rw [← e2]; exact X'.warmed.alike) hp hb k1 k2 k3 (by rw [e1]; exact hce) hcv hcl T' rfl X'
    exact ⟨t2, st.trans a1, b1⟩
theorem vx_calll {S SX : Type} {post : Int64 → S → Prop} {px : SX → Prop} {B : S → State → Prop} {BX : String → SX → State → Prop} {AX : Nat → Prop} (hr : vx_Run p l e R s m args below meth c H locs cells slots mc ms (F0 m pc ls st0) rest (va_Ql post B A1 a) (vx_X px BX AX) free) (hS : va_S A0 H0 H locs) (hA : ∀ q, q < H.size → A1 q → A0 q) (hf : ∀ q, free q → A0 q) (hAX : ∀ q, q < H.size → AX q → A0 q)
    (kx : ∀ (E : String) (ce : Cell) (q9 : Addr) (u : SX) (t : State) (H1 : Heap) (locs1 : List Loc), t.heap = H1 → s.vm.Alike t.vm → px u → BX E u t → H.size ≤ H1.size → (∀ q : Nat, q < H.size → ¬ AX q → H1[q]? = H[q]?) → va_S A0 H0 H1 locs1 → H1[q9]? = some ce → ce.vm = .none → s.vm.findClass E = some ce.cls → vx_W p l e R s m args below meth c H1 locs1 (cells + mc) (slots + ms) Q (F0 m pc ls rest) q9)
    (kk : ∀ (r : Int64) (u : S) (t : State) (H1 : Heap) (locs1 : List Loc), t.heap = H1 → s.vm.Alike t.vm → post r u → B u t → H.size ≤ H1.size → (∀ q : Nat, q < H.size → ¬ A1 q → H1[q]? = H[q]?) → va_S A0 H0 H1 locs1 → W p l e R s m args below meth c H1 locs1 (cells + mc) (slots + ms) Q (F0 m (pc + 3) ls (.long r :: rest))) : W p l e R s m args below meth c H locs cells slots Q (F0 m pc ls st0) := by
  intro T hT X
  rcases hr T hT X with ⟨v, st₀, t, T', L, h0, X', hL, e1, e2, ⟨⟨r, u, hv, hp, hb⟩, hF⟩, st⟩ | ⟨q, st₀, t, T', L, E, ce, h0, X', hL, e1, e2, ⟨u, hp, hb, hF⟩, hce, hcv, hcl, st⟩
  · cases hv
    obtain ⟨k1, k2, k3⟩ := vx_keep h0 e1 hS hA hf hL hF
    obtain ⟨t2, a1, b1⟩ := kk r u t T'.heap (locs ++ L) e1.symm (by rw [← e2]; exact X'.warmed.alike) hp hb k1 k2 k3 T' rfl X'
    exact ⟨t2, st t2 a1, b1⟩
  · obtain ⟨k1, k2, k3⟩ := vx_keep h0 e1 hS hAX hf hL hF
    obtain ⟨t2, a1, b1⟩ := kx E ce q u t T'.heap (locs ++ L) e1.symm (by rw [← e2]; exact X'.warmed.alike) hp hb k1 k2 k3 (by rw [e1]; exact hce) hcv hcl T' rfl X'
    exact ⟨t2, st.trans a1, b1⟩
theorem vx_callf {S SX : Type} {post : UInt32 → S → Prop} {px : SX → Prop} {B : S → State → Prop} {BX : String → SX → State → Prop} {AX : Nat → Prop} (hr : vx_Run p l e R s m args below meth c H locs cells slots mc ms (F0 m pc ls st0) rest (va_Qf post B A1 a) (vx_X px BX AX) free) (hS : va_S A0 H0 H locs) (hA : ∀ q, q < H.size → A1 q → A0 q) (hf : ∀ q, free q → A0 q) (hAX : ∀ q, q < H.size → AX q → A0 q)
    (kx : ∀ (E : String) (ce : Cell) (q9 : Addr) (u : SX) (t : State) (H1 : Heap) (locs1 : List Loc), t.heap = H1 → s.vm.Alike t.vm → px u → BX E u t → H.size ≤ H1.size → (∀ q : Nat, q < H.size → ¬ AX q → H1[q]? = H[q]?) → va_S A0 H0 H1 locs1 → H1[q9]? = some ce → ce.vm = .none → s.vm.findClass E = some ce.cls → vx_W p l e R s m args below meth c H1 locs1 (cells + mc) (slots + ms) Q (F0 m pc ls rest) q9)
    (kk : ∀ (r : UInt32) (u : S) (t : State) (H1 : Heap) (locs1 : List Loc), t.heap = H1 → s.vm.Alike t.vm → post r u → B u t → H.size ≤ H1.size → (∀ q : Nat, q < H.size → ¬ A1 q → H1[q]? = H[q]?) → va_S A0 H0 H1 locs1 → W p l e R s m args below meth c H1 locs1 (cells + mc) (slots + ms) Q (F0 m (pc + 3) ls (.float r :: rest))) : W p l e R s m args below meth c H locs cells slots Q (F0 m pc ls st0) := by
  intro T hT X
  rcases hr T hT X with ⟨v, st₀, t, T', L, h0, X', hL, e1, e2, ⟨⟨r, u, hv, hp, hb⟩, hF⟩, st⟩ | ⟨q, st₀, t, T', L, E, ce, h0, X', hL, e1, e2, ⟨u, hp, hb, hF⟩, hce, hcv, hcl, st⟩
  · cases hv
    obtain ⟨k1, k2, k3⟩ := vx_keep h0 e1 hS hA hf hL hF
    obtain ⟨t2, a1, b1⟩ := kk r u t T'.heap (locs ++ L) e1.symm (by rw [← e2]; exact X'.warmed.alike) hp hb k1 k2 k3 T' rfl X'
    exact ⟨t2, st t2 a1, b1⟩
  · obtain ⟨k1, k2, k3⟩ := vx_keep h0 e1 hS hAX hf hL hF
    obtain ⟨t2, a1, b1⟩ := kx E ce q u t T'.heap (locs ++ L) e1.symm (by rw [← e2]; exact X'.warmed.alike) hp hb k1 k2 k3 (by rw [e1]; exact hce) hcv hcl T' rfl X'
    exact ⟨t2, st.trans a1, b1⟩
theorem vx_calld {S SX : Type} {post : UInt64 → S → Prop} {px : SX → Prop} {B : S → State → Prop} {BX : String → SX → State → Prop} {AX : Nat → Prop} (hr : vx_Run p l e R s m args below meth c H locs cells slots mc ms (F0 m pc ls st0) rest (va_Qd post B A1 a) (vx_X px BX AX) free) (hS : va_S A0 H0 H locs) (hA : ∀ q, q < H.size → A1 q → A0 q) (hf : ∀ q, free q → A0 q) (hAX : ∀ q, q < H.size → AX q → A0 q)
    (kx : ∀ (E : String) (ce : Cell) (q9 : Addr) (u : SX) (t : State) (H1 : Heap) (locs1 : List Loc), t.heap = H1 → s.vm.Alike t.vm → px u → BX E u t → H.size ≤ H1.size → (∀ q : Nat, q < H.size → ¬ AX q → H1[q]? = H[q]?) → va_S A0 H0 H1 locs1 → H1[q9]? = some ce → ce.vm = .none → s.vm.findClass E = some ce.cls → vx_W p l e R s m args below meth c H1 locs1 (cells + mc) (slots + ms) Q (F0 m pc ls rest) q9)
    (kk : ∀ (r : UInt64) (u : S) (t : State) (H1 : Heap) (locs1 : List Loc), t.heap = H1 → s.vm.Alike t.vm → post r u → B u t → H.size ≤ H1.size → (∀ q : Nat, q < H.size → ¬ A1 q → H1[q]? = H[q]?) → va_S A0 H0 H1 locs1 → W p l e R s m args below meth c H1 locs1 (cells + mc) (slots + ms) Q (F0 m (pc + 3) ls (.double r :: rest))) : W p l e R s m args below meth c H locs cells slots Q (F0 m pc ls st0) := by
  intro T hT X
  rcases hr T hT X with ⟨v, st₀, t, T', L, h0, X', hL, e1, e2, ⟨⟨r, u, hv, hp, hb⟩, hF⟩, st⟩ | ⟨q, st₀, t, T', L, E, ce, h0, X', hL, e1, e2, ⟨u, hp, hb, hF⟩, hce, hcv, hcl, st⟩
  · cases hv
    obtain ⟨k1, k2, k3⟩ := vx_keep h0 e1 hS hA hf hL hF
    obtain ⟨t2, a1, b1⟩ := kk r u t T'.heap (locs ++ L) e1.symm (by rw [← e2]; exact X'.warmed.alike) hp hb k1 k2 k3 T' rfl X'
    exact ⟨t2, st t2 a1, b1⟩
  · obtain ⟨k1, k2, k3⟩ := vx_keep h0 e1 hS hAX hf hL hF
    obtain ⟨t2, a1, b1⟩ := kx E ce q u t T'.heap (locs ++ L) e1.symm (by rw [← e2]; exact X'.warmed.alike) hp hb k1 k2 k3 (by rw [e1]; exact hce) hcv hcl T' rfl X'
    exact ⟨t2, st.trans a1, b1⟩
theorem vx_callv {S SX : Type} {post : S → Prop} {px : SX → Prop} {B : S → State → Prop} {BX : String → SX → State → Prop} {AX : Nat → Prop} (hr : vx_Run p l e R s m args below meth c H locs cells slots mc ms (F0 m pc ls st0) rest (va_Qv post B A1 a) (vx_X px BX AX) free) (hS : va_S A0 H0 H locs) (hA : ∀ q, q < H.size → A1 q → A0 q) (hf : ∀ q, free q → A0 q) (hAX : ∀ q, q < H.size → AX q → A0 q)
    (kx : ∀ (E : String) (ce : Cell) (q9 : Addr) (u : SX) (t : State) (H1 : Heap) (locs1 : List Loc), t.heap = H1 → s.vm.Alike t.vm → px u → BX E u t → H.size ≤ H1.size → (∀ q : Nat, q < H.size → ¬ AX q → H1[q]? = H[q]?) → va_S A0 H0 H1 locs1 → H1[q9]? = some ce → ce.vm = .none → s.vm.findClass E = some ce.cls → vx_W p l e R s m args below meth c H1 locs1 (cells + mc) (slots + ms) Q (F0 m pc ls rest) q9)
    (kk : ∀ (u : S) (t : State) (H1 : Heap) (locs1 : List Loc), t.heap = H1 → s.vm.Alike t.vm → post u → B u t → H.size ≤ H1.size → (∀ q : Nat, q < H.size → ¬ A1 q → H1[q]? = H[q]?) → va_S A0 H0 H1 locs1 → W p l e R s m args below meth c H1 locs1 (cells + mc) (slots + ms) Q (F0 m (pc + 3) ls (rest))) : W p l e R s m args below meth c H locs cells slots Q (F0 m pc ls st0) := by
  intro T hT X
  rcases hr T hT X with ⟨v, st₀, t, T', L, h0, X', hL, e1, e2, ⟨⟨u, hv, hp, hb⟩, hF⟩, st⟩ | ⟨q, st₀, t, T', L, E, ce, h0, X', hL, e1, e2, ⟨u, hp, hb, hF⟩, hce, hcv, hcl, st⟩
  · cases hv
    obtain ⟨k1, k2, k3⟩ := vx_keep h0 e1 hS hA hf hL hF
    obtain ⟨t2, a1, b1⟩ := kk u t T'.heap (locs ++ L) e1.symm (by rw [← e2]; exact X'.warmed.alike) hp hb k1 k2 k3 T' rfl X'
    exact ⟨t2, st t2 a1, b1⟩
  · obtain ⟨k1, k2, k3⟩ := vx_keep h0 e1 hS hAX hf hL hF
    obtain ⟨t2, a1, b1⟩ := kx E ce q u t T'.heap (locs ++ L) e1.symm (by rw [← e2]; exact X'.warmed.alike) hp hb k1 k2 k3 (by rw [e1]; exact hce) hcv hcl T' rfl X'
    exact ⟨t2, st.trans a1, b1⟩
/-- caught by the row x of this method's table; the rows ahead don't take it -/
theorem vx_catch {own name : String} {E : String} {ce : Cell} {q : Addr} (hown : s.vm.findClass own = some m.cls) (pre : List ExceptionTableEntry) (x : ExceptionTableEntry) (suf : List ExceptionTableEntry) (hsplit : c.exceptionTable.toList = pre ++ x :: suf)
    (hpass : ∀ z ∈ pre, covers z pc = false ∨ (z.catchType ≠ 0 ∧ ∃ nm : String, (Cond.classLink own z.catchType nm).before args s = true ∧ va_Nc E nm s)) (hx : covers x pc = true) (h0 : x.catchType ≠ 0)
    (hlink : (Cond.classLink own x.catchType name).before args s = true) (hcast : (Cond.castable E name).before args s = true) (hcell : H[q]? = some ce) (hv : ce.vm = .none) (hcl : s.vm.findClass E = some ce.cls)
    (kk : W p l e R s m args below meth c H locs cells slots Q (F0 m x.handlerPc ls [.ref q])) : vx_W p l e R s m args below meth c H locs cells slots Q (F0 m pc ls rest) q := by
  intro T hT X
  have hpl : e.platform.magicAccessors = ({} : Platform).magicAccessors := by rw [X.admits.platform]
  obtain ⟨c3, c4, hc3, hc4, hasg⟩ := Cond.castable_spec hcast
  cases Option.some.inj (hc3.symm.trans hcl)
  obtain ⟨c5, hc5, hcl5⟩ := Cond.classLink_spec hown hlink e.platform hpl
  cases Option.some.inj (hc4.symm.trans hc5)
  obtain ⟨vm', X', st⟩ := X.thenCaughtThrough q (g := F0 m pc ls rest) rfl (Steps.refl _) (by rw [hT]; exact hcell) (by rw [hv]; rfl) (by obtain ⟨k9, h9, -⟩ := Vm.findClass_spec hcl; exact ⟨k9, h9⟩) pre x suf hsplit
    (fun z hz => by
      rcases hpass z hz with h | ⟨hz0, nm, hl1, hn1⟩
      · exact Or.inl h
      · obtain ⟨c6, hc6, hcl6⟩ := Cond.classLink_spec hown hl1 e.platform hpl
        obtain ⟨a8, b8, h1, h2, h3⟩ := hn1
        cases Option.some.inj (h1.symm.trans hcl)
        cases Option.some.inj (h2.symm.trans hc6)
        exact Or.inr ⟨hz0, _, hcl6, h3⟩) hx (Or.inr ⟨h0, c4, hcl5, hasg⟩)
  obtain ⟨t, a1, b1⟩ := kk (T.setVm vm') hT X'
  exact ⟨t, st.trans a1, b1⟩
end Rows
section Ends
variable {p : Program} {l : Launch} {e : Env} {R : Room} {s : State} {m : MethodId} {args : Array Value} {below : List Frame} {meth : Method} {c : Code} {H : Heap} {locs : List Loc} {cells slots : Nat} {Q : State → Prop}
variable {mc ms : Nat} {free : Addr → Prop} {A0 A1 : Nat → Prop} {H0 : Heap} {a : Array Value} {ls : Array Slot} {st0 rest : List Value}
variable {Qc : Array Value → State → Outcome → State → Prop} {XC : String → State → State → Prop}
/-- what a body that may throw owes at its end -/
def vx_MQ (below : List Frame) (Qc : Array Value → State → Outcome → State → Prop) (XC : String → State → State → Prop) (a : Array Value) (s : State) (mc ms : Nat) (free : Addr → Prop) : State → Prop := fun t =>
  ∃ o, t.status = .running ∧ Ended t below o ∧ vx_Q Qc XC mc ms free a s o t
theorem vx_ret {g : JFrame} {mc ms : Nat} (k : W p l e R s m args below meth c H locs cells slots (MQ below Qc args s mc ms free) g) : W p l e R s m args below meth c H locs cells slots (vx_MQ below Qc XC args s mc ms free) g := by
  intro T hT X
  obtain ⟨t, a1, o, b1, b2, b3, b4⟩ := k T hT X
  exact ⟨t, a1, o, b1, b2, Or.inl ⟨b3, b4⟩⟩
/-- not caught here: it goes on to the caller -/
theorem vx_widen {g : JFrame} {q : Addr} {k n : Nat} (h1 : cells ≤ k) (h2 : slots ≤ n) (kk : vx_W p l e R s m args below meth c H locs k n Q g q) : vx_W p l e R s m args below meth c H locs cells slots Q g q := fun T hT X => kk T hT (stand_widen X h1 h2)
theorem vx_out {pc : Nat} {E : String} {ce : Cell} {q : Addr} {mc ms : Nat} (hout : ∀ x ∈ c.exceptionTable.toList, covers x pc = false) (hlocks : meth.locks = false) (hcell : H[q]? = some ce) (hv : ce.vm = .none) (hcl : s.vm.findClass E = some ce.cls)
    (hx : ∀ t : State, t.heap = H → s.vm.Alike t.vm → XC E s t) (hf : ∀ z ∈ locs, free z.base) (hc : cells ≤ mc) (hs : slots ≤ ms) :
    vx_W p l e R s m args below meth c H locs cells slots (vx_MQ below Qc XC args s mc ms free) (F0 m pc ls rest) q := by
  intro T hT X
  obtain ⟨st1, hrun, hend, hW, hsm⟩ := X.leaveThrown q (g := F0 m pc ls rest) rfl rfl rfl hout hlocks
  have hcell9 : (T.setFrames (.throwing q :: below)).heap[q]? = some ce := by
    show T.heap[q]? = some ce
    rw [hT]; exact hcell
  exact ⟨_, st1, .threw q, hrun, hend, Or.inr ⟨q, rfl, E, ce, locs, hx _ hT hW.alike, hcell9, hv, hcl, hW, hsm.mono hc hs, hf⟩⟩
theorem vx_frame {U : State} {k n : Nat} (h : s.sameButNew ({ U with vm := s.vm } : State) locs k n) : s.heap.size ≤ U.heap.size ∧ ∀ q : Nat, q < s.heap.size → (∀ z ∈ locs, z.base ≠ q) → U.heap[q]? = s.heap[q]? := by
  obtain ⟨-, h2, -, -, -, h6⟩ := h
  refine ⟨h2, fun q hq hz => ?_⟩
  obtain ⟨c9, e1, e2, e3, e4⟩ := h6 q _ (Array.getElem?_eq_getElem hq)
  have hs : c9.slots = (s.heap[q]).slots := Array.ext_getElem? fun i => e4 i fun hm => hz _ hm rfl
  have h9 : c9 = s.heap[q] := by
    rw [hs] at e2
    exact e2
  have e5 : U.heap[q]? = some c9 := e1
  rw [e5, h9, Array.getElem?_eq_getElem hq]
/-- the words of a throw but the four that speak of the heap -/
def vx_no (w : Cond) : Bool := decide (w ≠ .isRef (.static Bundle.tN "UNASSIGNED_STACK" Bundle.steD)) && decide (w ≠ .isRef (.static Bundle.tN "SUPPRESSED_SENTINEL" Bundle.listD)) && decide (w ≠ .laysStatic Bundle.tN "UNASSIGNED_STACK" Bundle.steD) && decide (w ≠ .laysStatic Bundle.tN "SUPPRESSED_SENTINEL" Bundle.listD)
def vx_at0 (own : String) (ic : Nat) (X : String) (names : List String) : List Cond := (Bundle.ownAtoms0 own ic X names).filter vx_no
def vx_atS (own : String) (ic : Nat) (X : String) (names : List String) : List Cond := (Bundle.ownAtoms own ic X names).filter vx_no
/-- a word that the tables alone decide, or a good one -/
def vx_ot (w : Cond) : Bool := w.onTables || goodWord w
theorem vx_ot_at {args a' : Array Value} {s U : State} {w : Cond} (hW : s.WarmedH U.vm) (hvm : s.vm = U.vm) (hg : vx_ot w = true) (h : w.before args s = true) : w.before a' U = true := by
  simp only [vx_ot, Bool.or_eq_true] at hg
  rcases hg with hg | hg
  · exact va_tabs hg hvm h
  · exact word_at hW (good_of_word hg) h
/-- a list's words: the good ones out of the method's own list, the others by premises of their own -/
theorem vx_hat {args : Array Value} {s : State} {L B : List Cond} (h1 : ∀ w ∈ L.filter goodWord, w.before args s = true) (h2 : ∀ w ∈ L.filter (fun w => !goodWord w), w ∈ B) (h3 : ∀ w ∈ B, w.before args s = true) : ∀ w ∈ L, w.before args s = true := by
  intro w hw
  by_cases g : goodWord w = true
  · exact h1 w (List.mem_filter.mpr ⟨hw, g⟩)
  · refine h3 w (h2 w (List.mem_filter.mpr ⟨hw, ?_⟩))
    show (!goodWord w) = true
    cases hgw : goodWord w
    · rfl
    · exact absurd hgw g
theorem vx_c {args : Array Value} {s : State} {w : Cond} {B : List Cond} (h : w.before args s = true) (t : ∀ w ∈ B, w.before args s = true) : ∀ w' ∈ w :: B, w'.before args s = true := fun w' h' => (List.mem_cons.mp h').elim (fun e => by rw [e]; exact h) (t w')
theorem vx_n {args : Array Value} {s : State} : ∀ w ∈ ([] : List Cond), w.before args s = true := fun _ h => nomatch h
theorem vx_own {args : Array Value} {s : State} {L : List Cond} (h1 : ∀ w ∈ L.filter vx_no, w.before args s = true)
    (hU : (Cond.isRef (.static Bundle.tN "UNASSIGNED_STACK" Bundle.steD)).before args s = true) (hN : (Cond.isRef (.static Bundle.tN "SUPPRESSED_SENTINEL" Bundle.listD)).before args s = true)
    (lU : (Cond.laysStatic Bundle.tN "UNASSIGNED_STACK" Bundle.steD).before args s = true) (lN : (Cond.laysStatic Bundle.tN "SUPPRESSED_SENTINEL" Bundle.listD).before args s = true) : ∀ w ∈ L, w.before args s = true := by
  intro w hw
  by_cases e1 : w = .isRef (.static Bundle.tN "UNASSIGNED_STACK" Bundle.steD)
  · rw [e1]; exact hU
  · by_cases e2 : w = .isRef (.static Bundle.tN "SUPPRESSED_SENTINEL" Bundle.listD)
    · rw [e2]; exact hN
    · by_cases e3 : w = .laysStatic Bundle.tN "UNASSIGNED_STACK" Bundle.steD
      · rw [e3]; exact lU
      · by_cases e4 : w = .laysStatic Bundle.tN "SUPPRESSED_SENTINEL" Bundle.listD
        · rw [e4]; exact lN
        · exact h1 w (List.mem_filter.mpr ⟨hw, by unfold vx_no; rw [decide_eq_true e1, decide_eq_true e2, decide_eq_true e3, decide_eq_true e4]; rfl⟩)
/-- where a static field lies, its class's statics cell in H -/
def vx_L (C n d : String) (A : Nat → Prop) (U : State) (H : Heap) : Prop := ∃ (c : ClassId) (k : Class) (i : Nat) (f : Field) (a : Nat) (cell : Cell), U.vm.findClass C = some c ∧ U.fieldFound? C n d = some (c, k, i, f) ∧ f.isStatic = true ∧ k.statics = some a ∧ H[a]? = some cell ∧ cell.vm.isStatics = true ∧ cell.cls = c ∧ f.slot < cell.slots.size ∧ k.staticTypes[f.slot]? = some f.type ∧ ¬ A a
theorem vx_L.moved {C n d : String} {A : Nat → Prop} {u U : State} {H : Heap} (hvm : u.vm.Alike U.vm) (h : vx_L C n d A u H) : vx_L C n d A U H := by
  obtain ⟨c, k, i, f, a, cell, h1, h2, h3, h4, h5, h6, h7, h8, h9, h10⟩ := h
  obtain ⟨k', hi', he⟩ := State.fieldFound?_setVm hvm h2
  exact ⟨c, k', i, f, a, cell, by rw [hvm.findClass]; exact h1, hi', h3, by rw [he]; exact h4, h5, h6, h7, h8, by rw [he]; exact h9, h10⟩
theorem vx_L.kept {C n d : String} {A : Nat → Prop} {U : State} {H H1 : Heap} (h : vx_L C n d A U H) (hq : ∀ a : Nat, a < H.size → ¬ A a → H1[a]? = H[a]?) : vx_L C n d A U H1 := by
  obtain ⟨c, k, i, f, a, cell, h1, h2, h3, h4, h5, h6, h7, h8, h9, h10⟩ := h
  exact ⟨c, k, i, f, a, cell, h1, h2, h3, h4, by rw [hq a (Array.getElem?_eq_some_iff.mp h5).1 h10]; exact h5, h6, h7, h8, h9, h10⟩
theorem vx_L.narrow {C n d : String} {A B : Nat → Prop} {U : State} {H : Heap} (h : vx_L C n d A U H) (hAB : ∀ q, B q → A q) : vx_L C n d B U H := by
  obtain ⟨c, k, i, f, a, cell, h1, h2, h3, h4, h5, h6, h7, h8, h9, h10⟩ := h
  exact ⟨c, k, i, f, a, cell, h1, h2, h3, h4, h5, h6, h7, h8, h9, fun z => h10 (hAB _ z)⟩
theorem vx_L.word {C n d : String} {A : Nat → Prop} {s : State} {args : Array Value} (h : vx_L C n d A s s.heap) : (Cond.laysStatic C n d).before args s = true := by
  obtain ⟨c, k, i, f, a, cell, h1, h2, h3, h4, h5, h6, h7, h8, h9, -⟩ := h
  show (Cond.laysStatic C n d).holds args s none s [] = true
  exact Cond.laysStatic_of h1 h2 h3 h4 h5 h6 h7 h8 h9
/-- .. and what it holds: null or some reference -/
def vx_Zq (C n d : String) (A : Nat → Prop) (U : State) (H : Heap) : Prop := va_Zq C n d A U H ∧ vx_L C n d A U H
theorem vx_Zq.moved {C n d : String} {A : Nat → Prop} {u U : State} {H : Heap} (hvm : u.vm.Alike U.vm) (h : vx_Zq C n d A u H) : vx_Zq C n d A U H := ⟨va_Zq.moved hvm h.1, vx_L.moved hvm h.2⟩
theorem vx_Zq.kept {C n d : String} {A : Nat → Prop} {U : State} {H H1 : Heap} (h : vx_Zq C n d A U H) (hq : ∀ a : Nat, a < H.size → ¬ A a → H1[a]? = H[a]?) : vx_Zq C n d A U H1 := ⟨va_Zq.kept h.1 hq, vx_L.kept h.2 hq⟩
theorem vx_Zq.narrow {C n d : String} {A B : Nat → Prop} {U : State} {H : Heap} (h : vx_Zq C n d A U H) (hAB : ∀ q, B q → A q) : vx_Zq C n d B U H := ⟨va_Zq.narrow h.1 hAB, vx_L.narrow h.2 hAB⟩
theorem vx_Zqof {args : Array Value} {s : State} {C n d : String} {A : Nat → Prop} (hl : (Cond.laysStatic C n d).before args s = true) (hini : (Cond.initialized C).before args s = true) (h : (Cond.isRef (.static C n d)).before args s = true) (hA : ∀ a : Nat, a < s.heap.size → ¬ A a) : vx_Zq C n d A s s.heap := by
  refine ⟨va_Zqof hl hini h hA, ?_⟩
  obtain ⟨c, k, i, f, a, cell, h1, h2, h3, h4, h5, h6, h7, h8, h9⟩ := Cond.laysStatic_spec hl
  exact ⟨c, k, i, f, a, cell, h1, h2, h3, h4, h5, h6, h7, h8, h9, hA a (Array.getElem?_eq_some_iff.mp h5).1⟩
theorem vx_isRef {C n d : String} {v : Value} {A : Nat → Prop} {s : State} {args : Array Value} (h : va_Z C n d v A s s.heap) (hv : v.isRef = true) : (Cond.isRef (.static C n d)).before args s = true := by
  obtain ⟨cf, kf, fi, f, a, cell, h1, h2, h3, h4, h5, h6, h7, -⟩ := h
  have he : (Term.static C n d).eval args s none [] s = some v := by
    simp [Term.eval, State.fieldNamed?, h1, h2, h4, h5, h6, h7]
  simp only [Cond.before, Cond.holds, Cond.value, he]
  cases v <;> simp_all [Value.isRef]
theorem vx_isRefq {C n d : String} {A : Nat → Prop} {s : State} {args : Array Value} (h : va_Zq C n d A s s.heap) : (Cond.isRef (.static C n d)).before args s = true := by
  rcases h with h | ⟨t, h⟩
  · exact vx_isRef h rfl
  · exact vx_isRef h rfl
/-- the same frame, seen from here: as if the method were called anew in this heap -/
theorem vx_rebase {T : State} (X : Stand p l e R s m args below meth c T locs cells slots) {R' : Room} (hf : R'.frames ≤ R.frames) (hl : R'.locals ≤ R.locals) (hc : cells + R'.cells ≤ R.cells) (hs : slots + R'.slots ≤ R.slots) :
    Stand p l e R' ((T.setVm s.vm).setFrames (.invoking m args :: below)) m args below meth c T [] 0 0 := by
  have htop : (T.setVm s.vm).topJava?.isSome := X.here.top
  have hF : ((T.setVm s.vm).setFrames (.invoking m args :: below)).frames = .invoking m args :: below := State.frames_setFrames _ (State.cur_lt_of_top htop)
  obtain ⟨g₀, hg0⟩ := Option.isSome_iff_exists.mp htop
  obtain ⟨r, hr⟩ := State.topJava?_eq_some.mp hg0
  have hl9 : e.platform.stackLimits (T.setVm s.vm).me = e.platform.stackLimits s.me := X.limits
  have hb9 : (T.setVm s.vm).me.stackBytes = s.me.stackBytes := X.bytes
  refine ⟨X.admits, X.cas, X.clock, hF, ?_, X.hears, X.method, X.code, X.here, X.tail, X.warmed, ?_, ?_, ?_⟩
  · have h := X.room
    have hU : ((T.setVm s.vm).setFrames (.invoking m args :: below)).localsInUse = s.localsInUse := by
      rw [State.localsInUse_invoking hF (meth := meth) (c := c) X.method X.code, State.localsInUse_invoking X.frames X.method X.code]
    simp only [State.hasRoom, Bool.and_eq_true, decide_eq_true_eq] at h ⊢
    obtain ⟨⟨⟨⟨h1, h2, h3, h4, h5, h6⟩, h7⟩, h8⟩, h9⟩ := h
    rw [X.frames, List.length_cons] at h2 h3
    have q1 := X.heapSize
    have q2 := X.used
    simp only [hF, hU, List.length_cons, State.stackLimits_setFrames, State.stackBytes_setFrames, hl9, hb9]
    refine ⟨⟨⟨⟨by omega, by omega, by omega, by omega, by omega, h6⟩, ?_⟩, ?_⟩, X.book⟩
    · show T.heap.size + R'.cells ≤ e.platform.maxCells
      omega
    · show T.slotsUsed + R'.slots ≤ e.platform.maxSlots
      omega
  · rw [State.stackLimits_setFrames]; rfl
  · rw [State.stackBytes_setFrames]; rfl
  · refine ⟨?_, Nat.le_refl _, Nat.le_refl _, ?_, ?_, fun a c9 h9 => ⟨c9, h9, rfl, rfl, fun _ _ => rfl⟩⟩
    · obtain ⟨t, ht, -⟩ := State.frames_cons hr
      show T.setVm s.vm = { ((T.setVm s.vm).setFrames (.invoking m args :: below)).setFrames (T.setVm s.vm).frames with heap := T.heap, slotsUsed := T.slotsUsed }
      rw [State.setFrames_setFrames, State.setFrames_self ht]
      rfl
    · show T.slotsUsed = T.slotsUsed + ((T.heap.toList.drop T.heap.size).map (·.slots.size)).sum
      rw [List.drop_eq_nil_of_le (Nat.le_of_eq Array.length_toList)]
      rfl
    · show ((T.heap.toList.drop T.heap.size).map (·.slots.size)).sum ≤ 0
      rw [List.drop_eq_nil_of_le (Nat.le_of_eq Array.length_toList)]
      exact Nat.le_refl _
/-- 'throw new E()': new; dup; invokespecial; athrow -/
theorem vx_throw0 {cc : ByteArray} {pc : Nat} (hexec : p.tables.exec = Jvm.exec) (hb : c.code = cc) (hl : l.stackTraces = false) {own cls : String} {names : List String} {ik ic mc ms : Nat} {A : Nat → Prop}
    (hown : s.vm.findClass own = some m.cls) (hcls : Bundle.fit cls = true) (hnames : ∀ n ∈ names, Bundle.fit n = true)
    (hk : (Cond.classLink own ik cls).before args s = true) (hini : (Cond.initialized cls).before args s = true) (hat : ∀ w ∈ vx_at0 own ic cls names, w.before args s = true)
    (hgood : ∀ w ∈ Cond.classLink own ik cls :: Cond.initialized cls :: vx_at0 own ic cls names, vx_ot w = true)
    (hU : vx_Zq Bundle.tN "UNASSIGNED_STACK" Bundle.steD A s s.heap) (hN : vx_Zq Bundle.tN "SUPPRESSED_SENTINEL" Bundle.listD A s s.heap) (hS : va_S A s.heap H locs) (hsize : ls.size = c.maxLocals)
    (d0 : decode cc pc = .ok (.new ik, 3)) (d3 : decode cc (pc + 3) = .ok (.dup, 1)) (d4 : decode cc (pc + 4) = .ok (.invokespecial ic, 3)) (d7 : decode cc (pc + 7) = .ok (.athrow, 1))
    (hout : ∀ x ∈ c.exceptionTable.toList, covers x (pc + 7) = false)
    (hRframes : names.length + 3 < R.frames) (hRlocals : (rest.map fun v => v.category).sum + (13 * (names.length + 1) + 42) ≤ R.locals) (hRcells : cells + 1 ≤ R.cells) (hRslots : slots + 6 ≤ R.slots) (hlocks : meth.locks = false)
    (hx : ∀ t : State, s.vm.Alike t.vm → H.size ≤ t.heap.size → (∀ q : Nat, q < H.size → t.heap[q]? = H[q]?) → XC cls s t)
    (hf : ∀ z ∈ locs, free z.base) (hc : cells + 1 ≤ mc) (hs : slots + 6 ≤ ms) :
    W p l e R s m args below meth c H locs cells slots (vx_MQ below Qc XC args s mc ms free) (F0 m pc ls rest) := by
  intro T hT X
  have htr : e.platform.stackTraces = false := (show e.platform.stackTraces = l.stackTraces by rw [X.admits.platform]).trans hl
  have Y := vx_rebase X (R' := { frames := R.frames, locals := R.locals, cells := 1, slots := 6 }) (Nat.le_refl _) (Nat.le_refl _) hRcells hRslots
  obtain ⟨s', hA⟩ : ∃ z, z = (T.setVm s.vm).setFrames (.invoking m args :: below) := ⟨_, rfl⟩
  rw [← hA] at Y
  have hvm : s'.vm = s.vm := by rw [hA]; rfl
  have hhp : s'.heap = H := by rw [hA]; exact hT
  have hW0 : s.WarmedH s'.vm := by rw [hvm]; exact State.WarmedH.refl s
  have hat' : ∀ w ∈ vx_at0 own ic cls names, w.before args s' = true := fun w hw => vx_ot_at hW0 hvm.symm (hgood w (List.mem_cons_of_mem _ (List.mem_cons_of_mem _ hw))) (hat w hw)
  have hk' : (Cond.classLink own ik cls).before args s' = true := vx_ot_at hW0 hvm.symm (hgood _ List.mem_cons_self) hk
  have hini' : (Cond.initialized cls).before args s' = true := vx_ot_at hW0 hvm.symm (hgood _ (List.mem_cons_of_mem _ List.mem_cons_self)) hini
  have hU' : vx_Zq Bundle.tN "UNASSIGNED_STACK" Bundle.steD A s' s'.heap := by rw [hhp]; exact vx_Zq.moved hW0.alike (hU.kept hS.2.1)
  have hN' : vx_Zq Bundle.tN "SUPPRESSED_SENTINEL" Bundle.listD A s' s'.heap := by rw [hhp]; exact vx_Zq.moved hW0.alike (hN.kept hS.2.1)
  have h : ∀ w ∈ Bundle.ownAtoms0 own ic cls names, w.before args s' = true := vx_own hat' (vx_isRefq hU'.1) (vx_isRefq hN'.1) hU'.2.word hN'.2.word
  have hown' : s'.vm.findClass own = some m.cls := by rw [hvm]; exact hown
  have hins : (Cond.instantiable cls 6).before args s' = true := h _ (by simp [Bundle.ownAtoms0])
  obtain ⟨vm₁, cX, kX, hfX, hkX, -, -, X₁, st1⟩ := Y.newCold hexec (own := own) (C := cls) (index := ik) (n := 6) hown' hk' hins hini'
    (g := F0 m pc ls rest) rfl (by rw [hb]; exact d0) (Nat.le_refl _) (Nat.le_refl _)
  generalize hT1 : (T.setVm vm₁).pushCell { cls := cX, slots := kX.instanceTypes.map defaultValue, vm := .none } = T1 at X₁ st1
  have hcat : (Value.ref T.heap.size).category = 1 := rfl
  have hcellA : T1.heap[T.heap.size]? = some (freshCell cX kX) := by rw [← hT1]; exact State.heap_pushCell_size _ _
  have d3' : decode c.code (pc + 3) = .ok (.dup, 1) := by rw [hb]; exact d3
  obtain ⟨U, hsteps, hrun, hend, hW, hsame, ce, hce, hO⟩ := X₁.ctorThrow0 hexec htr (own := own) (cls := cls) (names := names) (ic := ic) hown' hcls hnames h (fun x hx => nomatch hx) hfX hkX hcellA (by rw [hhp, hT]; exact Nat.le_refl _)
    (g := { method := m, pc := pc + 4, locals := ls, stack := .ref T.heap.size :: .ref T.heap.size :: rest, locked := none }) rfl hsize rfl rfl (rest := rest) rfl
    (by rw [hb]; exact d4) (by rw [hb]; exact d7) hout hRframes (by simp only [List.map_cons, List.sum_cons, hcat]; omega) hlocks
  obtain ⟨f1, f2⟩ := vx_frame hsame
  rw [hhp] at f1 f2
  have hWs : s.WarmedH U.vm := State.WarmedH.trans hW0 hW
  have hcl : s.vm.findClass cls = some ce.cls := by
    have h9 := hO.cls
    rw [hvm] at h9
    exact h9
  have hall : s.sameButNew ({ U with vm := s.vm } : State) locs mc ms := by
    subst hA
    obtain ⟨e1, e2⟩ := hsame
    rw [State.setFrames_setFrames] at e1
    have h2 : (T.setVm s.vm).sameButNew ({ U with vm := s.vm } : State) [] (0 + 1) (0 + 6) := ⟨e1, e2⟩
    have h3 := X.same.trans h2
    rw [List.append_nil] at h3
    exact h3.mono hc hs
  refine ⟨U, ?_, .threw T.heap.size, hrun, hend, Or.inr ⟨T.heap.size, rfl, cls, ce, locs, hx U hWs.alike f1 (fun q hq => f2 q hq (fun z hz => nomatch hz)), hce, hO.vm, hcl, hWs, hall, hf⟩⟩
  refine st1 _ ?_
  show Steps p.tables e below (T1.setTop { method := m, pc := pc + 3, locals := ls, stack := .ref T.heap.size :: rest, locked := none }) _
  jvm_step X₁.here [X₁.here.top, hexec, d3', Value.category]
  exact hsteps
/-- 'throw new E("text")': new; dup; ldc; invokespecial; athrow -/
theorem vx_throwS {cc : ByteArray} {pc : Nat} (hexec : p.tables.exec = Jvm.exec) (hb : c.code = cc) (hl : l.stackTraces = false) {own cls text : String} {names : List String} {ik is ic mc ms sa : Nat} {A : Nat → Prop}
    (hown : s.vm.findClass own = some m.cls) (hcls : Bundle.fit cls = true) (hnames : ∀ n ∈ names, Bundle.fit n = true)
    (hk : (Cond.classLink own ik cls).before args s = true) (hini : (Cond.initialized cls).before args s = true) (hstr : vk_R own is text sa s) (hat : ∀ w ∈ vx_atS own ic cls names, w.before args s = true)
    (hgood : ∀ w ∈ Cond.classLink own ik cls :: Cond.initialized cls :: vx_atS own ic cls names, vx_ot w = true)
    (hU : vx_Zq Bundle.tN "UNASSIGNED_STACK" Bundle.steD A s s.heap) (hN : vx_Zq Bundle.tN "SUPPRESSED_SENTINEL" Bundle.listD A s s.heap) (hS : va_S A s.heap H locs) (hsize : ls.size = c.maxLocals)
    (d0 : decode cc pc = .ok (.new ik, 3)) (d3 : decode cc (pc + 3) = .ok (.dup, 1)) (d4 : decode cc (pc + 4) = .ok (.ldc is, 2)) (d6 : decode cc (pc + 6) = .ok (.invokespecial ic, 3)) (d9 : decode cc (pc + 9) = .ok (.athrow, 1))
    (hout : ∀ x ∈ c.exceptionTable.toList, covers x (pc + 9) = false)
    (hRframes : names.length + 3 < R.frames) (hRlocals : (rest.map fun v => v.category).sum + (13 * (names.length + 1) + 43) ≤ R.locals) (hRcells : cells + 1 ≤ R.cells) (hRslots : slots + 6 ≤ R.slots) (hlocks : meth.locks = false)
    (hx : ∀ t : State, s.vm.Alike t.vm → H.size ≤ t.heap.size → (∀ q : Nat, q < H.size → t.heap[q]? = H[q]?) → XC cls s t)
    (hf : ∀ z ∈ locs, free z.base) (hc : cells + 1 ≤ mc) (hs : slots + 6 ≤ ms) :
    W p l e R s m args below meth c H locs cells slots (vx_MQ below Qc XC args s mc ms free) (F0 m pc ls rest) := by
  intro T hT X
  have htr : e.platform.stackTraces = false := (show e.platform.stackTraces = l.stackTraces by rw [X.admits.platform]).trans hl
  have Y := vx_rebase X (R' := { frames := R.frames, locals := R.locals, cells := 1, slots := 6 }) (Nat.le_refl _) (Nat.le_refl _) hRcells hRslots
  obtain ⟨s', hA⟩ : ∃ z, z = (T.setVm s.vm).setFrames (.invoking m args :: below) := ⟨_, rfl⟩
  rw [← hA] at Y
  have hvm : s'.vm = s.vm := by rw [hA]; rfl
  have hhp : s'.heap = H := by rw [hA]; exact hT
  have hW0 : s.WarmedH s'.vm := by rw [hvm]; exact State.WarmedH.refl s
  have hat' : ∀ w ∈ vx_atS own ic cls names, w.before args s' = true := fun w hw => vx_ot_at hW0 hvm.symm (hgood w (List.mem_cons_of_mem _ (List.mem_cons_of_mem _ hw))) (hat w hw)
  have hk' : (Cond.classLink own ik cls).before args s' = true := vx_ot_at hW0 hvm.symm (hgood _ List.mem_cons_self) hk
  have hini' : (Cond.initialized cls).before args s' = true := vx_ot_at hW0 hvm.symm (hgood _ (List.mem_cons_of_mem _ List.mem_cons_self)) hini
  have hU' : vx_Zq Bundle.tN "UNASSIGNED_STACK" Bundle.steD A s' s'.heap := by rw [hhp]; exact vx_Zq.moved hW0.alike (hU.kept hS.2.1)
  have hN' : vx_Zq Bundle.tN "SUPPRESSED_SENTINEL" Bundle.listD A s' s'.heap := by rw [hhp]; exact vx_Zq.moved hW0.alike (hN.kept hS.2.1)
  have h : ∀ w ∈ Bundle.ownAtoms own ic cls names, w.before args s' = true := vx_own hat' (vx_isRefq hU'.1) (vx_isRefq hN'.1) hU'.2.word hN'.2.word
  have hown' : s'.vm.findClass own = some m.cls := by rw [hvm]; exact hown
  have hins : (Cond.instantiable cls 6).before args s' = true := h _ (by simp [Bundle.ownAtoms])
  obtain ⟨vm₁, cX, kX, hfX, hkX, -, -, X₁, st1⟩ := Y.newCold hexec (own := own) (C := cls) (index := ik) (n := 6) hown' hk' hins hini'
    (g := F0 m pc ls rest) rfl (by rw [hb]; exact d0) (Nat.le_refl _) (Nat.le_refl _)
  generalize hT1 : (T.setVm vm₁).pushCell { cls := cX, slots := kX.instanceTypes.map defaultValue, vm := .none } = T1 at X₁ st1
  have hcat : (Value.ref T.heap.size).category = 1 := rfl
  have hcellA : T1.heap[T.heap.size]? = some (freshCell cX kX) := by rw [← hT1]; exact State.heap_pushCell_size _ _
  have d3' : decode c.code (pc + 3) = .ok (.dup, 1) := by rw [hb]; exact d3
  have d4' : decode c.code (pc + 4) = .ok (.ldc is, 2) := by rw [hb]; exact d4
  have hstr' : vk_R own is text sa s' := vk_R.warm hW0 hstr
  obtain ⟨U, hsteps, hrun, hend, hW, hsame, ce, hce, hO⟩ := X₁.ctorThrowS hexec htr (own := own) (cls := cls) (names := names) (ic := ic) hown' hcls hnames h (fun x hx => nomatch hx) hfX hkX hcellA (by rw [hhp, hT]; exact Nat.le_refl _) (msg := .ref sa) rfl
    (g := { method := m, pc := pc + 6, locals := ls, stack := .ref sa :: .ref T.heap.size :: .ref T.heap.size :: rest, locked := none }) rfl hsize rfl rfl (rest := rest) rfl
    (by rw [hb]; exact d6) (by rw [hb]; exact d9) hout hRframes (by simp only [List.map_cons, List.sum_cons, hcat]; omega) hlocks
  obtain ⟨f1, f2⟩ := vx_frame hsame
  rw [hhp] at f1 f2
  have hWs : s.WarmedH U.vm := State.WarmedH.trans hW0 hW
  have hcl : s.vm.findClass cls = some ce.cls := by
    have h9 := hO.cls
    rw [hvm] at h9
    exact h9
  have hall : s.sameButNew ({ U with vm := s.vm } : State) locs mc ms := by
    subst hA
    obtain ⟨e1, e2⟩ := hsame
    rw [State.setFrames_setFrames] at e1
    have h2 : (T.setVm s.vm).sameButNew ({ U with vm := s.vm } : State) [] (0 + 1) (0 + 6) := ⟨e1, e2⟩
    have h3 := X.same.trans h2
    rw [List.append_nil] at h3
    exact h3.mono hc hs
  refine ⟨U, ?_, .threw T.heap.size, hrun, hend, Or.inr ⟨T.heap.size, rfl, cls, ce, locs, hx U hWs.alike f1 (fun q hq => f2 q hq (fun z hz => nomatch hz)), hce, hO.vm, hcl, hWs, hall, hf⟩⟩
  refine st1 _ ?_
  show Steps p.tables e below (T1.setTop { method := m, pc := pc + 3, locals := ls, stack := .ref T.heap.size :: rest, locked := none }) _
  jvm_step X₁.here [X₁.here.top, hexec, d3', Value.category]
  exact X₁.ldcString hexec (own := own) (text := text) (index := is) (a := sa) hown' hstr'.1 hstr'.2
    (g := { method := m, pc := pc + 4, locals := ls, stack := .ref T.heap.size :: .ref T.heap.size :: rest, locked := none }) rfl d4' _ hsteps
/-- 'throw new E("text")', the text by a wide index -/
theorem vx_throwSW {cc : ByteArray} {pc : Nat} (hexec : p.tables.exec = Jvm.exec) (hb : c.code = cc) (hl : l.stackTraces = false) {own cls text : String} {names : List String} {ik is ic mc ms sa : Nat} {A : Nat → Prop}
    (hown : s.vm.findClass own = some m.cls) (hcls : Bundle.fit cls = true) (hnames : ∀ n ∈ names, Bundle.fit n = true)
    (hk : (Cond.classLink own ik cls).before args s = true) (hini : (Cond.initialized cls).before args s = true) (hstr : vk_R own is text sa s) (hat : ∀ w ∈ vx_atS own ic cls names, w.before args s = true)
    (hgood : ∀ w ∈ Cond.classLink own ik cls :: Cond.initialized cls :: vx_atS own ic cls names, vx_ot w = true)
    (hU : vx_Zq Bundle.tN "UNASSIGNED_STACK" Bundle.steD A s s.heap) (hN : vx_Zq Bundle.tN "SUPPRESSED_SENTINEL" Bundle.listD A s s.heap) (hS : va_S A s.heap H locs) (hsize : ls.size = c.maxLocals)
    (d0 : decode cc pc = .ok (.new ik, 3)) (d3 : decode cc (pc + 3) = .ok (.dup, 1)) (d4 : decode cc (pc + 4) = .ok (.ldc_w is, 3)) (d7 : decode cc (pc + 7) = .ok (.invokespecial ic, 3)) (d10 : decode cc (pc + 10) = .ok (.athrow, 1))
    (hout : ∀ x ∈ c.exceptionTable.toList, covers x (pc + 10) = false)
    (hRframes : names.length + 3 < R.frames) (hRlocals : (rest.map fun v => v.category).sum + (13 * (names.length + 1) + 43) ≤ R.locals) (hRcells : cells + 1 ≤ R.cells) (hRslots : slots + 6 ≤ R.slots) (hlocks : meth.locks = false)
    (hx : ∀ t : State, s.vm.Alike t.vm → H.size ≤ t.heap.size → (∀ q : Nat, q < H.size → t.heap[q]? = H[q]?) → XC cls s t)
    (hf : ∀ z ∈ locs, free z.base) (hc : cells + 1 ≤ mc) (hs : slots + 6 ≤ ms) :
    W p l e R s m args below meth c H locs cells slots (vx_MQ below Qc XC args s mc ms free) (F0 m pc ls rest) := by
  intro T hT X
  have htr : e.platform.stackTraces = false := (show e.platform.stackTraces = l.stackTraces by rw [X.admits.platform]).trans hl
  have Y := vx_rebase X (R' := { frames := R.frames, locals := R.locals, cells := 1, slots := 6 }) (Nat.le_refl _) (Nat.le_refl _) hRcells hRslots
  obtain ⟨s', hA⟩ : ∃ z, z = (T.setVm s.vm).setFrames (.invoking m args :: below) := ⟨_, rfl⟩
  rw [← hA] at Y
  have hvm : s'.vm = s.vm := by rw [hA]; rfl
  have hhp : s'.heap = H := by rw [hA]; exact hT
  have hW0 : s.WarmedH s'.vm := by rw [hvm]; exact State.WarmedH.refl s
  have hat' : ∀ w ∈ vx_atS own ic cls names, w.before args s' = true := fun w hw => vx_ot_at hW0 hvm.symm (hgood w (List.mem_cons_of_mem _ (List.mem_cons_of_mem _ hw))) (hat w hw)
  have hk' : (Cond.classLink own ik cls).before args s' = true := vx_ot_at hW0 hvm.symm (hgood _ List.mem_cons_self) hk
  have hini' : (Cond.initialized cls).before args s' = true := vx_ot_at hW0 hvm.symm (hgood _ (List.mem_cons_of_mem _ List.mem_cons_self)) hini
  have hU' : vx_Zq Bundle.tN "UNASSIGNED_STACK" Bundle.steD A s' s'.heap := by rw [hhp]; exact vx_Zq.moved hW0.alike (hU.kept hS.2.1)
  have hN' : vx_Zq Bundle.tN "SUPPRESSED_SENTINEL" Bundle.listD A s' s'.heap := by rw [hhp]; exact vx_Zq.moved hW0.alike (hN.kept hS.2.1)
  have h : ∀ w ∈ Bundle.ownAtoms own ic cls names, w.before args s' = true := vx_own hat' (vx_isRefq hU'.1) (vx_isRefq hN'.1) hU'.2.word hN'.2.word
  have hown' : s'.vm.findClass own = some m.cls := by rw [hvm]; exact hown
  have hins : (Cond.instantiable cls 6).before args s' = true := h _ (by simp [Bundle.ownAtoms])
  obtain ⟨vm₁, cX, kX, hfX, hkX, -, -, X₁, st1⟩ := Y.newCold hexec (own := own) (C := cls) (index := ik) (n := 6) hown' hk' hins hini'
    (g := F0 m pc ls rest) rfl (by rw [hb]; exact d0) (Nat.le_refl _) (Nat.le_refl _)
  generalize hT1 : (T.setVm vm₁).pushCell { cls := cX, slots := kX.instanceTypes.map defaultValue, vm := .none } = T1 at X₁ st1
  have hcat : (Value.ref T.heap.size).category = 1 := rfl
  have hcellA : T1.heap[T.heap.size]? = some (freshCell cX kX) := by rw [← hT1]; exact State.heap_pushCell_size _ _
  have d3' : decode c.code (pc + 3) = .ok (.dup, 1) := by rw [hb]; exact d3
  have d4' : decode c.code (pc + 4) = .ok (.ldc_w is, 3) := by rw [hb]; exact d4
  have hstr' : vk_R own is text sa s' := vk_R.warm hW0 hstr
  obtain ⟨U, hsteps, hrun, hend, hW, hsame, ce, hce, hO⟩ := X₁.ctorThrowS hexec htr (own := own) (cls := cls) (names := names) (ic := ic) hown' hcls hnames h (fun x hx => nomatch hx) hfX hkX hcellA (by rw [hhp, hT]; exact Nat.le_refl _) (msg := .ref sa) rfl
    (g := { method := m, pc := pc + 7, locals := ls, stack := .ref sa :: .ref T.heap.size :: .ref T.heap.size :: rest, locked := none }) rfl hsize rfl rfl (rest := rest) rfl
    (by rw [hb]; exact d7) (by rw [hb]; exact d10) hout hRframes (by simp only [List.map_cons, List.sum_cons, hcat]; omega) hlocks
  obtain ⟨f1, f2⟩ := vx_frame hsame
  rw [hhp] at f1 f2
  have hWs : s.WarmedH U.vm := State.WarmedH.trans hW0 hW
  have hcl : s.vm.findClass cls = some ce.cls := by
    have h9 := hO.cls
    rw [hvm] at h9
    exact h9
  have hall : s.sameButNew ({ U with vm := s.vm } : State) locs mc ms := by
    subst hA
    obtain ⟨e1, e2⟩ := hsame
    rw [State.setFrames_setFrames] at e1
    have h2 : (T.setVm s.vm).sameButNew ({ U with vm := s.vm } : State) [] (0 + 1) (0 + 6) := ⟨e1, e2⟩
    have h3 := X.same.trans h2
    rw [List.append_nil] at h3
    exact h3.mono hc hs
  refine ⟨U, ?_, .threw T.heap.size, hrun, hend, Or.inr ⟨T.heap.size, rfl, cls, ce, locs, hx U hWs.alike f1 (fun q hq => f2 q hq (fun z hz => nomatch hz)), hce, hO.vm, hcl, hWs, hall, hf⟩⟩
  refine st1 _ ?_
  show Steps p.tables e below (T1.setTop { method := m, pc := pc + 3, locals := ls, stack := .ref T.heap.size :: rest, locked := none }) _
  jvm_step X₁.here [X₁.here.top, hexec, d3', Value.category]
  exact X₁.ldcStringW hexec (own := own) (text := text) (index := is) (a := sa) hown' hstr'.1 hstr'.2
    (g := { method := m, pc := pc + 4, locals := ls, stack := .ref T.heap.size :: .ref T.heap.size :: rest, locked := none }) rfl d4' _ hsteps
end Ends
section Bodies
variable {l : Launch}
theorem vx_ofW {y : MethodName} {ws ws' : List Cond} {rm : Room} {Pc : Array Value → State → Prop} {Qc : Array Value → State → Outcome → State → Prop} {XC : String → State → State → Prop} {mc ms : Nat} {free : Addr → Prop} {cc : ByteArray} {maxL : Nat} {ret : Option FieldType}
    (hy : plainName y.cls = true) (hw : ws = Cond.code y cc maxL ret :: ws')
    (body : ∀ p e s m args below meth c s₁, BodyLoose p l y (headSpec ws rm) cc maxL ret e s m args below meth c s₁ → c.maxLocals = maxL → (∀ x ∈ c.exceptionTable.toList, False) → Pc args s →
      W p l e (headSpec ws rm).room s m args below meth c s.heap [] 0 0 (vx_MQ below Qc XC args s mc ms free) (entryFrame m args maxL)) : vx_Met l y ws rm Pc Qc XC mc ms free := by
  refine MetFree.of_bodyS (code := cc) (maxLocals := maxL) (ret := ret) hy ?_ ?_
  · intro args s m h hn
    obtain ⟨meth, c, h1, h2, h3, h4, h5, h6, -, -⟩ := Cond.code_spec hn (atoms_spec (ws := ws) h _ (by rw [hw]; exact List.mem_cons_self))
    exact ⟨meth, c, h1, h2, h3, h4, h5, h6⟩
  · intro p e s m args below meth c s₁ B hml hP _
    have hh0 : s₁.heap = s.heap := by rw [B.state]; rfl
    have ht : ∀ x ∈ c.exceptionTable.toList, False := by
      obtain ⟨meth9, c9, h1, h2, -, -, -, -, h7, -⟩ := Cond.code_spec B.named (atoms_spec (ws := ws) B.pre _ (by rw [hw]; exact List.mem_cons_self))
      cases Option.some.inj (h1.symm.trans B.method)
      cases Option.some.inj (h2.symm.trans (Stand.of_body B).code)
      intro x hx
      rw [Array.isEmpty_iff.mp h7] at hx
      cases hx
    obtain ⟨t, a1, o, b1, b2, b3⟩ := body p e s m args below meth c s₁ B hml ht hP s₁ hh0 (Stand.of_body B)
    exact ⟨t, o, a1, b1, b2, b3⟩
/-- the table of a body with handlers -/
theorem vx_table {p : Program} {x y : MethodName} {S : Spec} {cc bytes : ByteArray} {maxL maxL' : Nat} {ret ret' : Option FieldType} {e : Env} {s s₁ : State} {m : MethodId} {args : Array Value} {below : List Frame} {meth : Method} {c : Code} {hh : List (Nat × Nat × Nat × Nat)}
    (B : BodyLoose p l y S cc maxL ret e s m args below meth c s₁) (h : (Cond.codeWith y bytes maxL' ret' hh).before args s = true) : c.exceptionTable.toList = tableOf hh := by
  obtain ⟨m9, meth9, c9, hn9, h1, h2, -, -, h6, -⟩ := Cond.codeWith_spec h
  cases Option.some.inj (hn9.symm.trans B.named)
  cases Option.some.inj (h1.symm.trans B.method)
  cases Option.some.inj (h2.symm.trans (Stand.of_body B).code)
  rw [← h6, table_eq]
end Bodies
end VXA
/-! ===== END ===== -/
/-! ===== BEGIN a static call of a method with an exception table ===== -/
section VXS
variable {p : Program} {l : Launch} {e : Env} {R : Room} {s : State} {m : MethodId} {args : Array Value} {below : List Frame} {meth : Method} {c : Code} {T : State} {H : Heap} {locs : List Loc} {cells slots : Nat}
abbrev vx_CSW (R : Room) (s : State) (args : Array Value) (own : String) (index : Nat) (y : MethodName) (bytes : ByteArray) (maxL : Nat) (ret : Option FieldType) (hh : List (Nat × Nat × Nat × Nat)) (ws : List Cond) (rm : Room) (mc ms n : Nat) : Prop :=
  (rm.cells = mc ∧ rm.slots = ms ∧ rm.frames + 1 ≤ R.frames ∧ 8 + (maxL + 11) + rm.locals ≤ R.locals ∧ (∀ w ∈ ws, ∀ (a' : Array Value) (U : State), s.WarmedH U.vm → w.before a' U = true) ∧ Cond.codeWith y bytes maxL ret hh ∈ ws) ∧
  (Cond.codeWith y bytes maxL ret hh).before args s = true ∧ (Cond.initialized y.cls).before args s = true ∧ (y.cls ≠ "java/lang/invoke/MethodHandle" ∧ y.cls ≠ "java/lang/invoke/VarHandle") ∧
  (∀ sig, parseMethodDescriptor y.desc = some sig → n = sig.parameters.length) ∧ (Cond.methodLink own index y).before args s = true ∧ (Cond.static y).before args s = true
theorem vx_cwSW {own : String} {index maxL mc ms : Nat} {y : MethodName} {bytes : ByteArray} {ret : Option FieldType} {hh : List (Nat × Nat × Nat × Nat)} {Ts ws ws' : List Cond} {rm : Room} (n : Nat) (ht : ∀ w ∈ Ts, w.before args s = true) (hT : GoodIn Ts (va_wsS own index y ws)) (hw : ws = Cond.codeWith y bytes maxL ret hh :: ws') (hrc : rm.cells = mc) (hrs : rm.slots = ms)
    (hd : y.cls ≠ "java/lang/invoke/MethodHandle" ∧ y.cls ≠ "java/lang/invoke/VarHandle" ∧ (parseMethodDescriptor y.desc).map (fun d => d.parameters.length) = some n) (hR : rm.frames + 1 ≤ R.frames ∧ 8 + (maxL + 11) + rm.locals ≤ R.locals) :
    vx_CSW R s args own index y bytes maxL ret hh ws rm mc ms n := by
  have ok : ∀ w ∈ va_wsS own index y ws, w.before args s = true := fun w h => ht w (hT w h).1
  have hG : GoodIn Ts ws := fun w h => hT w (by unfold va_wsS; exact List.mem_append_right _ h)
  have hc : Cond.codeWith y bytes maxL ret hh ∈ ws := by rw [hw]; exact List.mem_cons_self
  refine ⟨⟨hrc, hrs, hR.1, hR.2, pay_in ht hG, hc⟩, ht _ (hG _ hc).1, ok _ (by simp [va_wsS]), ⟨hd.1, hd.2.1⟩, fun sig h => ?_, ok _ (by simp [va_wsS]), ok _ (by simp [va_wsS])⟩
  have h2 := hd.2.2
  rw [h] at h2
  exact (Option.some.inj h2).symm
theorem vx_callSW (X : Stand p l e R s m args below meth c T locs cells slots) (hexec : p.tables.exec = Jvm.exec) {own : String} {index : Nat} {y : MethodName} {bytes : ByteArray} {maxL : Nat} {ret : Option FieldType} {hh : List (Nat × Nat × Nat × Nat)}
    (hown : s.vm.findClass own = some m.cls) (hlink : (Cond.methodLink own index y).before args s = true) (hstat : (Cond.static y).before args s = true) (hinit : (Cond.initialized y.cls).before args s = true)
    (hcode : (Cond.codeWith y bytes maxL ret hh).before args s = true) (hy : y.cls ≠ "java/lang/invoke/MethodHandle" ∧ y.cls ≠ "java/lang/invoke/VarHandle")
    {W9 : Nat} {Pre : Pt → Array Value → Prop} {Post : Pt → Array Value → Option Value → Pt → Prop} (hK : Back l R p e below s args y 3 W9 Pre Post)
    {g : JFrame} (hg : g.method = m) (hsize : g.locals.size = c.maxLocals) {argsL rest : List Value} (hlen : ∀ sig, parseMethodDescriptor y.desc = some sig → argsL.length = sig.parameters.length)
    (hstack : g.stack = argsL.reverse ++ rest) (hW : 2 * g.monitorRoom + (rest.map fun v => v.category).sum ≤ W9) (hdg : decode c.code g.pc = .ok (.invokestatic index, 3))
    (hpre : ∀ vm₁, s.WarmedH vm₁ → Pre ⟨T.setVm vm₁, locs, cells, slots⟩ argsL.toArray) :
    ∃ (v : Option Value) (vm₁ : Vm) (B : Pt), s.WarmedH vm₁ ∧ Stand p l e R s m args below meth c B.U B.locs B.cells B.slots ∧ Post ⟨T.setVm vm₁, locs, cells, slots⟩ argsL.toArray v B ∧
      ∀ target, Steps p.tables e below (B.U.setTop { g with pc := g.pc + 3, stack := v.toList ++ rest }) target → Steps p.tables e below (T.setTop g) target := by
  obtain ⟨mk, methM, cM, hnamed, hmethM, -, -, -, -, -, -, hsigM⟩ := Cond.codeWith_spec hcode
  have hstatic : methM.isStatic = true := Cond.static_spec hnamed hmethM hstat
  obtain ⟨kP, hkP, -⟩ := className_of_methodNamed hnamed
  have hinitP : kP.init = .initialized := Cond.initialized_spec (findClass_of_methodNamed hnamed) hkP hinit
  obtain ⟨vm₁, X₁, hstep₁⟩ := X.invokestatic hexec hown hlink hnamed hmethM hstatic hkP hinitP hy (g := g) hg (argsL := argsL) (rest := rest) (hlen _ hsigM) hstack hdg
  obtain ⟨v, B, X', hpost, hsteps⟩ := hK m meth c ⟨T.setVm vm₁, locs, cells, slots⟩ { g with stack := rest } (.invokestatic index) mk argsL.toArray X₁ hg hsize hdg hW (X₁.named hnamed) (hpre vm₁ X₁.warmed)
  exact ⟨v, vm₁, B, X₁.warmed, X', hpost, fun target h => hstep₁ _ fun acts => by rw [doInvoke_state]; exact hsteps.trans h⟩
theorem vx_runSW {y : MethodName} {bytes cc : ByteArray} {maxL nL mc ms n index : Nat} {ret : Option FieldType} {hh : List (Nat × Nat × Nat × Nat)} {ws : List Cond} {rm : Room} {Pc : Array Value → State → Prop} {Qc : Array Value → State → Outcome → State → Prop} {free : Addr → Prop} {Ts : List Cond} {own : String} {As rest : List Value} {g : JFrame}
    (S : CallFix p m c cc nL s args Ts own) (hM : Met l y ws rm Pc Qc mc ms free) (cw : vx_CSW R s args own index y bytes maxL ret hh ws rm mc ms n) (hp : PreS s H Pc As)
    (hg : g.method = m) (hn : As.length = n) (hsize : g.locals.size = nL) (hstack : g.stack = As.reverse ++ rest) (hW : 2 * g.monitorRoom + (rest.map fun v => v.category).sum ≤ 8) (hdg : decode cc g.pc = .ok (.invokestatic index, 3)) (hf : cells + mc ≤ R.cells ∧ slots + ms ≤ R.slots) :
    va_Run p l e R s m args below meth c H locs cells slots mc ms g rest (Qc As.toArray) (free) := by
  obtain ⟨⟨hrc, hrs, hfr, hlo, hws, hcw⟩, hcode, hini, hy, hlen, hl, hstt⟩ := cw
  have hK : Back l R p e below s args y 3 8 (PreOf R mc ms Pc) (PostOf Qc mc ms free) := va_backW (hh := hh) (bytes := bytes) (maxL := maxL) (ret := ret) hM hp.1 hrc hrs hfr hlo hws hcw (fun a' U hW => word_at hW (Or.inl (by first | rfl | simp [Cond.onTables, Cond.keeps, Cond.steady])) hini)
  obtain ⟨hx, hb, hml, ho, -⟩ := S
  intro T hT X
  obtain ⟨v, vm₁, ⟨U', l2, c2, s2⟩, hW₁, X', ⟨g', mk, t, L, e1, e2, hq, h1, hL, h2, h3⟩, st⟩ := vx_callSW X hx (hh := hh) (bytes := bytes) (maxL := maxL) (ret := ret) ho hl hstt hini hcode hy hK hg (hsize.trans hml.symm) (argsL := As) (rest := rest) (fun sig h => hn.trans (hlen sig h)) hstack hW (by rw [hb]; exact hdg)
    (fun vm₁ hW₁ => ⟨hf.1, hf.2, hp.2 (T.setVm vm₁) hT hW₁⟩)
  dsimp only [Pt.U, Pt.locs, Pt.cells, Pt.slots] at X' e1 e2 h1 h2 h3 st
  subst h1; subst h2; subst h3
  exact ⟨v, (T.setVm vm₁).calling g' mk As.toArray, t, U', L, hT, X', hL, e1, e2, hq, st⟩
/-- not caught here, past rows that name other classes: it goes on to the caller -/
theorem vx_outP {p : Program} {l : Launch} {e : Env} {R : Room} {s : State} {m : MethodId} {args : Array Value} {below : List Frame} {meth : Method} {c : Code} {H : Heap} {locs : List Loc} {cells slots : Nat} {free : Addr → Prop} {ls : Array Slot} {rest : List Value} {Qc : Array Value → State → Outcome → State → Prop} {XC : String → State → State → Prop}
    {pc : Nat} {own E : String} {ce : Cell} {q : Addr} {mc ms : Nat} (hown : s.vm.findClass own = some m.cls) (hlocks : meth.locks = false)
    (hpass : ∀ z ∈ c.exceptionTable.toList, covers z pc = false ∨ (z.catchType ≠ 0 ∧ ∃ nm : String, (Cond.classLink own z.catchType nm).before args s = true ∧ va_Nc E nm s)) (hcell : H[q]? = some ce) (hv : ce.vm = .none) (hcl : s.vm.findClass E = some ce.cls)
    (hx : ∀ t : State, t.heap = H → s.vm.Alike t.vm → XC E s t) (hf : ∀ z ∈ locs, free z.base) (hc : cells ≤ mc) (hs : slots ≤ ms) :
    vx_W p l e R s m args below meth c H locs cells slots (vx_MQ below Qc XC args s mc ms free) (F0 m pc ls rest) q := by
  intro T hT X
  have hpl : e.platform.magicAccessors = ({} : Platform).magicAccessors := by rw [X.admits.platform]
  obtain ⟨vm', hW', X', st⟩ := X.outThrough hlocks q (g := F0 m pc ls rest) rfl rfl rfl (cell := ce) (by rw [hT]; exact hcell) (by rw [hv]; rfl)
    (by obtain ⟨k9, h9, -⟩ := Vm.findClass_spec hcl; exact ⟨k9, h9⟩) (fun z hz => by
      rcases hpass z hz with h | ⟨hz0, nm, hl1, hn1⟩
      · exact Or.inl h
      · obtain ⟨c6, hc6, hcl6⟩ := Cond.classLink_spec hown hl1 e.platform hpl
        obtain ⟨a8, b8, h1, h2, h3⟩ := hn1
        cases Option.some.inj (h1.symm.trans hcl)
        cases Option.some.inj (h2.symm.trans hc6)
        exact Or.inr ⟨hz0, _, hcl6, h3⟩)
  obtain ⟨g₀, hfr⟩ := X'.frames_eq
  have hcell9 : ((T.setVm vm').setFrames (.throwing q :: below)).heap[q]? = some ce := by
    show T.heap[q]? = some ce
    rw [hT]; exact hcell
  have hend : Ended ((T.setVm vm').setFrames (.throwing q :: below)) below (.threw q) := State.frames_setFrames _ (State.cur_lt_of_frames hfr)
  refine ⟨(T.setVm vm').setFrames (.throwing q :: below), ?_, .threw q, X'.here.running, hend, Or.inr ⟨q, rfl, E, ce, locs, hx _ hT (X'.ends _).1.alike, hcell9, hv, hcl, (X'.ends _).1, (X'.ends _).2.mono hc hs, hf⟩⟩
  rw [X.pushThrowing_eq]
  exact st
/-- a thing of a world lies in the heap -/
theorem vx_lt {D : va_G} {cl : List vw_C} {ws : va_W} {H1 : Heap} (h : va_P D cl ws H1) {k : Nat} {q : Nat × va_E} (hk : ws[k]? = some q) : q.1 < H1.size := (h k q hk).lt
end VXS
/-! ===== END ===== -/
/-! ===== BEGIN methods with a table of their own: called by a name, returning or throwing ===== -/
section VXH
/-! vx_backW, vx_callVX, vx_callSX, vx_callVW, vx_runVW, vx_runVX, vx_runSX, vx_ofWH follow the same proofs as their sisters above (Free/Laws.lean, Shelf42/LK1.lean); vx_outP calls Shelf42/NT130.lean (outThrough). -/
section
variable {l : Launch} {R : Room} {p : Program} {e : Env} {below : List Frame} {s : State} {sargs : Array Value} {y : MethodName} {len W9 : Nat}
theorem vx_backW {ws : List Cond} {rm : Room} {Pc : Array Value → State → Prop} {Qc : Array Value → State → Outcome → State → Prop} {XC : String → State → State → Prop} {mc ms : Nat} {free : Addr → Prop} {bytes : ByteArray} {maxL : Nat} {ret : Option FieldType} {hh : List (Nat × Nat × Nat × Nat)}
    (hM : vx_Met l y ws rm Pc Qc XC mc ms free) (hblind : FrameBlind Pc) (hrc : rm.cells = mc) (hrs : rm.slots = ms)
    (hframes : rm.frames + 1 ≤ R.frames) (hlocals : W9 + (maxL + 11) + rm.locals ≤ R.locals)
    (hws : ∀ w ∈ ws, ∀ a' U, s.WarmedH U.vm → w.before a' U = true) (hcode : Cond.codeWith y bytes maxL ret hh ∈ ws) (hinit : ∀ a' U, s.WarmedH U.vm → (Cond.initialized y.cls).before a' U = true) :
    vx_Back l R p e below s sargs y len W9 (PreOf R mc ms Pc) (PostOf Qc mc ms free) (vx_Post XC mc ms free) := by
  intro m meth c A g ig mk a X hg hsize hdg hW hn hp
  have h1 : (headSpec ws rm).pre.before a A.U = true := atoms_intro fun w hw => hws w hw _ _ X.warmed
  have h2 : (Cond.codeWith y bytes maxL ret hh).before a A.U = true := hws _ hcode _ _ X.warmed
  have h3 : (Cond.initialized y.cls).before a A.U = true := hinit _ _ X.warmed
  have h4 : A.cells + (headSpec ws rm).room.cells ≤ R.cells := by rw [show (headSpec ws rm).room.cells = mc from hrc]; exact hp.1
  have h5 : A.slots + (headSpec ws rm).room.slots ≤ R.slots := by rw [show (headSpec ws rm).room.slots = ms from hrs]; exact hp.2.1
  have hPc : Pc a (A.U.calling g mk a) := hblind _ _ _ _ hp.2.2
  obtain ⟨U, Ls, c0, s0⟩ := A
  dsimp only [Pt.U, Pt.locs, Pt.cells, Pt.slots] at h1 h2 h3 h4 h5 X hn hPc ⊢
  obtain ⟨m9, methY, cY, hn9, hmY, hcY, -, hlY, -⟩ := Cond.codeWith_spec h2
  cases Option.some.inj (hn9.symm.trans hn)
  obtain ⟨kY, hkY, -⟩ := className_of_methodNamed hn
  have hinitY : kY.init = .initialized := Cond.initialized_spec (findClass_of_methodNamed hn) hkY h3
  have h : At U g.method c below := by rw [hg]; exact X.here
  have hlocals9 : W9 + (maxL + 11) + (headSpec ws rm).room.locals ≤ R.locals := hlocals
  have happ : (headSpec ws rm).appliesLoose y e.platform (U.calling g mk a) = true :=
    Spec.appliesLoose_calling (g := g) h hdg hn hkY hinitY
      (X.room_calling (g := g) (R' := (headSpec ws rm).room) hsize hmY hcY hframes (by rw [hlY]; omega) h4 h5) h1
  obtain ⟨mid, hmid⟩ := h.above
  have hfr : (U.setTop g).frames = (.java g :: mid) ++ below := by rw [State.frames_setTop' g h.top, hmid]; rfl
  obtain ⟨o, s₂, hsteps, -, hend, hq⟩ := Steps.callFree hM p X.admits X.cas X.clock (acts := []) hfr happ hPc trivial
  have hq' : vx_Q Qc XC mc ms free a (U.calling g mk a) o s₂ := hq
  rw [State.frames_setTop' g h.top] at hend
  obtain ⟨g₀, hg0⟩ := Option.isSome_iff_exists.mp h.top
  obtain ⟨r, hr⟩ := State.topJava?_eq_some.mp hg0
  have hr' : (({ U with heap := s₂.heap, slotsUsed := s₂.slotsUsed } : State).setVm s₂.vm).frames = .java g₀ :: r := hr
  rcases hq' with ⟨hqc, L, hfe, hL⟩ | ⟨q, rfl, E, ce, L, hx, hce, hcv, hcl, hW₂, hsm, hL⟩
  · obtain ⟨⟨v, rfl⟩, hW₂, e2, q2, q3, q4, q5, q6⟩ := id hfe
    have e3 : s₂ = ({ (U.calling g mk a).setFrames s₂.frames with heap := s₂.heap, slotsUsed := s₂.slotsUsed } : State).setVm s₂.vm := by
      have : s₂ = ({ s₂ with vm := (U.calling g mk a).vm } : State).setVm s₂.vm := rfl
      rw [e2] at this
      exact this
    obtain ⟨c₂, i₂, len₂, hc₂, hd₂, hf₂⟩ := hend
    have hW' : U.WarmedH s₂.vm := hW₂
    have hcc : c₂ = c := by
      have h1 : s₂.code? g.method = U.code? g.method := by
        rw [State.code?_eq, State.code?_eq, hW'.alike.method?]
      exact Option.some.inj (hc₂.symm.trans (h1.trans h.code))
    subst hcc
    have hlen : len₂ = len := by rw [hdg] at hd₂; cases hd₂; rfl
    subst hlen
    have hs₂ : s₂ = (({ U with heap := s₂.heap, slotsUsed := s₂.slotsUsed } : State).setVm s₂.vm).setTop { g with pc := g.pc + len₂, stack := v.toList ++ g.stack } := by
      refine e3.trans ?_
      rw [hf₂, State.calling_eq h.top, State.setFrames_setFrames, State.setTop_of_frames _ hr', hr]
      rfl
    have hsame : U.sameButNew ({ U with heap := s₂.heap, slotsUsed := s₂.slotsUsed } : State) L mc ms := by
      refine ⟨?_, q2, q3, q4, q5, q6⟩
      obtain ⟨t, ht, -⟩ := State.frames_cons hr
      show ({ U with heap := s₂.heap, slotsUsed := s₂.slotsUsed } : State) = { U.setFrames U.frames with heap := s₂.heap, slotsUsed := s₂.slotsUsed }
      rw [State.setFrames_self ht]
    subst hg
    refine Or.inl ⟨v, ⟨(({ U with heap := s₂.heap, slotsUsed := s₂.slotsUsed } : State).setVm s₂.vm), Ls ++ L, c0 + mc, s0 + ms⟩,
      ⟨X.admits, X.cas, X.clock, X.frames, X.room, X.hears, X.method, X.code, (X.here.setHeapUsed s₂.heap s₂.slotsUsed).setVm hW'.alike, X.tail, State.WarmedH.trans X.warmed hW', X.limits, X.bytes, X.same.trans (hsame.setVm s.vm)⟩,
      ⟨g, mk, s₂, L, rfl, rfl, hqc, rfl, hL, rfl, rfl⟩, ?_⟩
    show Steps p.tables e below _ ((({ U with heap := s₂.heap, slotsUsed := s₂.slotsUsed } : State).setVm s₂.vm).setTop { g with pc := g.pc + len₂, stack := v.toList ++ g.stack })
    rw [← hs₂]
    exact hsteps
  · obtain ⟨e2, q2, q3, q4, q5, q6⟩ := id hsm
    have e3 : s₂ = ({ (U.calling g mk a).setFrames s₂.frames with heap := s₂.heap, slotsUsed := s₂.slotsUsed } : State).setVm s₂.vm := by
      have : s₂ = ({ s₂ with vm := (U.calling g mk a).vm } : State).setVm s₂.vm := rfl
      rw [e2] at this
      exact this
    have hf₂ : s₂.frames = .throwing q :: .java g :: U.frames.tail := hend
    have hW' : U.WarmedH s₂.vm := hW₂
    have hs₂ : s₂ = ((({ U with heap := s₂.heap, slotsUsed := s₂.slotsUsed } : State).setVm s₂.vm).setTop g).pushFrame (.throwing q) := by
      refine e3.trans ?_
      rw [hf₂, State.calling_eq h.top, State.setFrames_setFrames, State.pushFrame, State.frames_setTop _ hr', State.setTop_of_frames _ hr', State.setFrames_setFrames, hr]
      rfl
    have hsame : U.sameButNew ({ U with heap := s₂.heap, slotsUsed := s₂.slotsUsed } : State) L mc ms := by
      refine ⟨?_, q2, q3, q4, q5, q6⟩
      obtain ⟨t, ht, -⟩ := State.frames_cons hr
      show ({ U with heap := s₂.heap, slotsUsed := s₂.slotsUsed } : State) = { U.setFrames U.frames with heap := s₂.heap, slotsUsed := s₂.slotsUsed }
      rw [State.setFrames_self ht]
    subst hg
    refine Or.inr ⟨q, ⟨(({ U with heap := s₂.heap, slotsUsed := s₂.slotsUsed } : State).setVm s₂.vm), Ls ++ L, c0 + mc, s0 + ms⟩,
      ⟨X.admits, X.cas, X.clock, X.frames, X.room, X.hears, X.method, X.code, (X.here.setHeapUsed s₂.heap s₂.slotsUsed).setVm hW'.alike, X.tail, State.WarmedH.trans X.warmed hW', X.limits, X.bytes, X.same.trans (hsame.setVm s.vm)⟩,
      ⟨g, mk, s₂, L, E, ce, rfl, rfl, hx, hce, hcv, hcl, rfl, hL, rfl, rfl⟩, ?_⟩
    show Steps p.tables e below _ (((({ U with heap := s₂.heap, slotsUsed := s₂.slotsUsed } : State).setVm s₂.vm).setTop g).pushFrame (.throwing q))
    rw [← hs₂]
    exact hsteps
end
variable {p : Program} {l : Launch} {e : Env} {R : Room} {s : State} {m : MethodId} {args : Array Value} {below : List Frame} {meth : Method} {c : Code} {T : State} {H : Heap} {locs : List Loc} {cells slots : Nat}
theorem vx_callVX (X : Stand p l e R s m args below meth c T locs cells slots) (hexec : p.tables.exec = Jvm.exec) {own C : String} {index : Nat} {y : MethodName} {bytes : ByteArray} {maxL : Nat} {ret : Option FieldType} {hh : List (Nat × Nat × Nat × Nat)}
    (hown : s.vm.findClass own = some m.cls) (hlink : (Cond.methodLink own index y).before args s = true) (hinst : (Cond.instanceMethod y).before args s = true) (hsel : (Cond.selects C y y).before args s = true)
    (hcode : (Cond.codeWith y bytes maxL ret hh).before args s = true) (hy : y.cls ≠ "java/lang/invoke/MethodHandle" ∧ y.cls ≠ "java/lang/invoke/VarHandle")
    {W9 : Nat} {Pre : Pt → Array Value → Prop} {Post : Pt → Array Value → Option Value → Pt → Prop} {PostX : Pt → Array Value → Addr → Pt → Prop} (hK : vx_Back l R p e below s args y 3 W9 Pre Post PostX)
    {b : Addr} {cellB : Cell} (hcell : T.heap[b]? = some cellB) (hobj : cellB.vm.isStatics = false) (hcls : s.vm.findClass C = some cellB.cls)
    {g : JFrame} (hg : g.method = m) (hsize : g.locals.size = c.maxLocals) {argsL rest : List Value} (hlen : ∀ sig, parseMethodDescriptor y.desc = some sig → argsL.length = sig.parameters.length)
    (hstack : g.stack = argsL.reverse ++ .ref b :: rest) (hW : 2 * g.monitorRoom + (rest.map fun v => v.category).sum ≤ W9) (hdg : decode c.code g.pc = .ok (.invokevirtual index, 3))
    (hpre : ∀ vm₁, s.WarmedH vm₁ → Pre ⟨T.setVm vm₁, locs, cells, slots⟩ (Value.ref b :: argsL).toArray) :
    (∃ (v : Option Value) (vm₁ : Vm) (B : Pt), s.WarmedH vm₁ ∧ Stand p l e R s m args below meth c B.U B.locs B.cells B.slots ∧ Post ⟨T.setVm vm₁, locs, cells, slots⟩ (Value.ref b :: argsL).toArray v B ∧
      ∀ target, Steps p.tables e below (B.U.setTop { g with pc := g.pc + 3, stack := v.toList ++ rest }) target → Steps p.tables e below (T.setTop g) target) ∨
    (∃ (q : Addr) (vm₁ : Vm) (B : Pt), s.WarmedH vm₁ ∧ Stand p l e R s m args below meth c B.U B.locs B.cells B.slots ∧ PostX ⟨T.setVm vm₁, locs, cells, slots⟩ (Value.ref b :: argsL).toArray q B ∧
      Steps p.tables e below (T.setTop g) ((B.U.setTop { g with stack := rest }).pushFrame (.throwing q))) := by
  obtain ⟨mk, methM, hnamed, hmethM, hstM, habM⟩ := Cond.instanceMethod_spec hinst
  obtain ⟨m8, methM', cM, hn8, hmethM', -, -, -, -, -, -, hsigM⟩ := Cond.codeWith_spec hcode
  cases Option.some.inj (hn8.symm.trans hnamed)
  cases hmethM.symm.trans hmethM'
  obtain ⟨c2, r2, m2, q1, q2, q3, q4, kP, hkP, hkPi⟩ := Cond.selects_spec hsel
  cases hcls.symm.trans q1
  cases (State.methodFound?_of_named hnamed hy).symm.trans q2
  cases hnamed.symm.trans q3
  have hselP : selectMethod e.platform s.vm cellB.cls mk = .method mk := by rw [Launch.admits_selectMethod X.admits]; exact q4
  obtain ⟨vm₁, X₁, hstep₁⟩ := X.invokevirtual hexec hown hlink hnamed hmethM hstM hkP hkPi hy (a := b) (cell := cellB) hcell
    (fun z h => by rw [h] at hobj; cases hobj) hselP hmethM habM hkP hkPi (g := g) hg (argsL := argsL) (rest := rest) (hlen _ hsigM) hstack hdg
  rcases hK m meth c ⟨T.setVm vm₁, locs, cells, slots⟩ { g with stack := rest } (.invokevirtual index) mk (Value.ref b :: argsL).toArray X₁ hg hsize hdg hW (X₁.named hnamed) (hpre vm₁ X₁.warmed) with ⟨v, B, X', hpost, hsteps⟩ | ⟨q, B, X', hpost, hsteps⟩
  · exact Or.inl ⟨v, vm₁, B, X₁.warmed, X', hpost, fun target h => hstep₁ _ fun acts => by rw [doInvoke_state]; exact hsteps.trans h⟩
  · exact Or.inr ⟨q, vm₁, B, X₁.warmed, X', hpost, hstep₁ _ fun acts => by rw [doInvoke_state]; exact hsteps⟩
theorem vx_callSX (X : Stand p l e R s m args below meth c T locs cells slots) (hexec : p.tables.exec = Jvm.exec) {own : String} {index : Nat} {y : MethodName} {bytes : ByteArray} {maxL : Nat} {ret : Option FieldType} {hh : List (Nat × Nat × Nat × Nat)}
    (hown : s.vm.findClass own = some m.cls) (hlink : (Cond.methodLink own index y).before args s = true) (hstat : (Cond.static y).before args s = true) (hinit : (Cond.initialized y.cls).before args s = true)
    (hcode : (Cond.codeWith y bytes maxL ret hh).before args s = true) (hy : y.cls ≠ "java/lang/invoke/MethodHandle" ∧ y.cls ≠ "java/lang/invoke/VarHandle")
    {W9 : Nat} {Pre : Pt → Array Value → Prop} {Post : Pt → Array Value → Option Value → Pt → Prop} {PostX : Pt → Array Value → Addr → Pt → Prop} (hK : vx_Back l R p e below s args y 3 W9 Pre Post PostX)
    {g : JFrame} (hg : g.method = m) (hsize : g.locals.size = c.maxLocals) {argsL rest : List Value} (hlen : ∀ sig, parseMethodDescriptor y.desc = some sig → argsL.length = sig.parameters.length)
    (hstack : g.stack = argsL.reverse ++ rest) (hW : 2 * g.monitorRoom + (rest.map fun v => v.category).sum ≤ W9) (hdg : decode c.code g.pc = .ok (.invokestatic index, 3))
    (hpre : ∀ vm₁, s.WarmedH vm₁ → Pre ⟨T.setVm vm₁, locs, cells, slots⟩ argsL.toArray) :
    (∃ (v : Option Value) (vm₁ : Vm) (B : Pt), s.WarmedH vm₁ ∧ Stand p l e R s m args below meth c B.U B.locs B.cells B.slots ∧ Post ⟨T.setVm vm₁, locs, cells, slots⟩ argsL.toArray v B ∧
      ∀ target, Steps p.tables e below (B.U.setTop { g with pc := g.pc + 3, stack := v.toList ++ rest }) target → Steps p.tables e below (T.setTop g) target) ∨
    (∃ (q : Addr) (vm₁ : Vm) (B : Pt), s.WarmedH vm₁ ∧ Stand p l e R s m args below meth c B.U B.locs B.cells B.slots ∧ PostX ⟨T.setVm vm₁, locs, cells, slots⟩ argsL.toArray q B ∧
      Steps p.tables e below (T.setTop g) ((B.U.setTop { g with stack := rest }).pushFrame (.throwing q))) := by
  obtain ⟨mk, methM, cM, hnamed, hmethM, -, -, -, -, -, -, hsigM⟩ := Cond.codeWith_spec hcode
  have hstatic : methM.isStatic = true := Cond.static_spec hnamed hmethM hstat
  obtain ⟨kP, hkP, -⟩ := className_of_methodNamed hnamed
  have hinitP : kP.init = .initialized := Cond.initialized_spec (findClass_of_methodNamed hnamed) hkP hinit
  obtain ⟨vm₁, X₁, hstep₁⟩ := X.invokestatic hexec hown hlink hnamed hmethM hstatic hkP hinitP hy (g := g) hg (argsL := argsL) (rest := rest) (hlen _ hsigM) hstack hdg
  rcases hK m meth c ⟨T.setVm vm₁, locs, cells, slots⟩ { g with stack := rest } (.invokestatic index) mk argsL.toArray X₁ hg hsize hdg hW (X₁.named hnamed) (hpre vm₁ X₁.warmed) with ⟨v, B, X', hpost, hsteps⟩ | ⟨q, B, X', hpost, hsteps⟩
  · exact Or.inl ⟨v, vm₁, B, X₁.warmed, X', hpost, fun target h => hstep₁ _ fun acts => by rw [doInvoke_state]; exact hsteps.trans h⟩
  · exact Or.inr ⟨q, vm₁, B, X₁.warmed, X', hpost, hstep₁ _ fun acts => by rw [doInvoke_state]; exact hsteps⟩
theorem vx_callVW (X : Stand p l e R s m args below meth c T locs cells slots) (hexec : p.tables.exec = Jvm.exec) {own C : String} {index : Nat} {y : MethodName} {bytes : ByteArray} {maxL : Nat} {ret : Option FieldType} {hh : List (Nat × Nat × Nat × Nat)}
    (hown : s.vm.findClass own = some m.cls) (hlink : (Cond.methodLink own index y).before args s = true) (hinst : (Cond.instanceMethod y).before args s = true) (hsel : (Cond.selects C y y).before args s = true)
    (hcode : (Cond.codeWith y bytes maxL ret hh).before args s = true) (hy : y.cls ≠ "java/lang/invoke/MethodHandle" ∧ y.cls ≠ "java/lang/invoke/VarHandle")
    {W9 : Nat} {Pre : Pt → Array Value → Prop} {Post : Pt → Array Value → Option Value → Pt → Prop} (hK : Back l R p e below s args y 3 W9 Pre Post)
    {b : Addr} {cellB : Cell} (hcell : T.heap[b]? = some cellB) (hobj : cellB.vm.isStatics = false) (hcls : s.vm.findClass C = some cellB.cls)
    {g : JFrame} (hg : g.method = m) (hsize : g.locals.size = c.maxLocals) {argsL rest : List Value} (hlen : ∀ sig, parseMethodDescriptor y.desc = some sig → argsL.length = sig.parameters.length)
    (hstack : g.stack = argsL.reverse ++ .ref b :: rest) (hW : 2 * g.monitorRoom + (rest.map fun v => v.category).sum ≤ W9) (hdg : decode c.code g.pc = .ok (.invokevirtual index, 3))
    (hpre : ∀ vm₁, s.WarmedH vm₁ → Pre ⟨T.setVm vm₁, locs, cells, slots⟩ (Value.ref b :: argsL).toArray) :
    ∃ (v : Option Value) (vm₁ : Vm) (B : Pt), s.WarmedH vm₁ ∧ Stand p l e R s m args below meth c B.U B.locs B.cells B.slots ∧ Post ⟨T.setVm vm₁, locs, cells, slots⟩ (Value.ref b :: argsL).toArray v B ∧
      ∀ target, Steps p.tables e below (B.U.setTop { g with pc := g.pc + 3, stack := v.toList ++ rest }) target → Steps p.tables e below (T.setTop g) target := by
  obtain ⟨mk, methM, hnamed, hmethM, hstM, habM⟩ := Cond.instanceMethod_spec hinst
  obtain ⟨m8, methM', cM, hn8, hmethM', -, -, -, -, -, -, hsigM⟩ := Cond.codeWith_spec hcode
  cases Option.some.inj (hn8.symm.trans hnamed)
  cases hmethM.symm.trans hmethM'
  obtain ⟨c2, r2, m2, q1, q2, q3, q4, kP, hkP, hkPi⟩ := Cond.selects_spec hsel
  cases hcls.symm.trans q1
  cases (State.methodFound?_of_named hnamed hy).symm.trans q2
  cases hnamed.symm.trans q3
  have hselP : selectMethod e.platform s.vm cellB.cls mk = .method mk := by rw [Launch.admits_selectMethod X.admits]; exact q4
  obtain ⟨vm₁, X₁, hstep₁⟩ := X.invokevirtual hexec hown hlink hnamed hmethM hstM hkP hkPi hy (a := b) (cell := cellB) hcell
    (fun z h => by rw [h] at hobj; cases hobj) hselP hmethM habM hkP hkPi (g := g) hg (argsL := argsL) (rest := rest) (hlen _ hsigM) hstack hdg
  obtain ⟨v, B, X', hpost, hsteps⟩ := hK m meth c ⟨T.setVm vm₁, locs, cells, slots⟩ { g with stack := rest } (.invokevirtual index) mk (Value.ref b :: argsL).toArray X₁ hg hsize hdg hW (X₁.named hnamed) (hpre vm₁ X₁.warmed)
  exact ⟨v, vm₁, B, X₁.warmed, X', hpost, fun target h => hstep₁ _ fun acts => by rw [doInvoke_state]; exact hsteps.trans h⟩
abbrev vx_CVW (R : Room) (s : State) (args : Array Value) (own C : String) (index : Nat) (y : MethodName) (bytes : ByteArray) (maxL : Nat) (ret : Option FieldType) (hh : List (Nat × Nat × Nat × Nat)) (ws : List Cond) (rm : Room) (mc ms n : Nat) : Prop :=
  (rm.cells = mc ∧ rm.slots = ms ∧ rm.frames + 1 ≤ R.frames ∧ 8 + (maxL + 11) + rm.locals ≤ R.locals ∧ (∀ w ∈ ws, ∀ (a' : Array Value) (U : State), s.WarmedH U.vm → w.before a' U = true) ∧ Cond.codeWith y bytes maxL ret hh ∈ ws) ∧
  (Cond.codeWith y bytes maxL ret hh).before args s = true ∧ (Cond.initialized y.cls).before args s = true ∧ (y.cls ≠ "java/lang/invoke/MethodHandle" ∧ y.cls ≠ "java/lang/invoke/VarHandle") ∧
  (∀ sig, parseMethodDescriptor y.desc = some sig → n = sig.parameters.length) ∧ (Cond.methodLink own index y).before args s = true ∧ (Cond.instanceMethod y).before args s = true ∧ (Cond.selects C y y).before args s = true
theorem vx_cwVW {own C : String} {index maxL mc ms : Nat} {y : MethodName} {bytes : ByteArray} {ret : Option FieldType} {hh : List (Nat × Nat × Nat × Nat)} {Ts ws ws' : List Cond} {rm : Room} (n : Nat) (ht : ∀ w ∈ Ts, w.before args s = true) (hT : GoodIn Ts (wsV own index C y ws)) (hw : ws = Cond.codeWith y bytes maxL ret hh :: ws') (hrc : rm.cells = mc) (hrs : rm.slots = ms)
    (hd : y.cls = C ∧ y.cls ≠ "java/lang/invoke/MethodHandle" ∧ y.cls ≠ "java/lang/invoke/VarHandle" ∧ (parseMethodDescriptor y.desc).map (fun d => d.parameters.length) = some n) (hR : rm.frames + 1 ≤ R.frames ∧ 8 + (maxL + 11) + rm.locals ≤ R.locals) :
    vx_CVW R s args own C index y bytes maxL ret hh ws rm mc ms n := by
  obtain ⟨hC, hd⟩ := hd
  subst hC
  have ok : ∀ w ∈ wsV own index y.cls y ws, w.before args s = true := fun w h => ht w (hT w h).1
  have hG : GoodIn Ts ws := fun w h => hT w (by unfold wsV; exact List.mem_append_right _ h)
  have hc : Cond.codeWith y bytes maxL ret hh ∈ ws := by rw [hw]; exact List.mem_cons_self
  refine ⟨⟨hrc, hrs, hR.1, hR.2, pay_in ht hG, hc⟩, ht _ (hG _ hc).1, ok _ (by simp [wsV]), ⟨hd.1, hd.2.1⟩, fun sig h => ?_, ok _ (by simp [wsV]), ok _ (by simp [wsV]), ok _ (by simp [wsV])⟩
  have h2 := hd.2.2
  rw [h] at h2
  exact (Option.some.inj h2).symm
theorem vx_runVW {y : MethodName} {bytes cc : ByteArray} {maxL nL mc ms n index : Nat} {ret : Option FieldType} {hh : List (Nat × Nat × Nat × Nat)} {ws : List Cond} {rm : Room} {Pc : Array Value → State → Prop} {Qc : Array Value → State → Outcome → State → Prop} {free : Addr → Prop} {Ts : List Cond} {own C : String} {b : Addr} {As rest : List Value} {g : JFrame}
    (S : CallFix p m c cc nL s args Ts own) (hM : Met l y ws rm Pc Qc mc ms free) (cw : vx_CVW R s args own C index y bytes maxL ret hh ws rm mc ms n) (hp : PreV s H C b Pc As)
    (hg : g.method = m) (hn : As.length = n) (hsize : g.locals.size = nL) (hstack : g.stack = As.reverse ++ .ref b :: rest) (hW : 2 * g.monitorRoom + (rest.map fun v => v.category).sum ≤ 8) (hdg : decode cc g.pc = .ok (.invokevirtual index, 3)) (hf : cells + mc ≤ R.cells ∧ slots + ms ≤ R.slots) :
    va_Run p l e R s m args below meth c H locs cells slots mc ms g rest (Qc (Value.ref b :: As).toArray) free := by
  obtain ⟨⟨hrc, hrs, hfr, hlo, hws, hcw⟩, hcode, hini, hy, hlen, hl, hin, hse⟩ := cw
  have hK : Back l R p e below s args y 3 8 (PreOf R mc ms Pc) (PostOf Qc mc ms free) := va_backW (hh := hh) (bytes := bytes) (maxL := maxL) (ret := ret) hM hp.1 hrc hrs hfr hlo hws hcw (fun a' U hW => word_at hW (Or.inl (by first | rfl | simp [Cond.onTables, Cond.keeps, Cond.steady])) hini)
  obtain ⟨hx, hb, hml, ho, -⟩ := S
  obtain ⟨-, ⟨cellB, hcB, hoB, hclB⟩, hPc⟩ := hp
  intro T hT X
  obtain ⟨v, vm₁, ⟨U', l2, c2, s2⟩, hW₁, X', ⟨g', mk, t, L, e1, e2, hq, h1, hL, h2, h3⟩, st⟩ := vx_callVW X hx (C := C) (hh := hh) (bytes := bytes) (maxL := maxL) (ret := ret) ho hl hin hse hcode hy hK (by rw [hT]; exact hcB) hoB hclB hg (hsize.trans hml.symm) (argsL := As) (rest := rest) (fun sig h => hn.trans (hlen sig h)) hstack hW (by rw [hb]; exact hdg)
    (fun vm₁ hW₁ => ⟨hf.1, hf.2, hPc (T.setVm vm₁) hT hW₁⟩)
  dsimp only [Pt.U, Pt.locs, Pt.cells, Pt.slots] at X' e1 e2 h1 h2 h3 st
  subst h1; subst h2; subst h3
  exact ⟨v, (T.setVm vm₁).calling g' mk (Value.ref b :: As).toArray, t, U', L, hT, X', hL, e1, e2, hq, st⟩
section
variable {y : MethodName} {bytes cc : ByteArray} {maxL nL mc ms n index : Nat} {ret : Option FieldType} {ws : List Cond} {rm : Room} {Pc : Array Value → State → Prop} {Qc : Array Value → State → Outcome → State → Prop} {XC : String → State → State → Prop} {free : Addr → Prop} {Ts : List Cond} {own C : String} {b : Addr} {As rest : List Value} {g : JFrame}
theorem vx_runVX {hh : List (Nat × Nat × Nat × Nat)} (S : CallFix p m c cc nL s args Ts own) (hM : vx_Met l y ws rm Pc Qc XC mc ms free) (cw : vx_CVW R s args own C index y bytes maxL ret hh ws rm mc ms n) (hp : PreV s H C b Pc As)
    (hg : g.method = m) (hn : As.length = n) (hsize : g.locals.size = nL) (hstack : g.stack = As.reverse ++ .ref b :: rest) (hW : 2 * g.monitorRoom + (rest.map fun v => v.category).sum ≤ 8) (hdg : decode cc g.pc = .ok (.invokevirtual index, 3)) (hf : cells + mc ≤ R.cells ∧ slots + ms ≤ R.slots) :
    vx_Run p l e R s m args below meth c H locs cells slots mc ms g rest (Qc (Value.ref b :: As).toArray) XC free := by
  obtain ⟨⟨hrc, hrs, hfr, hlo, hws, hcw⟩, hcode, hini, hy, hlen, hl, hin, hse⟩ := cw
  have hK : vx_Back l R p e below s args y 3 8 (PreOf R mc ms Pc) (PostOf Qc mc ms free) (vx_Post XC mc ms free) := vx_backW (hh := hh) (bytes := bytes) (maxL := maxL) (ret := ret) hM hp.1 hrc hrs hfr hlo hws hcw (fun a' U hW => word_at hW (Or.inl (by first | rfl | simp [Cond.onTables, Cond.keeps, Cond.steady])) hini)
  obtain ⟨hx, hb, hml, ho, -⟩ := S
  obtain ⟨-, ⟨cellB, hcB, hoB, hclB⟩, hPc⟩ := hp
  intro T hT X
  rcases vx_callVX X hx (C := C) (hh := hh) (bytes := bytes) (maxL := maxL) (ret := ret) ho hl hin hse hcode hy hK (by rw [hT]; exact hcB) hoB hclB hg (hsize.trans hml.symm) (argsL := As) (rest := rest) (fun sig h => hn.trans (hlen sig h)) hstack hW (by rw [hb]; exact hdg)
    (fun vm₁ hW₁ => ⟨hf.1, hf.2, hPc (T.setVm vm₁) hT hW₁⟩) with ⟨v, vm₁, ⟨U', l2, c2, s2⟩, hW₁, X', ⟨g', mk, t, L, e1, e2, hq, h1, hL, h2, h3⟩, st⟩ | ⟨q, vm₁, ⟨U', l2, c2, s2⟩, hW₁, X', ⟨g', mk, t, L, E, ce, e1, e2, hq, hce, hcv, hcl, h1, hL, h2, h3⟩, st⟩
  · dsimp only [Pt.U, Pt.locs, Pt.cells, Pt.slots] at X' e1 e2 h1 h2 h3 st
    subst h1; subst h2; subst h3
    exact Or.inl ⟨v, (T.setVm vm₁).calling g' mk (Value.ref b :: As).toArray, t, U', L, hT, X', hL, e1, e2, hq, st⟩
  · dsimp only [Pt.U, Pt.locs, Pt.cells, Pt.slots] at X' e1 e2 h1 h2 h3 st hcl
    subst h1; subst h2; subst h3
    exact Or.inr ⟨q, (T.setVm vm₁).calling g' mk (Value.ref b :: As).toArray, t, U', L, E, ce, hT, X', hL, e1, e2, hq, hce, hcv, vx_cls hW₁ hcl, st⟩
theorem vx_runSX {hh : List (Nat × Nat × Nat × Nat)} (S : CallFix p m c cc nL s args Ts own) (hM : vx_Met l y ws rm Pc Qc XC mc ms free) (cw : vx_CSW R s args own index y bytes maxL ret hh ws rm mc ms n) (hp : PreS s H Pc As)
    (hg : g.method = m) (hn : As.length = n) (hsize : g.locals.size = nL) (hstack : g.stack = As.reverse ++ rest) (hW : 2 * g.monitorRoom + (rest.map fun v => v.category).sum ≤ 8) (hdg : decode cc g.pc = .ok (.invokestatic index, 3)) (hf : cells + mc ≤ R.cells ∧ slots + ms ≤ R.slots) :
    vx_Run p l e R s m args below meth c H locs cells slots mc ms g rest (Qc As.toArray) XC free := by
  obtain ⟨⟨hrc, hrs, hfr, hlo, hws, hcw⟩, hcode, hini, hy, hlen, hl, hstt⟩ := cw
  have hK : vx_Back l R p e below s args y 3 8 (PreOf R mc ms Pc) (PostOf Qc mc ms free) (vx_Post XC mc ms free) := vx_backW (hh := hh) (bytes := bytes) (maxL := maxL) (ret := ret) hM hp.1 hrc hrs hfr hlo hws hcw (fun a' U hW => word_at hW (Or.inl (by first | rfl | simp [Cond.onTables, Cond.keeps, Cond.steady])) hini)
  obtain ⟨hx, hb, hml, ho, -⟩ := S
  intro T hT X
  rcases vx_callSX X hx (hh := hh) (bytes := bytes) (maxL := maxL) (ret := ret) ho hl hstt hini hcode hy hK hg (hsize.trans hml.symm) (argsL := As) (rest := rest) (fun sig h => hn.trans (hlen sig h)) hstack hW (by rw [hb]; exact hdg)
    (fun vm₁ hW₁ => ⟨hf.1, hf.2, hp.2 (T.setVm vm₁) hT hW₁⟩) with ⟨v, vm₁, ⟨U', l2, c2, s2⟩, hW₁, X', ⟨g', mk, t, L, e1, e2, hq, h1, hL, h2, h3⟩, st⟩ | ⟨q, vm₁, ⟨U', l2, c2, s2⟩, hW₁, X', ⟨g', mk, t, L, E, ce, e1, e2, hq, hce, hcv, hcl, h1, hL, h2, h3⟩, st⟩
  · dsimp only [Pt.U, Pt.locs, Pt.cells, Pt.slots] at X' e1 e2 h1 h2 h3 st
    subst h1; subst h2; subst h3
    exact Or.inl ⟨v, (T.setVm vm₁).calling g' mk As.toArray, t, U', L, hT, X', hL, e1, e2, hq, st⟩
  · dsimp only [Pt.U, Pt.locs, Pt.cells, Pt.slots] at X' e1 e2 h1 h2 h3 st hcl
    subst h1; subst h2; subst h3
    exact Or.inr ⟨q, (T.setVm vm₁).calling g' mk As.toArray, t, U', L, E, ce, hT, X', hL, e1, e2, hq, hce, hcv, vx_cls hW₁ hcl, st⟩
end
end VXH
theorem vx_ofWH {l : Launch} {y : MethodName} {ws ws' : List Cond} {rm : Room} {Pc : Array Value → State → Prop} {Qc : Array Value → State → Outcome → State → Prop} {XC : String → State → State → Prop} {mc ms : Nat} {free : Addr → Prop} {cc : ByteArray} {maxL : Nat} {ret : Option FieldType} {hh : List (Nat × Nat × Nat × Nat)}
    (hy : plainName y.cls = true) (hw : ws = Cond.codeWith y cc maxL ret hh :: ws')
    (body : ∀ p e s m args below meth c s₁, BodyLoose p l y (headSpec ws rm) cc maxL ret e s m args below meth c s₁ → c.maxLocals = maxL → Pc args s →
      W p l e (headSpec ws rm).room s m args below meth c s.heap [] 0 0 (vx_MQ below Qc XC args s mc ms free) (entryFrame m args maxL)) : vx_Met l y ws rm Pc Qc XC mc ms free := by
  refine MetFree.of_bodyS (code := cc) (maxLocals := maxL) (ret := ret) hy ?_ ?_
  · intro args s m h hn
    obtain ⟨m9, meth, c, hn9, h1, h2, h3, h4, -, h5, h6, -⟩ := Cond.codeWith_spec (atoms_spec (ws := ws) h _ (by rw [hw]; exact List.mem_cons_self))
    cases hn.symm.trans hn9
    exact ⟨meth, c, h1, h2, h3, h4, h5, h6⟩
  · intro p e s m args below meth c s₁ B hml hP _
    have hh0 : s₁.heap = s.heap := by rw [B.state]; rfl
    obtain ⟨t, a1, o, b1, b2, b3⟩ := body p e s m args below meth c s₁ B hml hP s₁ hh0 (Stand.of_body B)
    exact ⟨t, o, a1, b1, b2, b3⟩
/-! ===== END ===== -/
/-! ===== BEGIN what the machine throws by itself, no traces kept ===== -/
section VXM
set_option maxHeartbeats 1000000 in
/-- the machine throws cls with the message text, no traces kept: from its note over the frame g to 'throwing' over the same frame (follows the proofs of Stand.vmThrowsMessage, Shelf/KitTracedVmS.lean, and Stand.throwsMessageColdBareV, StandMessageColdV.lean, without the step out of the frame) -/
theorem vx_vmAt {p : Program} {l : Launch} {e : Env} {R : Room} {s : State} {m₀ : MethodId} {args : Array Value} {below : List Frame} {meth : Method} {c : Code} {W : State} {locs : List Loc} {cells slots : Nat}
    (X : Stand p l e R s m₀ args below meth c W locs cells slots) (hexec : p.tables.exec = Jvm.exec) (htr : e.platform.stackTraces = false) {cls : String} {names : List String} {text : String}
    (hcls : Bundle.fit cls = true) (hnames : ∀ n ∈ names, Bundle.fit n = true) (hsoe : (cls == "java/lang/StackOverflowError") = false) (hoom : (cls == "java/lang/OutOfMemoryError") = false)
    (h : ∀ a ∈ Bundle.messageArmAtoms cls names, a.before args s = true)
    (hlocs : ∀ x ∈ locs, ∀ cell, s.heap[x.base]? = some cell → cell.vm.isStatics = false)
    (htext : (text == notModelled) = false) (hlimit : ¬ (stringBytes (stringToUtf16 text)).size > e.platform.arrayLengthLimit) (hheap : ¬ (stringBytes (stringToUtf16 text)).size * componentBytes .byte > e.platform.maxHeapBytes)
    {g : JFrame} (hg : g.method = m₀) (hsize : g.locals.size = c.maxLocals)
    (hRframes : names.length + 4 < R.frames) (hRlocals : 2 * g.monitorRoom + (g.stack.map fun v => v.category).sum + 10240 ≤ R.locals) (hshort : 13 * names.length + 55 ≤ 10240)
    (hRcells : cells + 3 ≤ R.cells) (hRslots : slots + ((stringBytes (stringToUtf16 text)).size + 4 + 6) ≤ R.slots) (hlocks : meth.locks = false) :
    ∃ (S : State) (q : Addr) (ce : Cell), (∀ target, Steps p.tables e below ((S.setTop g).pushFrame (.throwing q)) target → Steps p.tables e below ((W.setTop g).pushFrame (.throwNew cls (some text) none)) target) ∧
      Stand p l e R s m₀ args below meth c S locs (cells + 3) (slots + ((stringBytes (stringToUtf16 text)).size + 4 + 6)) ∧ S.heap[q]? = some ce ∧ s.vm.findClass cls = some ce.cls ∧ ce.vm = .none := by
  have howns : e.platform.frameOwnsMonitors = true := by rw [X.admits.platform]
  have hfin : e.platform.finalization = false := by rw [X.admits.platform]
  have hpl : e.platform.magicAccessors = ({} : Platform).magicAccessors := by rw [X.admits.platform]
  have a : ∀ x, x ∈ Bundle.messageArmAtoms cls names → x.holds args s none s [] = true := fun x hx => h x hx
  obtain ⟨T, Z0, L, -, Y⟩ := ThrowableC.of_atoms (args := args) howns hfin hpl (fun x hx => h x (by simp [Bundle.messageArmAtoms, hx]))
  obtain ⟨Z, M, LZ, LM, hnZ⟩ := Init0T.ofS_atoms (args := args) hpl L Y (fun x hx => h x (by simp [Bundle.messageArmAtoms, hx]))
  obtain ⟨P1, Ps, hlen, L1, hL, hP1m, hlink1, hlink⟩ := Bundle.chainS (args := args) hpl hnZ names cls hcls hnames (fun x hx => h x (by simp [Bundle.messageArmAtoms, hx]))
  obtain ⟨Zs, LZs, hn4, hfitv, hfitc⟩ := StringT.of_atoms (args := args) (fun x hx => h x (by simp [Bundle.messageArmAtoms, hx]))
  have hfound : s.vm.findClass cls = some P1.m.cls := findClass_of_methodNamed hP1m
  obtain ⟨c1, kX, hc1, hk, hord, -, -, hn6⟩ := Cond.instantiable_spec (a (.instantiable cls 6) (by simp [Bundle.messageArmAtoms]))
  cases Option.some.inj (hc1.symm.trans hfound)
  have hinit := Cond.initialized_spec hfound hk (a (.initialized cls) (by simp [Bundle.messageArmAtoms]))
  have hctor : kX.findMethod "<init>" "(Ljava/lang/String;)V" = some P1.m.idx := findMethod_of_methodNamed hP1m hk
  have hsel0 : selectMethod e.platform s.vm P1.m.cls T.fill0 = .method T.fill0 := by
    obtain ⟨c2, r2, m2, q1, q2, q3, q4, -⟩ := Cond.selects_spec (a (.selects cls Bundle.tFill0 Bundle.tFill0) (by simp [Bundle.messageArmAtoms]))
    cases Option.some.inj (q1.symm.trans hfound)
    cases Option.some.inj (q2.symm.trans (State.methodFound?_of_named Y.fill0 (by decide)))
    cases Option.some.inj (q3.symm.trans Y.fill0)
    rw [Launch.admits_selectMethod X.admits]; exact q4
  have hselF : selectMethod e.platform s.vm P1.m.cls T.fill = .method T.fill := by
    obtain ⟨c2, r2, m2, q1, q2, q3, q4, -⟩ := Cond.selects_spec (a (.selects cls Bundle.tFill Bundle.tFill) (by simp [Bundle.messageArmAtoms]))
    cases Option.some.inj (q1.symm.trans hfound)
    cases Option.some.inj (q2.symm.trans (State.methodFound?_of_named Y.fill (by decide)))
    cases Option.some.inj (q3.symm.trans Y.fill)
    rw [Launch.admits_selectMethod X.admits]; exact q4
  obtain ⟨cellS0, hcS0, hiss⟩ := Y.statics
  obtain ⟨u0, hu0⟩ := Cond.staticRefV Y.unassigned L.unassignedStatic L.statics hcS0 hiss (a (.isRef (.static Bundle.tN "UNASSIGNED_STACK" Bundle.steD)) (by simp [Bundle.messageArmAtoms]))
  obtain ⟨sen, hsen⟩ := Cond.staticRefV Y.sentinel L.sentinelStatic L.statics hcS0 hiss (a (.isRef (.static Bundle.tN "SUPPRESSED_SENTINEL" Bundle.listD)) (by simp [Bundle.messageArmAtoms]))
  obtain ⟨ci198, i198, fB, hk198, hg198, ha198, hsB, -, hnB, htB, hffB⟩ := Cond.ownField (t := .object "java/lang/Object") Y.found L.cls (by decide +kernel) (a (.fieldLink Bundle.tN 198 Bundle.tN "backtrace" "Ljava/lang/Object;") (by simp [Bundle.messageArmAtoms])) (a (.lays Bundle.tN Bundle.tN "backtrace" "Ljava/lang/Object;") (by simp [Bundle.messageArmAtoms])) e.platform hpl
  obtain ⟨cellS, hcS', heS, -, hkeep⟩ := X.same.2.2.2.2.2 T.aS cellS0 hcS0
  have hcellS : W.heap[T.aS]? = some cellS := hcS'
  have hout' : ∀ i, (⟨T.aS, i⟩ : Loc) ∉ locs := fun i hmem => by
    have := hlocs _ hmem cellS0 hcS0
    rw [hiss] at this; cases this
  have hknownS : cellS.vm ≠ .unknown := by
    rw [heS]; intro hu
    rw [show cellS0.vm = .unknown from hu] at hiss
    cases hiss
  have hvU : cellS.slots[T.fUnassigned.slot]? = some u0.v := by rw [hkeep _ (hout' _)]; exact hu0
  have hvSen : cellS.slots[T.fSentinel.slot]? = some sen.v := by rw [hkeep _ (hout' _)]; exact hsen
  obtain ⟨iM, hffM⟩ := Y.msg
  obtain ⟨tyC, dC, hdC, hdnC⟩ := Cond.laysAt hfound hk Y.cause (a (.lays cls Bundle.tN "cause" "Ljava/lang/Throwable;") (by simp [Bundle.messageArmAtoms]))
  obtain ⟨tyS, dS, hdS, hdnS⟩ := Cond.laysAt hfound hk Y.stack (a (.lays cls Bundle.tN "stackTrace" Bundle.steD) (by simp [Bundle.messageArmAtoms]))
  obtain ⟨tyP, dP, hdP, hdnP⟩ := Cond.laysAt hfound hk Y.supp (a (.lays cls Bundle.tN "suppressedExceptions" Bundle.listD) (by simp [Bundle.messageArmAtoms]))
  obtain ⟨tyM, dM, hdM, hdnM⟩ := Cond.laysAt hfound hk hffM (a (.lays cls Bundle.tN "detailMessage" "Ljava/lang/String;") (by simp [Bundle.messageArmAtoms]))
  obtain ⟨tyB, dB, hdB, hdnB⟩ := Cond.laysAt hfound hk hffB (a (.lays cls Bundle.tN "backtrace" "Ljava/lang/Object;") (by simp [Bundle.messageArmAtoms]))
  have bC := Cond.laysApart hdB hdC hdnB hdnC (by rw [hnB, Y.causeName]; decide)
  have bS := Cond.laysApart hdB hdS hdnB hdnS (by rw [hnB, Y.stackName]; decide)
  have bP := Cond.laysApart hdB hdP hdnB hdnP (by rw [hnB, Y.suppName]; decide)
  have hbk : ((preparedCellV T.toThrowableT (freshCell P1.m.cls kX) (W.heap.size + 2) u0 sen).withEntry W.cur).slots[fB.slot]? = some .null := by
    have := fresh_default (c := P1.m.cls) tyB
    rw [htB] at this
    simpa [preparedCellV, Cell.setSlot, Cell.withEntry, Array.getElem?_setIfInBounds, bC, bS, bP, bC.symm, bS.symm, bP.symm, defaultValue] using this
  have tkC := Takes.of_laid (v := .ref (W.heap.size + 2)) hk hord tyC (by rw [Y.causeType]; rfl)
  have tkS := Takes.of_laid (v := u0.v) hk hord tyS (by rw [Y.stackType]; exact fits_refV_array _ u0)
  have tkP := Takes.of_laid (v := sen.v) hk hord tyP (by rw [Y.suppType]; exact fits_refV_object _ sen)
  have tkM := Takes.of_laid (v := .ref (W.heap.size + 1)) hk hord tyM (by rw [Y.msgType]; rfl)
  have hskip : SkipFacts T e.platform s (fun u => u) u0 ((preparedCellV T.toThrowableT (freshCell P1.m.cls kX) (W.heap.size + 2) u0 sen).withEntry W.cur) := ⟨{ ci198 := ci198, i198 := i198, fBack := fB }, ⟨hk198, hg198, ha198, hsB⟩, hbk, fun _ _ => rfl⟩
  have h0 : At W g.method c below := by rw [hg]; exact X.here
  obtain ⟨hbeyond, hfreeW⟩ := X.vmMayThrow hsize (.throwNew cls (some text) none) (fun f hf => by cases hf) rfl hRlocals
  have hfr' : W.frames.length + Ps.length + 4 < (e.platform.stackLimits W.me).1 := by have := X.framesAbove hRframes; omega
  have hwd' : (stackUse (.java g :: W.frames.tail)).2 + 13 * Ps.length + 55 ≤ (e.platform.stackLimits W.me).2 := by have := X.stackAbove hsize (K := 13 * Ps.length + 55) (by omega); omega
  have hslots : W.slotsUsed + (stringBytes (stringToUtf16 text)).size + Zs.kS.instanceTypes.size + kX.instanceTypes.size ≤ e.platform.maxSlots := by
    have := X.slotsAbove hRslots
    rw [hn4, hn6]
    omega
  obtain ⟨vm', hW', st⟩ := Steps.vmThrowsMessageColdByV p (s₀ := s) (S := W) (g := g) h0 hexec T L Z LZ M LM X.warmed (t := W.cur) rfl Zs LZs P1 L1 Ps hL hlink1 hlink hsoe hoom hfound hk hinit hord hctor
    (Launch.admits_hotImplicitExceptions X.admits) hbeyond hfreeW htext hlimit hheap (X.cellsAbove hRcells) hslots (hfitv _) (hfitc _)
    (Nn := fun u => u) heapOnly_id (fun _ _ => rfl) (fun _ => rfl) (fun u x y => setCell_twice _ _ _ _) (fun _ => Nat.le_refl _) (cN := ((preparedCellV T.toThrowableT (freshCell P1.m.cls kX) (W.heap.size + 2) u0 sen).withEntry W.cur))
    hsel0 hcellS hknownS hvU tkS (fun _ hu => hu) (fun _ hu => hu) rfl rfl rfl (by simp [preparedCellV, Cell.setSlot, Cell.withEntry]) hskip (fun _ _ hA hW _ hroom _ hrest => L.nativeOff p htr hA hW hroom hrest) hselF hvSen tkC tkP tkM Y.objLocals rfl hfr' hwd'
  rw [plainBareV_eq T.toThrowableT (W.heap.size + 2) u0 sen (.ref (W.heap.size + 1)) W.cur rfl rfl] at st
  obtain ⟨-, -, w3, w4, -, -, -⟩ := withThrown_facts e.platform W Zs text P1.m.cls kX
  have X3 := ((X.pushed (bytesOf Zs.cB (stringToUtf16 text))).pushed (stringAt Zs.cS Zs.kS Zs.fv Zs.fc (stringToUtf16 text) W.heap.size)).pushed (freshCell P1.m.cls kX)
  rw [← withString_eq] at X3
  have X4 := X3.noted hW'
  have ha : (W.heap.size + 2) < ((withThrown W Zs text P1.m.cls kX).setVm vm').heap.size := by show _ < (withThrown W Zs text P1.m.cls kX).heap.size; rw [w3]; omega
  have hcell : ((withThrown W Zs text P1.m.cls kX).setVm vm').heap[(W.heap.size + 2)]? = some (freshCell P1.m.cls kX) := w4
  have X5 := ((((X4.stored hcell T.fCause.slot (.ref (W.heap.size + 2))).storedAgain ha T.fStack.slot u0.v).storedAgain ha T.fSupp.slot sen.v).storedAgain ha T.fStack.slot u0.v).storedAgain ha T.fMsg.slot (.ref (W.heap.size + 1))
  obtain ⟨g₁, hfrM⟩ := X5.frames_eq
  have hU : ((((withThrown W Zs text P1.m.cls kX).setVm vm').setCell (W.heap.size + 2) (plainBareV T.toThrowableT (freshCell P1.m.cls kX) (W.heap.size + 2) u0 sen (.ref (W.heap.size + 1)))).setTop g).pushFrame (.throwing (W.heap.size + 2)) = (((withThrown W Zs text P1.m.cls kX).setVm vm').setCell (W.heap.size + 2) (plainBareV T.toThrowableT (freshCell P1.m.cls kX) (W.heap.size + 2) u0 sen (.ref (W.heap.size + 1)))).setFrames (.throwing (W.heap.size + 2) :: .java g :: below) := by
    rw [State.pushFrame, State.frames_setTop _ hfrM, State.setTop_of_frames _ hfrM, State.setFrames_setFrames]
  have b1 : (bytesOf Zs.cB (stringToUtf16 text)).slots.size = (stringBytes (stringToUtf16 text)).size := by
    rw [(Cell.writeAll_facts _ _).2.2]; simp [bytes0]
  have b2 : (stringAt Zs.cS Zs.kS Zs.fv Zs.fc (stringToUtf16 text) W.heap.size).slots.size = 4 := by simp [string0, Cell.setSlot, hn4]
  have b3 : (freshCell P1.m.cls kX).slots.size = 6 := by simp [hn6]
  rw [b1, b2, b3] at X5
  have e9 : slots + (stringBytes (stringToUtf16 text)).size + 4 + 6 = slots + ((stringBytes (stringToUtf16 text)).size + 4 + 6) := by omega
  rw [e9] at X5
  simp only [List.append_assoc, List.cons_append, List.nil_append] at X5
  refine ⟨((withThrown W Zs text P1.m.cls kX).setVm vm').setCell (W.heap.size + 2) (plainBareV T.toThrowableT (freshCell P1.m.cls kX) (W.heap.size + 2) u0 sen (.ref (W.heap.size + 1))), W.heap.size + 2, _, fun target ht => st _ (by rw [X.tail, ← hU]; exact ht),
    X5.forget (fun y hy => ?_), heapAt_setCell_self _ ha, hfound, rfl⟩
  simp only [List.mem_cons, List.not_mem_nil, or_false] at hy
  have hge : s.heap.size ≤ W.heap.size := X.same.2.1
  rcases hy with rfl | rfl | rfl | rfl | rfl <;> exact Nat.le_trans hge (Nat.le_add_right _ 2)
set_option maxHeartbeats 1000000 in
/-- the machine throws NullPointerException, no traces kept: from its note over the frame g to 'throwing' over the same frame (follows the proof of Stand.vmThrowsNpe, Shelf42/KT2.lean; throwsNpeColdBareVAt, Shelf42/NT91.lean, called) -/
theorem vx_npeAt {p : Program} {l : Launch} {e : Env} {R : Room} {s : State} {m₀ : MethodId} {args : Array Value} {below : List Frame} {meth : Method} {c : Code} {W : State} {locs : List Loc} {cells slots : Nat}
    (X : Stand p l e R s m₀ args below meth c W locs cells slots) (hexec : p.tables.exec = Jvm.exec) (htr : e.platform.stackTraces = false) {n : Nat}
    (h : ∀ a ∈ Bundle.npeArmAtoms n, a.before args s = true)
    (hlocs : ∀ x ∈ locs, ∀ cell, s.heap[x.base]? = some cell → cell.vm.isStatics = false)
    {g : JFrame} (hg : g.method = m₀) (hsize : g.locals.size = c.maxLocals)
    (hRframes : 7 < R.frames) (hRlocals : 2 * g.monitorRoom + (g.stack.map fun v => v.category).sum + 10240 ≤ R.locals)
    (hRcells : cells + 1 ≤ R.cells) (hRslots : slots + n ≤ R.slots) (hlocks : meth.locks = false) :
    ∃ (S : State) (q : Addr) (ce : Cell), (∀ target, Steps p.tables e below ((S.setTop g).pushFrame (.throwing q)) target → Steps p.tables e below ((W.setTop g).pushFrame (.throwNew "java/lang/NullPointerException" none none)) target) ∧
      Stand p l e R s m₀ args below meth c S locs (cells + 1) (slots + n) ∧ S.heap[q]? = some ce ∧ s.vm.findClass "java/lang/NullPointerException" = some ce.cls ∧ ce.vm = .none := by
  have howns : e.platform.frameOwnsMonitors = true := by rw [X.admits.platform]
  have hfin : e.platform.finalization = false := by rw [X.admits.platform]
  have hpl : e.platform.magicAccessors = ({} : Platform).magicAccessors := by rw [X.admits.platform]
  have hpl2 : e.platform.arrayCloneIsPublic = true := by rw [X.admits.platform]
  have a' : ∀ x, x ∈ Bundle.npeArmAtoms n → x.holds args s none s [] = true := fun x hx => h x hx
  obtain ⟨T, Z, L, LZ, Y⟩ := ThrowableC.of_atoms (args := args) howns hfin hpl (fun x hx => h x (by simp [Bundle.npeArmAtoms, hx]))
  obtain ⟨N, LN, hcN, hnNF, hordN, hffS⟩ := NpeC.of_atoms (args := args) hpl hpl2 L Y (fun x hx => h x (by simp [Bundle.npeArmAtoms, hx]))
  obtain ⟨P1, L1, hP1m, hP1s⟩ := PassC.of_atoms (args := args) (s := s) hpl (X := Bundle.nN) (Y := Bundle.rN) (by decide) (by decide) LibCode.NullPointerException.Init0.at_0 LibCode.NullPointerException.Init0.at_1 LibCode.NullPointerException.Init0.at_4 (fun x hx => h x (by simp [Bundle.npeArmAtoms, hx]))
  obtain ⟨PR, LR, hPRm, hPRs⟩ := PassC.of_atoms (args := args) (s := s) hpl (X := Bundle.rN) (Y := Bundle.eN) (by decide) (by decide) LibCode.RuntimeException.Init0.at_0 LibCode.RuntimeException.Init0.at_1 LibCode.RuntimeException.Init0.at_4 (fun x hx => h x (by simp [Bundle.npeArmAtoms, hx]))
  obtain ⟨PE, LEx, hPEm, hPEs⟩ := PassC.of_atoms (args := args) (s := s) hpl (X := Bundle.eN) (Y := Bundle.tN) (by decide) (by decide) LibCode.Exception.Init0.at_0 LibCode.Exception.Init0.at_1 LibCode.Exception.Init0.at_4 (fun x hx => h x (by simp [Bundle.npeArmAtoms, hx]))
  have hfound : s.vm.findClass Bundle.nN = some P1.m.cls := findClass_of_methodNamed hP1m
  have ecls : N.cN = P1.m.cls := Option.some.inj (hcN.symm.trans hfound)
  have hk : s.vm.classes[P1.m.cls]? = some N.kN := by rw [← ecls]; exact LN.cls
  have hinit := Cond.initialized_spec hfound hk (a' (.initialized Bundle.nN) (by simp [Bundle.npeArmAtoms]))
  have hctor : N.kN.findMethod "<init>" "()V" = some P1.m.idx := findMethod_of_methodNamed hP1m hk
  obtain ⟨c1, k1, hc1, hk1, -, -, -, hn⟩ := Cond.instantiable_spec (a' (.instantiable Bundle.nN n) (by simp [Bundle.npeArmAtoms]))
  cases Option.some.inj (hc1.symm.trans hfound)
  cases Option.some.inj (hk1.symm.trans hk)
  have hfsz : (freshCell P1.m.cls N.kN).slots.size = n := by simp [hn]
  have hlink1 : P1.sup = PR.m := Option.some.inj (hP1s.symm.trans hPRm)
  have hlinkR : PR.sup = PE.m := Option.some.inj (hPRs.symm.trans hPEm)
  have hlinkE : PE.sup = Z.m T.toThrowableT := Option.some.inj (hPEs.symm.trans Y.init0)
  have hLs : ∀ P, P ∈ [PR, PE] → P.Links0 e.platform s := fun P hP => by
    simp only [List.mem_cons, List.not_mem_nil, or_false] at hP
    rcases hP with rfl | rfl
    · exact LR
    · exact LEx
  have hsel0 : selectMethod e.platform s.vm P1.m.cls T.fill0 = .method T.fill0 := by
    obtain ⟨c2, r2, m2, q1, q2, q3, q4, -⟩ := Cond.selects_spec (a' (.selects Bundle.nN Bundle.tFill0 Bundle.tFill0) (by simp [Bundle.npeArmAtoms]))
    cases Option.some.inj (q1.symm.trans hfound)
    cases Option.some.inj (q2.symm.trans (State.methodFound?_of_named Y.fill0 (by decide)))
    cases Option.some.inj (q3.symm.trans Y.fill0)
    rw [Launch.admits_selectMethod X.admits]; exact q4
  have hselF : selectMethod e.platform s.vm P1.m.cls T.fill = .method N.fill := by
    obtain ⟨c2, r2, m2, q1, q2, q3, q4, -⟩ := Cond.selects_spec (a' (.selects Bundle.nN Bundle.tFill Bundle.nFill) (by simp [Bundle.npeArmAtoms]))
    cases Option.some.inj (q1.symm.trans hfound)
    cases Option.some.inj (q2.symm.trans (State.methodFound?_of_named Y.fill (by decide)))
    cases Option.some.inj (q3.symm.trans hnNF)
    rw [Launch.admits_selectMethod X.admits]; exact q4
  obtain ⟨cellS0, hcS0, hiss⟩ := Y.statics
  obtain ⟨u0, hu0⟩ := Cond.staticRefV Y.unassigned L.unassignedStatic L.statics hcS0 hiss (a' (.isRef (.static Bundle.tN "UNASSIGNED_STACK" Bundle.steD)) (by simp [Bundle.npeArmAtoms]))
  obtain ⟨sen, hsen⟩ := Cond.staticRefV Y.sentinel L.sentinelStatic L.statics hcS0 hiss (a' (.isRef (.static Bundle.tN "SUPPRESSED_SENTINEL" Bundle.listD)) (by simp [Bundle.npeArmAtoms]))
  obtain ⟨ci198, i198, fB, hk198, hg198, ha198, hsB, -, hnB, htB, hffB⟩ := Cond.ownField (t := .object "java/lang/Object") Y.found L.cls (by decide +kernel) (a' (.fieldLink Bundle.tN 198 Bundle.tN "backtrace" Bundle.objD) (by simp [Bundle.npeArmAtoms])) (a' (.lays Bundle.tN Bundle.tN "backtrace" Bundle.objD) (by simp [Bundle.npeArmAtoms])) e.platform hpl
  obtain ⟨cellS, hcS', heS, -, hkeep⟩ := X.same.2.2.2.2.2 T.aS cellS0 hcS0
  have hcellS : W.heap[T.aS]? = some cellS := hcS'
  have hout' : ∀ i, (⟨T.aS, i⟩ : Loc) ∉ locs := fun i hmem => by
    have := hlocs _ hmem cellS0 hcS0
    rw [hiss] at this; cases this
  have hknownS : cellS.vm ≠ .unknown := by
    rw [heS]; intro hu
    rw [show cellS0.vm = .unknown from hu] at hiss
    cases hiss
  have hvU : cellS.slots[T.fUnassigned.slot]? = some u0.v := by rw [hkeep _ (hout' _)]; exact hu0
  have hvSen : cellS.slots[T.fSentinel.slot]? = some sen.v := by rw [hkeep _ (hout' _)]; exact hsen
  obtain ⟨tyC, dC, hdC, hdnC⟩ := Cond.laysAt hfound hk Y.cause (a' (.lays Bundle.nN Bundle.tN "cause" "Ljava/lang/Throwable;") (by simp [Bundle.npeArmAtoms]))
  obtain ⟨tyS, dS, hdS, hdnS⟩ := Cond.laysAt hfound hk Y.stack (a' (.lays Bundle.nN Bundle.tN "stackTrace" Bundle.steD) (by simp [Bundle.npeArmAtoms]))
  obtain ⟨tyP, dP, hdP, hdnP⟩ := Cond.laysAt hfound hk Y.supp (a' (.lays Bundle.nN Bundle.tN "suppressedExceptions" Bundle.listD) (by simp [Bundle.npeArmAtoms]))
  obtain ⟨tyX, dX, hdX, hdnX⟩ := Cond.laysAt hfound hk hffS (a' (.lays Bundle.nN Bundle.nN "extendedMessageState" "I") (by simp [Bundle.npeArmAtoms, Bundle.npeAtoms]))
  obtain ⟨hnX, htX⟩ := State.fieldFound?_type hffS (t := .int) (by decide +kernel)
  have xC := Cond.laysApart hdC hdX hdnC hdnX (by rw [hnX, Y.causeName]; decide)
  have xS := Cond.laysApart hdS hdX hdnS hdnX (by rw [hnX, Y.stackName]; decide)
  have xP := Cond.laysApart hdP hdX hdnP hdnX (by rw [hnX, Y.suppName]; decide)
  have hv0 : (freshCell P1.m.cls N.kN).slots[N.fState.slot]? = some (.int 0) := by
    have := fresh_default (c := P1.m.cls) tyX
    rw [htX] at this; exact this
  obtain ⟨tyB, dB, hdB, hdnB⟩ := Cond.laysAt hfound hk hffB (a' (.lays Bundle.nN Bundle.tN "backtrace" Bundle.objD) (by simp [Bundle.npeArmAtoms]))
  have bC := Cond.laysApart hdB hdC hdnB hdnC (by rw [hnB, Y.causeName]; decide)
  have bS := Cond.laysApart hdB hdS hdnB hdnS (by rw [hnB, Y.stackName]; decide)
  have bP := Cond.laysApart hdB hdP hdnB hdnP (by rw [hnB, Y.suppName]; decide)
  have bX := Cond.laysApart hdB hdX hdnB hdnX (by rw [hnB, hnX]; decide)
  have hbk : ((npeCell N.toNpeT (preparedCellV T.toThrowableT (freshCell P1.m.cls N.kN) W.heap.size u0 sen) W.cur).withEntry W.cur).slots[fB.slot]? = some .null := by
    have := fresh_default (c := P1.m.cls) tyB
    rw [htB] at this
    simpa [npeCell, preparedCellV, Cell.setSlot, Cell.withEntry, Array.getElem?_setIfInBounds, bC, bS, bP, bX, bC.symm, bS.symm, bP.symm, bX.symm, defaultValue] using this
  have tkC := Takes.of_laid (v := .ref W.heap.size) hk hordN tyC (by rw [Y.causeType]; rfl)
  have tkS := Takes.of_laid (v := u0.v) hk hordN tyS (by rw [Y.stackType]; exact fits_refV_array _ u0)
  have tkP := Takes.of_laid (v := sen.v) hk hordN tyP (by rw [Y.suppType]; exact fits_refV_object _ sen)
  have tkX := Takes.of_laid (v := .int 1) hk hordN tyX (by rw [htX]; rfl)
  have hskip : SkipFacts T e.platform s (fun u => u) u0 ((npeCell N.toNpeT (preparedCellV T.toThrowableT (freshCell P1.m.cls N.kN) W.heap.size u0 sen) W.cur).withEntry W.cur) := ⟨{ ci198 := ci198, i198 := i198, fBack := fB }, ⟨hk198, hg198, ha198, hsB⟩, hbk, fun _ _ => rfl⟩
  obtain ⟨vm', X3, st, -⟩ := X.throwsNpeColdBareVAt hexec hg hsize T L Z LZ N LN P1 L1 [PR, PE] hLs hlink1 ⟨hlinkR, hlinkE, trivial⟩ hfound hk hinit hordN hctor hsel0 hselF hcellS hknownS hvU hvSen
    hv0 xC xS xP tkC tkS tkP tkX Y.objLocals hskip (fun _ _ hA hW _ hroom _ hrest => L.nativeOff p htr hA hW hroom hrest) (by simpa using hRframes) hRlocals (by simp) hRcells (by rw [hn]; exact hRslots)
  have hlt : W.heap.size < ((W.pushCell (freshCell P1.m.cls N.kN)).setVm vm').heap.size := by
    show W.heap.size < (W.pushCell (freshCell P1.m.cls N.kN)).heap.size
    rw [State.heap_size_pushCell]; omega
  rw [hfsz] at X3
  obtain ⟨g₁, hfrM⟩ := X3.frames_eq
  have hU : ((((W.pushCell (freshCell P1.m.cls N.kN)).setVm vm').setCell W.heap.size (npeBareV T.toThrowableT N.toNpeT (freshCell P1.m.cls N.kN) W.heap.size u0 sen)).setTop g).pushFrame (.throwing W.heap.size) = (((W.pushCell (freshCell P1.m.cls N.kN)).setVm vm').setCell W.heap.size (npeBareV T.toThrowableT N.toNpeT (freshCell P1.m.cls N.kN) W.heap.size u0 sen)).setFrames (.throwing W.heap.size :: .java g :: below) := by
    rw [State.pushFrame, State.frames_setTop _ hfrM, State.setTop_of_frames _ hfrM, State.setFrames_setFrames]
  refine ⟨_, W.heap.size, _, fun target ht => st.trans (by rw [← hU]; exact ht), X3.forget (fun y hy => ?_), heapAt_setCell_self _ hlt, hfound, rfl⟩
  simp only [List.mem_cons, List.not_mem_nil, or_false] at hy
  have hge : s.heap.size ≤ W.heap.size := X.same.2.1
  rcases hy with rfl | rfl | rfl | rfl | rfl <;> exact hge
/-- the words of a machine's NullPointerException, but the four that speak of the heap -/
def vx_atN (n : Nat) : List Cond := (Bundle.npeArmAtoms n).filter vx_no
/-- the words of a machine's throw with a message, but the four that speak of the heap -/
def vx_atM (X : String) (names : List String) : List Cond := (Bundle.messageArmAtoms X names).filter vx_no
section
variable {p : Program} {l : Launch} {e : Env} {R : Room} {s : State} {m : MethodId} {args : Array Value} {below : List Frame} {meth : Method} {c : Code} {H : Heap} {locs : List Loc} {cells slots : Nat}
/-- a frame seen from a rebased start, seen from the first start again -/
theorem vx_back9 {T S : State} {R' : Room} {k n : Nat} (X : Stand p l e R s m args below meth c T locs cells slots) (Y : Stand p l e R' ((T.setVm s.vm).setFrames (.invoking m args :: below)) m args below meth c T [] 0 0) (Z : Stand p l e R' ((T.setVm s.vm).setFrames (.invoking m args :: below)) m args below meth c S [] k n) :
    Stand p l e R s m args below meth c S locs (cells + k) (slots + n) := by
  have hW0 : s.WarmedH ((T.setVm s.vm).setFrames (.invoking m args :: below)).vm := State.WarmedH.refl s
  refine { admits := X.admits, cas := X.cas, clock := X.clock, frames := X.frames, room := X.room, hears := X.hears, method := X.method, code := X.code, here := Z.here, tail := Z.tail, warmed := State.WarmedH.trans hW0 Z.warmed, limits := Z.limits.trans (Y.limits.symm.trans X.limits), bytes := Z.bytes.trans (Y.bytes.symm.trans X.bytes), same := ?_ }
  obtain ⟨e1, e2⟩ := Z.same
  rw [State.setFrames_setFrames] at e1
  have h2 : (T.setVm s.vm).sameButNew (S.setVm s.vm) [] k n := ⟨e1, e2⟩
  have h3 := X.same.trans h2
  rw [List.append_nil] at h3
  exact h3
/-- from the machine's note that E is thrown here with this text -/
def vx_Note (p : Program) (l : Launch) (e : Env) (R : Room) (s : State) (m : MethodId) (args : Array Value) (below : List Frame) (meth : Method) (c : Code) (H : Heap) (locs : List Loc) (cells slots : Nat) (Q : State → Prop) (g : JFrame) (E text : String) : Prop :=
  ∀ T : State, T.heap = H → Stand p l e R s m args below meth c T locs cells slots → ∃ t, Steps p.tables e below ((T.setTop g).pushFrame (.throwNew E (some text) none)) t ∧ Q t
theorem vx_vm {pc : Nat} {ls : Array Slot} {rest : List Value} {Q : State → Prop} (hexec : p.tables.exec = Jvm.exec) (hl : l.stackTraces = false) {cls text : String} {names : List String} {nb : Nat} {A : Nat → Prop}
    (hcls : Bundle.fit cls = true) (hnames : ∀ n ∈ names, Bundle.fit n = true) (hsoe : (cls == "java/lang/StackOverflowError") = false) (hoom : (cls == "java/lang/OutOfMemoryError") = false)
    (hat : ∀ w ∈ vx_atM cls names, w.before args s = true) (hgood : ∀ w ∈ vx_atM cls names, vx_ot w = true)
    (hU : vx_Zq Bundle.tN "UNASSIGNED_STACK" Bundle.steD A s s.heap) (hN : vx_Zq Bundle.tN "SUPPRESSED_SENTINEL" Bundle.listD A s s.heap) (hS : va_S A s.heap H locs) (hsize : ls.size = c.maxLocals)
    (htext : (text == notModelled) = false) (hnb : (stringBytes (stringToUtf16 text)).size ≤ nb) (hnb1 : nb ≤ 1000)
    (hRframes : names.length + 4 < R.frames) (hRlocals : (rest.map fun v => v.category).sum + 10240 ≤ R.locals) (hshort : 13 * names.length + 55 ≤ 10240) (hRcells : cells + 3 ≤ R.cells) (hRslots : slots + (nb + 10) ≤ R.slots) (hlocks : meth.locks = false)
    (k : ∀ (H1 : Heap) (q9 : Addr) (ce : Cell), H.size ≤ H1.size → (∀ q : Nat, q < H.size → H1[q]? = H[q]?) → va_S A s.heap H1 locs → H1[q9]? = some ce → ce.vm = .none → s.vm.findClass cls = some ce.cls → vx_W p l e R s m args below meth c H1 locs (cells + 3) (slots + (nb + 10)) Q (F0 m pc ls rest) q9) :
    vx_Note p l e R s m args below meth c H locs cells slots Q (F0 m pc ls rest) cls text := by
  intro T hT X
  have htr : e.platform.stackTraces = false := (show e.platform.stackTraces = l.stackTraces by rw [X.admits.platform]).trans hl
  have Y := vx_rebase X (R' := { frames := R.frames, locals := R.locals, cells := 3, slots := nb + 10 }) (Nat.le_refl _) (Nat.le_refl _) hRcells hRslots
  have hhp : ((T.setVm s.vm).setFrames (.invoking m args :: below)).heap = H := hT
  have hW0 : s.WarmedH ((T.setVm s.vm).setFrames (.invoking m args :: below)).vm := State.WarmedH.refl s
  have hat' : ∀ w ∈ vx_atM cls names, w.before args ((T.setVm s.vm).setFrames (.invoking m args :: below)) = true := fun w hw => vx_ot_at hW0 rfl (hgood w hw) (hat w hw)
  have hU' : vx_Zq Bundle.tN "UNASSIGNED_STACK" Bundle.steD A ((T.setVm s.vm).setFrames (.invoking m args :: below)) ((T.setVm s.vm).setFrames (.invoking m args :: below)).heap := by rw [hhp]; exact vx_Zq.moved hW0.alike (hU.kept hS.2.1)
  have hN' : vx_Zq Bundle.tN "SUPPRESSED_SENTINEL" Bundle.listD A ((T.setVm s.vm).setFrames (.invoking m args :: below)) ((T.setVm s.vm).setFrames (.invoking m args :: below)).heap := by rw [hhp]; exact vx_Zq.moved hW0.alike (hN.kept hS.2.1)
  obtain ⟨S, q, ce, st, Z, hce, hcl', hv⟩ := vx_vmAt Y hexec htr (cls := cls) (names := names) (text := text) hcls hnames hsoe hoom (vx_own hat' (vx_isRefq hU'.1) (vx_isRefq hN'.1) hU'.2.word hN'.2.word) (fun x hx => nomatch hx) htext
    (by rw [Launch.admits_arrayLengthLimit X.admits]; omega) (by rw [Launch.admits_maxHeapBytes X.admits]; simp only [componentBytes]; omega)
    (g := F0 m pc ls rest) rfl hsize hRframes (by show 2 * 0 + (rest.map fun v => v.category).sum + 10240 ≤ R.locals; omega) hshort (by show 0 + 3 ≤ 3; omega) (by show 0 + (_ + 4 + 6) ≤ nb + 10; omega) hlocks
  obtain ⟨f1, f2⟩ := vx_frame Z.same
  have f1' : H.size ≤ S.heap.size := by rw [← hT]; exact f1
  have f2' : ∀ q : Nat, q < H.size → S.heap[q]? = H[q]? := fun q hq => by
    rw [← hT]
    exact f2 q (by rw [← hT] at hq; exact hq) (fun z hz => nomatch hz)
  have X5 := vx_back9 X Y Z
  have X6 : Stand p l e R s m args below meth c S locs (cells + 3) (slots + (nb + 10)) := { X5 with same := X5.same.mono (by omega) (by omega) }
  obtain ⟨t, a1, b1⟩ := k S.heap q ce f1' f2' ⟨Nat.le_trans hS.1 f1', fun q h1 h2 => (f2' q (Nat.lt_of_lt_of_le h1 hS.1)).trans (hS.2.1 q h1 h2), hS.2.2⟩ hce hv hcl' S rfl X6
  exact ⟨t, st t a1, b1⟩
/-- from the machine's note that NullPointerException is thrown here -/
def vx_NoteN (p : Program) (l : Launch) (e : Env) (R : Room) (s : State) (m : MethodId) (args : Array Value) (below : List Frame) (meth : Method) (c : Code) (H : Heap) (locs : List Loc) (cells slots : Nat) (Q : State → Prop) (g : JFrame) : Prop :=
  ∀ T : State, T.heap = H → Stand p l e R s m args below meth c T locs cells slots → ∃ t, Steps p.tables e below ((T.setTop g).pushFrame (.throwNew "java/lang/NullPointerException" none none)) t ∧ Q t
theorem vx_npe {pc : Nat} {ls : Array Slot} {rest : List Value} {Q : State → Prop} (hexec : p.tables.exec = Jvm.exec) (hl : l.stackTraces = false) {nb : Nat} {A : Nat → Prop}
    (hat : ∀ w ∈ vx_atN nb, w.before args s = true) (hgood : ∀ w ∈ vx_atN nb, vx_ot w = true)
    (hU : vx_Zq Bundle.tN "UNASSIGNED_STACK" Bundle.steD A s s.heap) (hN : vx_Zq Bundle.tN "SUPPRESSED_SENTINEL" Bundle.listD A s s.heap) (hS : va_S A s.heap H locs) (hsize : ls.size = c.maxLocals)
    (hRframes : 7 < R.frames) (hRlocals : (rest.map fun v => v.category).sum + 10240 ≤ R.locals) (hRcells : cells + 1 ≤ R.cells) (hRslots : slots + nb ≤ R.slots) (hlocks : meth.locks = false)
    (k : ∀ (H1 : Heap) (q9 : Addr) (ce : Cell), H.size ≤ H1.size → (∀ q : Nat, q < H.size → H1[q]? = H[q]?) → va_S A s.heap H1 locs → H1[q9]? = some ce → ce.vm = .none → s.vm.findClass "java/lang/NullPointerException" = some ce.cls → vx_W p l e R s m args below meth c H1 locs (cells + 1) (slots + nb) Q (F0 m pc ls rest) q9) :
    vx_NoteN p l e R s m args below meth c H locs cells slots Q (F0 m pc ls rest) := by
  intro T hT X
  have htr : e.platform.stackTraces = false := (show e.platform.stackTraces = l.stackTraces by rw [X.admits.platform]).trans hl
  have Y := vx_rebase X (R' := { frames := R.frames, locals := R.locals, cells := 1, slots := nb }) (Nat.le_refl _) (Nat.le_refl _) hRcells hRslots
  have hhp : ((T.setVm s.vm).setFrames (.invoking m args :: below)).heap = H := hT
  have hW0 : s.WarmedH ((T.setVm s.vm).setFrames (.invoking m args :: below)).vm := State.WarmedH.refl s
  have hat' : ∀ w ∈ vx_atN nb, w.before args ((T.setVm s.vm).setFrames (.invoking m args :: below)) = true := fun w hw => vx_ot_at hW0 rfl (hgood w hw) (hat w hw)
  have hU' : vx_Zq Bundle.tN "UNASSIGNED_STACK" Bundle.steD A ((T.setVm s.vm).setFrames (.invoking m args :: below)) ((T.setVm s.vm).setFrames (.invoking m args :: below)).heap := by rw [hhp]; exact vx_Zq.moved hW0.alike (hU.kept hS.2.1)
  have hN' : vx_Zq Bundle.tN "SUPPRESSED_SENTINEL" Bundle.listD A ((T.setVm s.vm).setFrames (.invoking m args :: below)) ((T.setVm s.vm).setFrames (.invoking m args :: below)).heap := by rw [hhp]; exact vx_Zq.moved hW0.alike (hN.kept hS.2.1)
  obtain ⟨S, q, ce, st, Z, hce, hcl', hv⟩ := vx_npeAt Y hexec htr (n := nb) (vx_own hat' (vx_isRefq hU'.1) (vx_isRefq hN'.1) hU'.2.word hN'.2.word) (fun x hx => nomatch hx)
    (g := F0 m pc ls rest) rfl hsize hRframes (by show 2 * 0 + (rest.map fun v => v.category).sum + 10240 ≤ R.locals; omega) (by show 0 + 1 ≤ 1; omega) (by show 0 + nb ≤ nb; omega) hlocks
  obtain ⟨f1, f2⟩ := vx_frame Z.same
  have f1' : H.size ≤ S.heap.size := by rw [← hT]; exact f1
  have f2' : ∀ q : Nat, q < H.size → S.heap[q]? = H[q]? := fun q hq => by
    rw [← hT]
    exact f2 q (by rw [← hT] at hq; exact hq) (fun z hz => nomatch hz)
  have X5 := vx_back9 X Y Z
  have X6 : Stand p l e R s m args below meth c S locs (cells + 1) (slots + nb) := { X5 with same := X5.same.mono (by omega) (by omega) }
  obtain ⟨t, a1, b1⟩ := k S.heap q ce f1' f2' ⟨Nat.le_trans hS.1 f1', fun q h1 h2 => (f2' q (Nat.lt_of_lt_of_le h1 hS.1)).trans (hS.2.1 q h1 h2), hS.2.2⟩ hce hv hcl' S rfl X6
  exact ⟨t, st t a1, b1⟩
variable {Q : State → Prop} {cc : ByteArray} {pc : Nat} {ls : Array Slot} {rest : List Value}
theorem vx_idivZ (hexec : p.tables.exec = Jvm.exec) (hb : c.code = cc) {a b : Int32} (h0 : b = 0) (d : decode cc pc = .ok (.idiv, 1)) (k : vx_Note p l e R s m args below meth c H locs cells slots Q (F0 m pc ls rest) "java/lang/ArithmeticException" "/ by zero") :
    W p l e R s m args below meth c H locs cells slots Q (F0 m pc ls (.int b :: .int a :: rest)) := by
  intro T hT X
  obtain ⟨t, st, q⟩ := k T hT X
  exact ⟨t, X.idivZero hexec (g := F0 m pc ls (.int b :: .int a :: rest)) rfl (a := a) (rest := rest) (by rw [h0]) (by rw [hb]; exact d) t st, q⟩
theorem vx_iremZ (hexec : p.tables.exec = Jvm.exec) (hb : c.code = cc) {a b : Int32} (h0 : b = 0) (d : decode cc pc = .ok (.irem, 1)) (k : vx_Note p l e R s m args below meth c H locs cells slots Q (F0 m pc ls rest) "java/lang/ArithmeticException" "/ by zero") :
    W p l e R s m args below meth c H locs cells slots Q (F0 m pc ls (.int b :: .int a :: rest)) := by
  intro T hT X
  obtain ⟨t, st, q⟩ := k T hT X
  exact ⟨t, X.iremZero hexec (g := F0 m pc ls (.int b :: .int a :: rest)) rfl (a := a) (rest := rest) (by rw [h0]) (by rw [hb]; exact d) t st, q⟩
theorem vx_ldivZ (hexec : p.tables.exec = Jvm.exec) (hb : c.code = cc) {a b : Int64} (h0 : b = 0) (d : decode cc pc = .ok (.ldiv, 1)) (k : vx_Note p l e R s m args below meth c H locs cells slots Q (F0 m pc ls rest) "java/lang/ArithmeticException" "/ by zero") :
    W p l e R s m args below meth c H locs cells slots Q (F0 m pc ls (.long b :: .long a :: rest)) := by
  intro T hT X
  obtain ⟨t, st, q⟩ := k T hT X
  exact ⟨t, X.ldivZero hexec (g := F0 m pc ls (.long b :: .long a :: rest)) rfl (a := a) (rest := rest) (by rw [h0]) (by rw [hb]; exact d) t st, q⟩
theorem vx_lremZ (hexec : p.tables.exec = Jvm.exec) (hb : c.code = cc) {a b : Int64} (h0 : b = 0) (d : decode cc pc = .ok (.lrem, 1)) (k : vx_Note p l e R s m args below meth c H locs cells slots Q (F0 m pc ls rest) "java/lang/ArithmeticException" "/ by zero") :
    W p l e R s m args below meth c H locs cells slots Q (F0 m pc ls (.long b :: .long a :: rest)) := by
  intro T hT X
  obtain ⟨t, st, q⟩ := k T hT X
  exact ⟨t, X.lremZero hexec (g := F0 m pc ls (.long b :: .long a :: rest)) rfl (a := a) (rest := rest) (by rw [h0]) (by rw [hb]; exact d) t st, q⟩
theorem vx_ialdZ {D : va_G} {cl : List vw_C} {ws : va_W} {tys : List (ClassId × FieldType)} {a : Nat} (hexec : p.tables.exec = Jvm.exec) (hb : c.code = cc) (hK : va_K D cl tys s) (hP : va_P D cl ws H) (q0 t0 : Nat) {cA : ClassId} {n : Nat} {f : Nat → Int32} (ha : ws[q0]? = some (a, .inl (cA, n, .inl f))) (ht : tys[t0]? = some (cA, .int)) {i : Int32} (hout : ¬ vp_in i n) (hdg : decode cc pc = .ok (.iaload, 1))
    (k : ∀ tx : String, tx = (toString "Index " ++ toString i ++ toString " out of bounds for length " ++ toString n : String) → vx_Note p l e R s m args below meth c H locs cells slots Q (F0 m pc ls rest) "java/lang/ArrayIndexOutOfBoundsException" tx) : W p l e R s m args below meth c H locs cells slots Q (F0 m pc ls (.int i :: .ref a :: rest)) := by
  intro T hT X
  obtain ⟨t, st, q⟩ := k _ rfl T hT X
  refine ⟨t, ?_, q⟩
  have h1 := X.ialoadOut hexec (by rw [hT]; exact hP q0 _ ha) ((hK.2 t0 _ ht).1 n (fun j => .int (f j))) (j := i) (by show (i < 0 ∨ (arrV _ _ _).slots.size ≤ _); rw [arrV_size]; exact Classical.byContradiction hout) (g := F0 m pc ls (.int i :: .ref a :: rest)) rfl (rest := rest) rfl (by rw [hb]; exact hdg) t
  simp only [arrV_size] at h1
  exact h1 st
theorem vx_iastZ {D : va_G} {cl : List vw_C} {ws : va_W} {tys : List (ClassId × FieldType)} {a : Nat} (hexec : p.tables.exec = Jvm.exec) (hb : c.code = cc) (hK : va_K D cl tys s) (hP : va_P D cl ws H) (q0 t0 : Nat) {cA : ClassId} {n : Nat} {f : Nat → Int32} (ha : ws[q0]? = some (a, .inl (cA, n, .inl f))) (ht : tys[t0]? = some (cA, .int)) {i : Int32} {x : Int32} (hout : ¬ vp_in i n) (hdg : decode cc pc = .ok (.iastore, 1))
    (k : ∀ tx : String, tx = (toString "Index " ++ toString i ++ toString " out of bounds for length " ++ toString n : String) → vx_Note p l e R s m args below meth c H locs cells slots Q (F0 m pc ls rest) "java/lang/ArrayIndexOutOfBoundsException" tx) : W p l e R s m args below meth c H locs cells slots Q (F0 m pc ls (.int x :: .int i :: .ref a :: rest)) := by
  intro T hT X
  obtain ⟨t, st, q⟩ := k _ rfl T hT X
  refine ⟨t, ?_, q⟩
  have h1 := X.iastoreOut hexec (by rw [hT]; exact hP q0 _ ha) ((hK.2 t0 _ ht).1 n (fun j => .int (f j))) (j := i) (by show (i < 0 ∨ (arrV _ _ _).slots.size ≤ _); rw [arrV_size]; exact Classical.byContradiction hout) (g := F0 m pc ls (.int x :: .int i :: .ref a :: rest)) rfl (rest := rest) rfl (by rw [hb]; exact hdg) t
  simp only [arrV_size] at h1
  exact h1 st
theorem vx_baldZ {D : va_G} {cl : List vw_C} {ws : va_W} {tys : List (ClassId × FieldType)} {a : Nat} (hexec : p.tables.exec = Jvm.exec) (hb : c.code = cc) (hK : va_K D cl tys s) (hP : va_P D cl ws H) (q0 t0 : Nat) {cA : ClassId} {n : Nat} {f : Nat → Int32} (ha : ws[q0]? = some (a, .inl (cA, n, .inl f))) (ht : tys[t0]? = some (cA, .byte)) {i : Int32} (hout : ¬ vp_in i n) (hdg : decode cc pc = .ok (.baload, 1))
    (k : ∀ tx : String, tx = (toString "Index " ++ toString i ++ toString " out of bounds for length " ++ toString n : String) → vx_Note p l e R s m args below meth c H locs cells slots Q (F0 m pc ls rest) "java/lang/ArrayIndexOutOfBoundsException" tx) : W p l e R s m args below meth c H locs cells slots Q (F0 m pc ls (.int i :: .ref a :: rest)) := by
  intro T hT X
  obtain ⟨t, st, q⟩ := k _ rfl T hT X
  refine ⟨t, ?_, q⟩
  have h1 := X.baloadOut hexec (by rw [hT]; exact hP q0 _ ha) ((hK.2 t0 _ ht).1 n (fun j => .int (f j))) (j := i) (by show (i < 0 ∨ (arrV _ _ _).slots.size ≤ _); rw [arrV_size]; exact Classical.byContradiction hout) (g := F0 m pc ls (.int i :: .ref a :: rest)) rfl (rest := rest) rfl (by rw [hb]; exact hdg) t
  simp only [arrV_size] at h1
  exact h1 st
theorem vx_bastZ {D : va_G} {cl : List vw_C} {ws : va_W} {tys : List (ClassId × FieldType)} {a : Nat} (hexec : p.tables.exec = Jvm.exec) (hb : c.code = cc) (hK : va_K D cl tys s) (hP : va_P D cl ws H) (q0 t0 : Nat) {cA : ClassId} {n : Nat} {f : Nat → Int32} (ha : ws[q0]? = some (a, .inl (cA, n, .inl f))) (ht : tys[t0]? = some (cA, .byte)) {i : Int32} {x : Int32} (hout : ¬ vp_in i n) (hdg : decode cc pc = .ok (.bastore, 1))
    (k : ∀ tx : String, tx = (toString "Index " ++ toString i ++ toString " out of bounds for length " ++ toString n : String) → vx_Note p l e R s m args below meth c H locs cells slots Q (F0 m pc ls rest) "java/lang/ArrayIndexOutOfBoundsException" tx) : W p l e R s m args below meth c H locs cells slots Q (F0 m pc ls (.int x :: .int i :: .ref a :: rest)) := by
  intro T hT X
  obtain ⟨t, st, q⟩ := k _ rfl T hT X
  refine ⟨t, ?_, q⟩
  have h1 := X.bastoreOut hexec (by rw [hT]; exact hP q0 _ ha) ((hK.2 t0 _ ht).1 n (fun j => .int (f j))) (j := i) (by show (i < 0 ∨ (arrV _ _ _).slots.size ≤ _); rw [arrV_size]; exact Classical.byContradiction hout) (g := F0 m pc ls (.int x :: .int i :: .ref a :: rest)) rfl (rest := rest) rfl (by rw [hb]; exact hdg) t
  simp only [arrV_size] at h1
  exact h1 st
theorem vx_zaldZ {D : va_G} {cl : List vw_C} {ws : va_W} {tys : List (ClassId × FieldType)} {a : Nat} (hexec : p.tables.exec = Jvm.exec) (hb : c.code = cc) (hK : va_K D cl tys s) (hP : va_P D cl ws H) (q0 t0 : Nat) {cA : ClassId} {n : Nat} {f : Nat → Int32} (ha : ws[q0]? = some (a, .inl (cA, n, .inl f))) (ht : tys[t0]? = some (cA, .boolean)) {i : Int32} (hout : ¬ vp_in i n) (hdg : decode cc pc = .ok (.baload, 1))
    (k : ∀ tx : String, tx = (toString "Index " ++ toString i ++ toString " out of bounds for length " ++ toString n : String) → vx_Note p l e R s m args below meth c H locs cells slots Q (F0 m pc ls rest) "java/lang/ArrayIndexOutOfBoundsException" tx) : W p l e R s m args below meth c H locs cells slots Q (F0 m pc ls (.int i :: .ref a :: rest)) := by
  intro T hT X
  obtain ⟨t, st, q⟩ := k _ rfl T hT X
  refine ⟨t, ?_, q⟩
  have h1 := X.baloadOut hexec (by rw [hT]; exact hP q0 _ ha) ((hK.2 t0 _ ht).1 n (fun j => .int (f j))) (j := i) (by show (i < 0 ∨ (arrV _ _ _).slots.size ≤ _); rw [arrV_size]; exact Classical.byContradiction hout) (g := F0 m pc ls (.int i :: .ref a :: rest)) rfl (rest := rest) rfl (by rw [hb]; exact hdg) t
  simp only [arrV_size] at h1
  exact h1 st
theorem vx_zastZ {D : va_G} {cl : List vw_C} {ws : va_W} {tys : List (ClassId × FieldType)} {a : Nat} (hexec : p.tables.exec = Jvm.exec) (hb : c.code = cc) (hK : va_K D cl tys s) (hP : va_P D cl ws H) (q0 t0 : Nat) {cA : ClassId} {n : Nat} {f : Nat → Int32} (ha : ws[q0]? = some (a, .inl (cA, n, .inl f))) (ht : tys[t0]? = some (cA, .boolean)) {i : Int32} {x : Int32} (hout : ¬ vp_in i n) (hdg : decode cc pc = .ok (.bastore, 1))
    (k : ∀ tx : String, tx = (toString "Index " ++ toString i ++ toString " out of bounds for length " ++ toString n : String) → vx_Note p l e R s m args below meth c H locs cells slots Q (F0 m pc ls rest) "java/lang/ArrayIndexOutOfBoundsException" tx) : W p l e R s m args below meth c H locs cells slots Q (F0 m pc ls (.int x :: .int i :: .ref a :: rest)) := by
  intro T hT X
  obtain ⟨t, st, q⟩ := k _ rfl T hT X
  refine ⟨t, ?_, q⟩
  have h1 := X.bastoreOut hexec (by rw [hT]; exact hP q0 _ ha) ((hK.2 t0 _ ht).1 n (fun j => .int (f j))) (j := i) (by show (i < 0 ∨ (arrV _ _ _).slots.size ≤ _); rw [arrV_size]; exact Classical.byContradiction hout) (g := F0 m pc ls (.int x :: .int i :: .ref a :: rest)) rfl (rest := rest) rfl (by rw [hb]; exact hdg) t
  simp only [arrV_size] at h1
  exact h1 st
theorem vx_caldZ {D : va_G} {cl : List vw_C} {ws : va_W} {tys : List (ClassId × FieldType)} {a : Nat} (hexec : p.tables.exec = Jvm.exec) (hb : c.code = cc) (hK : va_K D cl tys s) (hP : va_P D cl ws H) (q0 t0 : Nat) {cA : ClassId} {n : Nat} {f : Nat → Int32} (ha : ws[q0]? = some (a, .inl (cA, n, .inl f))) (ht : tys[t0]? = some (cA, .char)) {i : Int32} (hout : ¬ vp_in i n) (hdg : decode cc pc = .ok (.caload, 1))
    (k : ∀ tx : String, tx = (toString "Index " ++ toString i ++ toString " out of bounds for length " ++ toString n : String) → vx_Note p l e R s m args below meth c H locs cells slots Q (F0 m pc ls rest) "java/lang/ArrayIndexOutOfBoundsException" tx) : W p l e R s m args below meth c H locs cells slots Q (F0 m pc ls (.int i :: .ref a :: rest)) := by
  intro T hT X
  obtain ⟨t, st, q⟩ := k _ rfl T hT X
  refine ⟨t, ?_, q⟩
  have h1 := X.caloadOut hexec (by rw [hT]; exact hP q0 _ ha) ((hK.2 t0 _ ht).1 n (fun j => .int (f j))) (j := i) (by show (i < 0 ∨ (arrV _ _ _).slots.size ≤ _); rw [arrV_size]; exact Classical.byContradiction hout) (g := F0 m pc ls (.int i :: .ref a :: rest)) rfl (rest := rest) rfl (by rw [hb]; exact hdg) t
  simp only [arrV_size] at h1
  exact h1 st
theorem vx_castZ {D : va_G} {cl : List vw_C} {ws : va_W} {tys : List (ClassId × FieldType)} {a : Nat} (hexec : p.tables.exec = Jvm.exec) (hb : c.code = cc) (hK : va_K D cl tys s) (hP : va_P D cl ws H) (q0 t0 : Nat) {cA : ClassId} {n : Nat} {f : Nat → Int32} (ha : ws[q0]? = some (a, .inl (cA, n, .inl f))) (ht : tys[t0]? = some (cA, .char)) {i : Int32} {x : Int32} (hout : ¬ vp_in i n) (hdg : decode cc pc = .ok (.castore, 1))
    (k : ∀ tx : String, tx = (toString "Index " ++ toString i ++ toString " out of bounds for length " ++ toString n : String) → vx_Note p l e R s m args below meth c H locs cells slots Q (F0 m pc ls rest) "java/lang/ArrayIndexOutOfBoundsException" tx) : W p l e R s m args below meth c H locs cells slots Q (F0 m pc ls (.int x :: .int i :: .ref a :: rest)) := by
  intro T hT X
  obtain ⟨t, st, q⟩ := k _ rfl T hT X
  refine ⟨t, ?_, q⟩
  have h1 := X.castoreOut hexec (by rw [hT]; exact hP q0 _ ha) ((hK.2 t0 _ ht).1 n (fun j => .int (f j))) (j := i) (by show (i < 0 ∨ (arrV _ _ _).slots.size ≤ _); rw [arrV_size]; exact Classical.byContradiction hout) (g := F0 m pc ls (.int x :: .int i :: .ref a :: rest)) rfl (rest := rest) rfl (by rw [hb]; exact hdg) t
  simp only [arrV_size] at h1
  exact h1 st
theorem vx_saldZ {D : va_G} {cl : List vw_C} {ws : va_W} {tys : List (ClassId × FieldType)} {a : Nat} (hexec : p.tables.exec = Jvm.exec) (hb : c.code = cc) (hK : va_K D cl tys s) (hP : va_P D cl ws H) (q0 t0 : Nat) {cA : ClassId} {n : Nat} {f : Nat → Int32} (ha : ws[q0]? = some (a, .inl (cA, n, .inl f))) (ht : tys[t0]? = some (cA, .short)) {i : Int32} (hout : ¬ vp_in i n) (hdg : decode cc pc = .ok (.saload, 1))
    (k : ∀ tx : String, tx = (toString "Index " ++ toString i ++ toString " out of bounds for length " ++ toString n : String) → vx_Note p l e R s m args below meth c H locs cells slots Q (F0 m pc ls rest) "java/lang/ArrayIndexOutOfBoundsException" tx) : W p l e R s m args below meth c H locs cells slots Q (F0 m pc ls (.int i :: .ref a :: rest)) := by
  intro T hT X
  obtain ⟨t, st, q⟩ := k _ rfl T hT X
  refine ⟨t, ?_, q⟩
  have h1 := X.saloadOut hexec (by rw [hT]; exact hP q0 _ ha) ((hK.2 t0 _ ht).1 n (fun j => .int (f j))) (j := i) (by show (i < 0 ∨ (arrV _ _ _).slots.size ≤ _); rw [arrV_size]; exact Classical.byContradiction hout) (g := F0 m pc ls (.int i :: .ref a :: rest)) rfl (rest := rest) rfl (by rw [hb]; exact hdg) t
  simp only [arrV_size] at h1
  exact h1 st
theorem vx_sastZ {D : va_G} {cl : List vw_C} {ws : va_W} {tys : List (ClassId × FieldType)} {a : Nat} (hexec : p.tables.exec = Jvm.exec) (hb : c.code = cc) (hK : va_K D cl tys s) (hP : va_P D cl ws H) (q0 t0 : Nat) {cA : ClassId} {n : Nat} {f : Nat → Int32} (ha : ws[q0]? = some (a, .inl (cA, n, .inl f))) (ht : tys[t0]? = some (cA, .short)) {i : Int32} {x : Int32} (hout : ¬ vp_in i n) (hdg : decode cc pc = .ok (.sastore, 1))
    (k : ∀ tx : String, tx = (toString "Index " ++ toString i ++ toString " out of bounds for length " ++ toString n : String) → vx_Note p l e R s m args below meth c H locs cells slots Q (F0 m pc ls rest) "java/lang/ArrayIndexOutOfBoundsException" tx) : W p l e R s m args below meth c H locs cells slots Q (F0 m pc ls (.int x :: .int i :: .ref a :: rest)) := by
  intro T hT X
  obtain ⟨t, st, q⟩ := k _ rfl T hT X
  refine ⟨t, ?_, q⟩
  have h1 := X.sastoreOut hexec (by rw [hT]; exact hP q0 _ ha) ((hK.2 t0 _ ht).1 n (fun j => .int (f j))) (j := i) (by show (i < 0 ∨ (arrV _ _ _).slots.size ≤ _); rw [arrV_size]; exact Classical.byContradiction hout) (g := F0 m pc ls (.int x :: .int i :: .ref a :: rest)) rfl (rest := rest) rfl (by rw [hb]; exact hdg) t
  simp only [arrV_size] at h1
  exact h1 st
theorem vx_laldZ {D : va_G} {cl : List vw_C} {ws : va_W} {tys : List (ClassId × FieldType)} {a : Nat} (hexec : p.tables.exec = Jvm.exec) (hb : c.code = cc) (hK : va_K D cl tys s) (hP : va_P D cl ws H) (q0 t0 : Nat) {cA : ClassId} {n : Nat} {f : Nat → Int64} (ha : ws[q0]? = some (a, .inl (cA, n, .inr (.inl f)))) (ht : tys[t0]? = some (cA, .long)) {i : Int32} (hout : ¬ vp_in i n) (hdg : decode cc pc = .ok (.laload, 1))
    (k : ∀ tx : String, tx = (toString "Index " ++ toString i ++ toString " out of bounds for length " ++ toString n : String) → vx_Note p l e R s m args below meth c H locs cells slots Q (F0 m pc ls rest) "java/lang/ArrayIndexOutOfBoundsException" tx) : W p l e R s m args below meth c H locs cells slots Q (F0 m pc ls (.int i :: .ref a :: rest)) := by
  intro T hT X
  obtain ⟨t, st, q⟩ := k _ rfl T hT X
  refine ⟨t, ?_, q⟩
  have h1 := X.laloadOut hexec (by rw [hT]; exact hP q0 _ ha) ((hK.2 t0 _ ht).1 n (fun j => .long (f j))) (j := i) (by show (i < 0 ∨ (arrV _ _ _).slots.size ≤ _); rw [arrV_size]; exact Classical.byContradiction hout) (g := F0 m pc ls (.int i :: .ref a :: rest)) rfl (rest := rest) rfl (by rw [hb]; exact hdg) t
  simp only [arrV_size] at h1
  exact h1 st
theorem vx_lastZ {D : va_G} {cl : List vw_C} {ws : va_W} {tys : List (ClassId × FieldType)} {a : Nat} (hexec : p.tables.exec = Jvm.exec) (hb : c.code = cc) (hK : va_K D cl tys s) (hP : va_P D cl ws H) (q0 t0 : Nat) {cA : ClassId} {n : Nat} {f : Nat → Int64} (ha : ws[q0]? = some (a, .inl (cA, n, .inr (.inl f)))) (ht : tys[t0]? = some (cA, .long)) {i : Int32} {x : Int64} (hout : ¬ vp_in i n) (hdg : decode cc pc = .ok (.lastore, 1))
    (k : ∀ tx : String, tx = (toString "Index " ++ toString i ++ toString " out of bounds for length " ++ toString n : String) → vx_Note p l e R s m args below meth c H locs cells slots Q (F0 m pc ls rest) "java/lang/ArrayIndexOutOfBoundsException" tx) : W p l e R s m args below meth c H locs cells slots Q (F0 m pc ls (.long x :: .int i :: .ref a :: rest)) := by
  intro T hT X
  obtain ⟨t, st, q⟩ := k _ rfl T hT X
  refine ⟨t, ?_, q⟩
  have h1 := X.lastoreOut hexec (by rw [hT]; exact hP q0 _ ha) ((hK.2 t0 _ ht).1 n (fun j => .long (f j))) (j := i) (by show (i < 0 ∨ (arrV _ _ _).slots.size ≤ _); rw [arrV_size]; exact Classical.byContradiction hout) (g := F0 m pc ls (.long x :: .int i :: .ref a :: rest)) rfl (rest := rest) rfl (by rw [hb]; exact hdg) t
  simp only [arrV_size] at h1
  exact h1 st
theorem vx_faldZ {D : va_G} {cl : List vw_C} {ws : va_W} {tys : List (ClassId × FieldType)} {a : Nat} (hexec : p.tables.exec = Jvm.exec) (hb : c.code = cc) (hK : va_K D cl tys s) (hP : va_P D cl ws H) (q0 t0 : Nat) {cA : ClassId} {n : Nat} {f : Nat → UInt32} (ha : ws[q0]? = some (a, .inl (cA, n, .inr (.inr (.inl f))))) (ht : tys[t0]? = some (cA, .float)) {i : Int32} (hout : ¬ vp_in i n) (hdg : decode cc pc = .ok (.faload, 1))
    (k : ∀ tx : String, tx = (toString "Index " ++ toString i ++ toString " out of bounds for length " ++ toString n : String) → vx_Note p l e R s m args below meth c H locs cells slots Q (F0 m pc ls rest) "java/lang/ArrayIndexOutOfBoundsException" tx) : W p l e R s m args below meth c H locs cells slots Q (F0 m pc ls (.int i :: .ref a :: rest)) := by
  intro T hT X
  obtain ⟨t, st, q⟩ := k _ rfl T hT X
  refine ⟨t, ?_, q⟩
  have h1 := X.faloadOut hexec (by rw [hT]; exact hP q0 _ ha) ((hK.2 t0 _ ht).1 n (fun j => .float (f j))) (j := i) (by show (i < 0 ∨ (arrV _ _ _).slots.size ≤ _); rw [arrV_size]; exact Classical.byContradiction hout) (g := F0 m pc ls (.int i :: .ref a :: rest)) rfl (rest := rest) rfl (by rw [hb]; exact hdg) t
  simp only [arrV_size] at h1
  exact h1 st
theorem vx_fastZ {D : va_G} {cl : List vw_C} {ws : va_W} {tys : List (ClassId × FieldType)} {a : Nat} (hexec : p.tables.exec = Jvm.exec) (hb : c.code = cc) (hK : va_K D cl tys s) (hP : va_P D cl ws H) (q0 t0 : Nat) {cA : ClassId} {n : Nat} {f : Nat → UInt32} (ha : ws[q0]? = some (a, .inl (cA, n, .inr (.inr (.inl f))))) (ht : tys[t0]? = some (cA, .float)) {i : Int32} {x : UInt32} (hout : ¬ vp_in i n) (hdg : decode cc pc = .ok (.fastore, 1))
    (k : ∀ tx : String, tx = (toString "Index " ++ toString i ++ toString " out of bounds for length " ++ toString n : String) → vx_Note p l e R s m args below meth c H locs cells slots Q (F0 m pc ls rest) "java/lang/ArrayIndexOutOfBoundsException" tx) : W p l e R s m args below meth c H locs cells slots Q (F0 m pc ls (.float x :: .int i :: .ref a :: rest)) := by
  intro T hT X
  obtain ⟨t, st, q⟩ := k _ rfl T hT X
  refine ⟨t, ?_, q⟩
  have h1 := X.fastoreOut hexec (by rw [hT]; exact hP q0 _ ha) ((hK.2 t0 _ ht).1 n (fun j => .float (f j))) (j := i) (by show (i < 0 ∨ (arrV _ _ _).slots.size ≤ _); rw [arrV_size]; exact Classical.byContradiction hout) (g := F0 m pc ls (.float x :: .int i :: .ref a :: rest)) rfl (rest := rest) rfl (by rw [hb]; exact hdg) t
  simp only [arrV_size] at h1
  exact h1 st
theorem vx_daldZ {D : va_G} {cl : List vw_C} {ws : va_W} {tys : List (ClassId × FieldType)} {a : Nat} (hexec : p.tables.exec = Jvm.exec) (hb : c.code = cc) (hK : va_K D cl tys s) (hP : va_P D cl ws H) (q0 t0 : Nat) {cA : ClassId} {n : Nat} {f : Nat → UInt64} (ha : ws[q0]? = some (a, .inl (cA, n, .inr (.inr (.inr (.inl f)))))) (ht : tys[t0]? = some (cA, .double)) {i : Int32} (hout : ¬ vp_in i n) (hdg : decode cc pc = .ok (.daload, 1))
    (k : ∀ tx : String, tx = (toString "Index " ++ toString i ++ toString " out of bounds for length " ++ toString n : String) → vx_Note p l e R s m args below meth c H locs cells slots Q (F0 m pc ls rest) "java/lang/ArrayIndexOutOfBoundsException" tx) : W p l e R s m args below meth c H locs cells slots Q (F0 m pc ls (.int i :: .ref a :: rest)) := by
  intro T hT X
  obtain ⟨t, st, q⟩ := k _ rfl T hT X
  refine ⟨t, ?_, q⟩
  have h1 := X.daloadOut hexec (by rw [hT]; exact hP q0 _ ha) ((hK.2 t0 _ ht).1 n (fun j => .double (f j))) (j := i) (by show (i < 0 ∨ (arrV _ _ _).slots.size ≤ _); rw [arrV_size]; exact Classical.byContradiction hout) (g := F0 m pc ls (.int i :: .ref a :: rest)) rfl (rest := rest) rfl (by rw [hb]; exact hdg) t
  simp only [arrV_size] at h1
  exact h1 st
theorem vx_dastZ {D : va_G} {cl : List vw_C} {ws : va_W} {tys : List (ClassId × FieldType)} {a : Nat} (hexec : p.tables.exec = Jvm.exec) (hb : c.code = cc) (hK : va_K D cl tys s) (hP : va_P D cl ws H) (q0 t0 : Nat) {cA : ClassId} {n : Nat} {f : Nat → UInt64} (ha : ws[q0]? = some (a, .inl (cA, n, .inr (.inr (.inr (.inl f)))))) (ht : tys[t0]? = some (cA, .double)) {i : Int32} {x : UInt64} (hout : ¬ vp_in i n) (hdg : decode cc pc = .ok (.dastore, 1))
    (k : ∀ tx : String, tx = (toString "Index " ++ toString i ++ toString " out of bounds for length " ++ toString n : String) → vx_Note p l e R s m args below meth c H locs cells slots Q (F0 m pc ls rest) "java/lang/ArrayIndexOutOfBoundsException" tx) : W p l e R s m args below meth c H locs cells slots Q (F0 m pc ls (.double x :: .int i :: .ref a :: rest)) := by
  intro T hT X
  obtain ⟨t, st, q⟩ := k _ rfl T hT X
  refine ⟨t, ?_, q⟩
  have h1 := X.dastoreOut hexec (by rw [hT]; exact hP q0 _ ha) ((hK.2 t0 _ ht).1 n (fun j => .double (f j))) (j := i) (by show (i < 0 ∨ (arrV _ _ _).slots.size ≤ _); rw [arrV_size]; exact Classical.byContradiction hout) (g := F0 m pc ls (.double x :: .int i :: .ref a :: rest)) rfl (rest := rest) rfl (by rw [hb]; exact hdg) t
  simp only [arrV_size] at h1
  exact h1 st
theorem vx_arraylengthN (hexec : p.tables.exec = Jvm.exec) (hb : c.code = cc) (hdg : decode cc pc = .ok (.arraylength, 1)) (k : vx_NoteN p l e R s m args below meth c H locs cells slots Q (F0 m pc ls rest)) : W p l e R s m args below meth c H locs cells slots Q (F0 m pc ls (.null :: rest)) := by
  intro T hT X
  obtain ⟨t, st, q⟩ := k T hT X
  exact ⟨t, X.arraylengthNull hexec (g := F0 m pc ls (.null :: rest)) rfl (rest := rest) rfl (by rw [hb]; exact hdg) t st, q⟩
theorem vx_ialoadN (hexec : p.tables.exec = Jvm.exec) (hb : c.code = cc) {i : Int32} (hdg : decode cc pc = .ok (.iaload, 1)) (k : vx_NoteN p l e R s m args below meth c H locs cells slots Q (F0 m pc ls rest)) : W p l e R s m args below meth c H locs cells slots Q (F0 m pc ls (.int i :: .null :: rest)) := by
  intro T hT X
  obtain ⟨t, st, q⟩ := k T hT X
  exact ⟨t, X.ialoadNull hexec (g := F0 m pc ls (.int i :: .null :: rest)) rfl (rest := rest) rfl (by rw [hb]; exact hdg) t st, q⟩
theorem vx_laloadN (hexec : p.tables.exec = Jvm.exec) (hb : c.code = cc) {i : Int32} (hdg : decode cc pc = .ok (.laload, 1)) (k : vx_NoteN p l e R s m args below meth c H locs cells slots Q (F0 m pc ls rest)) : W p l e R s m args below meth c H locs cells slots Q (F0 m pc ls (.int i :: .null :: rest)) := by
  intro T hT X
  obtain ⟨t, st, q⟩ := k T hT X
  exact ⟨t, X.laloadNull hexec (g := F0 m pc ls (.int i :: .null :: rest)) rfl (rest := rest) rfl (by rw [hb]; exact hdg) t st, q⟩
theorem vx_faloadN (hexec : p.tables.exec = Jvm.exec) (hb : c.code = cc) {i : Int32} (hdg : decode cc pc = .ok (.faload, 1)) (k : vx_NoteN p l e R s m args below meth c H locs cells slots Q (F0 m pc ls rest)) : W p l e R s m args below meth c H locs cells slots Q (F0 m pc ls (.int i :: .null :: rest)) := by
  intro T hT X
  obtain ⟨t, st, q⟩ := k T hT X
  exact ⟨t, X.faloadNull hexec (g := F0 m pc ls (.int i :: .null :: rest)) rfl (rest := rest) rfl (by rw [hb]; exact hdg) t st, q⟩
theorem vx_daloadN (hexec : p.tables.exec = Jvm.exec) (hb : c.code = cc) {i : Int32} (hdg : decode cc pc = .ok (.daload, 1)) (k : vx_NoteN p l e R s m args below meth c H locs cells slots Q (F0 m pc ls rest)) : W p l e R s m args below meth c H locs cells slots Q (F0 m pc ls (.int i :: .null :: rest)) := by
  intro T hT X
  obtain ⟨t, st, q⟩ := k T hT X
  exact ⟨t, X.daloadNull hexec (g := F0 m pc ls (.int i :: .null :: rest)) rfl (rest := rest) rfl (by rw [hb]; exact hdg) t st, q⟩
theorem vx_aaloadN (hexec : p.tables.exec = Jvm.exec) (hb : c.code = cc) {i : Int32} (hdg : decode cc pc = .ok (.aaload, 1)) (k : vx_NoteN p l e R s m args below meth c H locs cells slots Q (F0 m pc ls rest)) : W p l e R s m args below meth c H locs cells slots Q (F0 m pc ls (.int i :: .null :: rest)) := by
  intro T hT X
  obtain ⟨t, st, q⟩ := k T hT X
  exact ⟨t, X.aaloadNull hexec (g := F0 m pc ls (.int i :: .null :: rest)) rfl (rest := rest) rfl (by rw [hb]; exact hdg) t st, q⟩
theorem vx_baloadN (hexec : p.tables.exec = Jvm.exec) (hb : c.code = cc) {i : Int32} (hdg : decode cc pc = .ok (.baload, 1)) (k : vx_NoteN p l e R s m args below meth c H locs cells slots Q (F0 m pc ls rest)) : W p l e R s m args below meth c H locs cells slots Q (F0 m pc ls (.int i :: .null :: rest)) := by
  intro T hT X
  obtain ⟨t, st, q⟩ := k T hT X
  exact ⟨t, X.baloadNull hexec (g := F0 m pc ls (.int i :: .null :: rest)) rfl (rest := rest) rfl (by rw [hb]; exact hdg) t st, q⟩
theorem vx_caloadN (hexec : p.tables.exec = Jvm.exec) (hb : c.code = cc) {i : Int32} (hdg : decode cc pc = .ok (.caload, 1)) (k : vx_NoteN p l e R s m args below meth c H locs cells slots Q (F0 m pc ls rest)) : W p l e R s m args below meth c H locs cells slots Q (F0 m pc ls (.int i :: .null :: rest)) := by
  intro T hT X
  obtain ⟨t, st, q⟩ := k T hT X
  exact ⟨t, X.caloadNull hexec (g := F0 m pc ls (.int i :: .null :: rest)) rfl (rest := rest) rfl (by rw [hb]; exact hdg) t st, q⟩
theorem vx_saloadN (hexec : p.tables.exec = Jvm.exec) (hb : c.code = cc) {i : Int32} (hdg : decode cc pc = .ok (.saload, 1)) (k : vx_NoteN p l e R s m args below meth c H locs cells slots Q (F0 m pc ls rest)) : W p l e R s m args below meth c H locs cells slots Q (F0 m pc ls (.int i :: .null :: rest)) := by
  intro T hT X
  obtain ⟨t, st, q⟩ := k T hT X
  exact ⟨t, X.saloadNull hexec (g := F0 m pc ls (.int i :: .null :: rest)) rfl (rest := rest) rfl (by rw [hb]; exact hdg) t st, q⟩
theorem vx_iastoreN (hexec : p.tables.exec = Jvm.exec) (hb : c.code = cc) {x : Int32} {i : Int32} (hdg : decode cc pc = .ok (.iastore, 1)) (k : vx_NoteN p l e R s m args below meth c H locs cells slots Q (F0 m pc ls rest)) : W p l e R s m args below meth c H locs cells slots Q (F0 m pc ls (.int x :: .int i :: .null :: rest)) := by
  intro T hT X
  obtain ⟨t, st, q⟩ := k T hT X
  exact ⟨t, X.iastoreNull hexec (g := F0 m pc ls (.int x :: .int i :: .null :: rest)) rfl (rest := rest) rfl (by rw [hb]; exact hdg) t st, q⟩
theorem vx_lastoreN (hexec : p.tables.exec = Jvm.exec) (hb : c.code = cc) {x : Int64} {i : Int32} (hdg : decode cc pc = .ok (.lastore, 1)) (k : vx_NoteN p l e R s m args below meth c H locs cells slots Q (F0 m pc ls rest)) : W p l e R s m args below meth c H locs cells slots Q (F0 m pc ls (.long x :: .int i :: .null :: rest)) := by
  intro T hT X
  obtain ⟨t, st, q⟩ := k T hT X
  exact ⟨t, X.lastoreNull hexec (g := F0 m pc ls (.long x :: .int i :: .null :: rest)) rfl (rest := rest) rfl (by rw [hb]; exact hdg) t st, q⟩
theorem vx_fastoreN (hexec : p.tables.exec = Jvm.exec) (hb : c.code = cc) {x : UInt32} {i : Int32} (hdg : decode cc pc = .ok (.fastore, 1)) (k : vx_NoteN p l e R s m args below meth c H locs cells slots Q (F0 m pc ls rest)) : W p l e R s m args below meth c H locs cells slots Q (F0 m pc ls (.float x :: .int i :: .null :: rest)) := by
  intro T hT X
  obtain ⟨t, st, q⟩ := k T hT X
  exact ⟨t, X.fastoreNull hexec (g := F0 m pc ls (.float x :: .int i :: .null :: rest)) rfl (rest := rest) rfl (by rw [hb]; exact hdg) t st, q⟩
theorem vx_dastoreN (hexec : p.tables.exec = Jvm.exec) (hb : c.code = cc) {x : UInt64} {i : Int32} (hdg : decode cc pc = .ok (.dastore, 1)) (k : vx_NoteN p l e R s m args below meth c H locs cells slots Q (F0 m pc ls rest)) : W p l e R s m args below meth c H locs cells slots Q (F0 m pc ls (.double x :: .int i :: .null :: rest)) := by
  intro T hT X
  obtain ⟨t, st, q⟩ := k T hT X
  exact ⟨t, X.dastoreNull hexec (g := F0 m pc ls (.double x :: .int i :: .null :: rest)) rfl (rest := rest) rfl (by rw [hb]; exact hdg) t st, q⟩
theorem vx_bastoreN (hexec : p.tables.exec = Jvm.exec) (hb : c.code = cc) {x : Int32} {i : Int32} (hdg : decode cc pc = .ok (.bastore, 1)) (k : vx_NoteN p l e R s m args below meth c H locs cells slots Q (F0 m pc ls rest)) : W p l e R s m args below meth c H locs cells slots Q (F0 m pc ls (.int x :: .int i :: .null :: rest)) := by
  intro T hT X
  obtain ⟨t, st, q⟩ := k T hT X
  exact ⟨t, X.bastoreNull hexec (g := F0 m pc ls (.int x :: .int i :: .null :: rest)) rfl (rest := rest) rfl (by rw [hb]; exact hdg) t st, q⟩
theorem vx_castoreN (hexec : p.tables.exec = Jvm.exec) (hb : c.code = cc) {x : Int32} {i : Int32} (hdg : decode cc pc = .ok (.castore, 1)) (k : vx_NoteN p l e R s m args below meth c H locs cells slots Q (F0 m pc ls rest)) : W p l e R s m args below meth c H locs cells slots Q (F0 m pc ls (.int x :: .int i :: .null :: rest)) := by
  intro T hT X
  obtain ⟨t, st, q⟩ := k T hT X
  exact ⟨t, X.castoreNull hexec (g := F0 m pc ls (.int x :: .int i :: .null :: rest)) rfl (rest := rest) rfl (by rw [hb]; exact hdg) t st, q⟩
theorem vx_sastoreN (hexec : p.tables.exec = Jvm.exec) (hb : c.code = cc) {x : Int32} {i : Int32} (hdg : decode cc pc = .ok (.sastore, 1)) (k : vx_NoteN p l e R s m args below meth c H locs cells slots Q (F0 m pc ls rest)) : W p l e R s m args below meth c H locs cells slots Q (F0 m pc ls (.int x :: .int i :: .null :: rest)) := by
  intro T hT X
  obtain ⟨t, st, q⟩ := k T hT X
  exact ⟨t, X.sastoreNull hexec (g := F0 m pc ls (.int x :: .int i :: .null :: rest)) rfl (rest := rest) rfl (by rw [hb]; exact hdg) t st, q⟩
theorem vx_invokeN {own C : String} {index maxL : Nat} {y : MethodName} {bytes : ByteArray} {ret : Option FieldType} (hexec : p.tables.exec = Jvm.exec) (hb : c.code = cc) (hown : s.vm.findClass own = some m.cls) (hlink : (Cond.methodLink own index y).before args s = true) (hinst : (Cond.instanceMethod y).before args s = true) (hcode : (Cond.code y bytes maxL ret).before args s = true) (hsel : (Cond.selects C y y).before args s = true)
    (hx : y.cls ≠ "java/lang/invoke/MethodHandle" ∧ y.cls ≠ "java/lang/invoke/VarHandle") {As : List Value} (hlen : (parseMethodDescriptor y.desc).map (fun d => d.parameters.length) = some As.length) (hdg : decode cc pc = .ok (.invokevirtual index, 3))
    (k : vx_NoteN p l e R s m args below meth c H locs cells slots Q (F0 m pc ls rest)) {st0 : List Value} (hst : st0 = As.reverse ++ .null :: rest) : W p l e R s m args below meth c H locs cells slots Q (F0 m pc ls st0) := by
  intro T hT X
  obtain ⟨r0, r, hn, hrm, hstR, hsigR⟩ := va_Decl.of hinst hcode
  obtain ⟨c2, r2, m2, q1, q2, q3, q4, kP, hkP, hkPi⟩ := Cond.selects_spec hsel
  cases hn.symm.trans q3
  have hl9 : As.length = r.sig.parameters.length := by
    rw [hsigR] at hlen
    exact (Option.some.inj hlen).symm
  obtain ⟨vm', X1, st1⟩ := X.invokevirtualNull hexec hown hlink hn hrm hstR hkP hkPi hx (g := F0 m pc ls st0) rfl (argsL := As) (rest := rest) hl9 hst (by rw [hb]; exact hdg)
  obtain ⟨t, st, q⟩ := k (T.setVm vm') hT X1
  exact ⟨t, st1 t st, q⟩
theorem vx_newarrayZ {atype : ArrayType} (hexec : p.tables.exec = Jvm.exec) (hb : c.code = cc) {n : Int32} (h0 : n < 0) (hdg : decode cc pc = .ok (.newarray atype, 2)) (k : ∀ tx : String, tx = toString n → vx_Note p l e R s m args below meth c H locs cells slots Q (F0 m pc ls rest) "java/lang/NegativeArraySizeException" tx) : W p l e R s m args below meth c H locs cells slots Q (F0 m pc ls (.int n :: rest)) := by
  intro T hT X
  obtain ⟨t, st, q⟩ := k _ rfl T hT X
  exact ⟨t, X.newarrayNegative hexec (g := F0 m pc ls (.int n :: rest)) rfl h0 (rest := rest) rfl (by rw [hb]; exact hdg) t st, q⟩
end
end VXM
/-! ===== END ===== -/
/-! ===== BEGIN an exception as an object: made, kept, thrown later (no traces kept) ===== -/
section VXK
variable {p : Program} {l : Launch} {e : Env} {R : Room} {s : State} {m₀ : MethodId} {args : Array Value} {below : List Frame} {meth : Method} {c : Code} {W : State} {locs : List Loc} {cells slots : Nat}
set_option maxHeartbeats 1000000 in
theorem vx_ctorMadeS (X : Stand p l e R s m₀ args below meth c W locs cells slots) (hexec : p.tables.exec = Jvm.exec) (htr : e.platform.stackTraces = false) {own cls : String} {names : List String} {ic : Nat}
    (hown : s.vm.findClass own = some m₀.cls) (hcls : Bundle.fit cls = true) (hnames : ∀ n ∈ names, Bundle.fit n = true)
    (h : ∀ a ∈ Bundle.ownAtoms own ic cls names, a.before args s = true)
    (hlocs : ∀ x ∈ locs, ∀ cell, s.heap[x.base]? = some cell → cell.vm.isStatics = false)
    {a : Addr} {cX : ClassId} {kX : Class} (hfoundX : s.vm.findClass cls = some cX) (hkX : s.vm.classes[cX]? = some kX) (hcell : W.heap[a]? = some (freshCell cX kX)) (hnew : s.heap.size ≤ a)
    {msg : Value} (hmsg : msg.isRef = true)
    {g : JFrame} (hg : g.method = m₀) (hsize : g.locals.size = c.maxLocals) {rest : List Value} (hstack : g.stack = msg :: .ref a :: .ref a :: rest)
    (hd6 : decode c.code g.pc = .ok (.invokespecial ic, 3))
    (hRframes : names.length + 3 < R.frames) (hRlocals : 2 * g.monitorRoom + ((Value.ref a :: rest).map fun v => v.category).sum + (13 * (names.length + 1) + 42) ≤ R.locals) :
    ∃ (V : State) (ce : Cell) (L : List Loc), Stand p l e R s m₀ args below meth c (V.setCell a ce) (locs ++ L) cells slots ∧ (∀ y ∈ L, y.base = a) ∧ a < V.heap.size ∧ ce.cls = cX ∧ ce.vm = .none ∧
      ∀ target, Steps p.tables e below ((V.setCell a ce).setTop { g with stack := .ref a :: rest, pc := g.pc + 3 }) target → Steps p.tables e below (W.setTop g) target := by
  have howns : e.platform.frameOwnsMonitors = true := by rw [X.admits.platform]
  have hfin : e.platform.finalization = false := by rw [X.admits.platform]
  have hpl : e.platform.magicAccessors = ({} : Platform).magicAccessors := by rw [X.admits.platform]
  have a' : ∀ x, x ∈ Bundle.ownAtoms own ic cls names → x.holds args s none s [] = true := fun x hx => h x hx
  obtain ⟨T, Z0, L, -, Y⟩ := ThrowableC.of_atoms (args := args) howns hfin hpl (fun x hx => h x (by simp [Bundle.ownAtoms, hx]))
  obtain ⟨Z, M, LZ, LM, hnZ⟩ := Init0T.ofS_atoms (args := args) hpl L Y (fun x hx => h x (by simp [Bundle.ownAtoms, hx]))
  obtain ⟨P1, Ps, hlen, L1, hL, hP1m, hlink1, hlink⟩ := Bundle.chainS (args := args) hpl hnZ names cls hcls hnames (fun x hx => h x (by simp [Bundle.ownAtoms, hx]))
  have hfound : s.vm.findClass cls = some P1.m.cls := findClass_of_methodNamed hP1m
  cases Option.some.inj (hfoundX.symm.trans hfound)
  obtain ⟨c1, kX', hc1, hk, hord, -, -, hn6⟩ := Cond.instantiable_spec (a' (.instantiable cls 6) (by simp [Bundle.ownAtoms]))
  cases Option.some.inj (hc1.symm.trans hfound)
  cases Option.some.inj (hkX.symm.trans hk)
  have hsel0 : selectMethod e.platform s.vm P1.m.cls T.fill0 = .method T.fill0 := by
    obtain ⟨c2, r2, m2, q1, q2, q3, q4, -⟩ := Cond.selects_spec (a' (.selects cls Bundle.tFill0 Bundle.tFill0) (by simp [Bundle.ownAtoms]))
    cases Option.some.inj (q1.symm.trans hfound)
    cases Option.some.inj (q2.symm.trans (State.methodFound?_of_named Y.fill0 (by decide)))
    cases Option.some.inj (q3.symm.trans Y.fill0)
    rw [Launch.admits_selectMethod X.admits]; exact q4
  have hselF : selectMethod e.platform s.vm P1.m.cls T.fill = .method T.fill := by
    obtain ⟨c2, r2, m2, q1, q2, q3, q4, -⟩ := Cond.selects_spec (a' (.selects cls Bundle.tFill Bundle.tFill) (by simp [Bundle.ownAtoms]))
    cases Option.some.inj (q1.symm.trans hfound)
    cases Option.some.inj (q2.symm.trans (State.methodFound?_of_named Y.fill (by decide)))
    cases Option.some.inj (q3.symm.trans Y.fill)
    rw [Launch.admits_selectMethod X.admits]; exact q4
  obtain ⟨cellS0, hcS0, hiss⟩ := Y.statics
  obtain ⟨u0, hu0⟩ := Cond.staticRefV Y.unassigned L.unassignedStatic L.statics hcS0 hiss (a' (.isRef (.static Bundle.tN "UNASSIGNED_STACK" Bundle.steD)) (by simp [Bundle.ownAtoms]))
  obtain ⟨sen, hsen⟩ := Cond.staticRefV Y.sentinel L.sentinelStatic L.statics hcS0 hiss (a' (.isRef (.static Bundle.tN "SUPPRESSED_SENTINEL" Bundle.listD)) (by simp [Bundle.ownAtoms]))
  obtain ⟨ci198, i198, fB, hk198, hg198, ha198, hsB, -, hnB, htB, hffB⟩ := Cond.ownField (t := .object "java/lang/Object") Y.found L.cls (by decide +kernel) (a' (.fieldLink Bundle.tN 198 Bundle.tN "backtrace" "Ljava/lang/Object;") (by simp [Bundle.ownAtoms])) (a' (.lays Bundle.tN Bundle.tN "backtrace" "Ljava/lang/Object;") (by simp [Bundle.ownAtoms])) e.platform hpl
  obtain ⟨cellS, hcS', heS, -, hkeep⟩ := X.same.2.2.2.2.2 T.aS cellS0 hcS0
  have hcellS : W.heap[T.aS]? = some cellS := hcS'
  have hout' : ∀ i, (⟨T.aS, i⟩ : Loc) ∉ locs := fun i hmem => by
    have := hlocs _ hmem cellS0 hcS0
    rw [hiss] at this; cases this
  have hknownS : cellS.vm ≠ .unknown := by
    rw [heS]; intro hu
    rw [show cellS0.vm = .unknown from hu] at hiss
    cases hiss
  have hneS : T.aS ≠ a := Nat.ne_of_lt (Nat.lt_of_lt_of_le (Array.getElem?_eq_some_iff.mp hcS0).1 hnew)
  obtain ⟨iM, hffM⟩ := Y.msg
  obtain ⟨tyC, dC, hdC, hdnC⟩ := Cond.laysAt hfound hk Y.cause (a' (.lays cls Bundle.tN "cause" "Ljava/lang/Throwable;") (by simp [Bundle.ownAtoms]))
  obtain ⟨tyS, dS, hdS, hdnS⟩ := Cond.laysAt hfound hk Y.stack (a' (.lays cls Bundle.tN "stackTrace" Bundle.steD) (by simp [Bundle.ownAtoms]))
  obtain ⟨tyP, dP, hdP, hdnP⟩ := Cond.laysAt hfound hk Y.supp (a' (.lays cls Bundle.tN "suppressedExceptions" Bundle.listD) (by simp [Bundle.ownAtoms]))
  obtain ⟨tyM, dM, hdM, hdnM⟩ := Cond.laysAt hfound hk hffM (a' (.lays cls Bundle.tN "detailMessage" "Ljava/lang/String;") (by simp [Bundle.ownAtoms]))
  obtain ⟨tyB, dB, hdB, hdnB⟩ := Cond.laysAt hfound hk hffB (a' (.lays cls Bundle.tN "backtrace" "Ljava/lang/Object;") (by simp [Bundle.ownAtoms]))
  have bC := Cond.laysApart hdB hdC hdnB hdnC (by rw [hnB, Y.causeName]; decide)
  have bS := Cond.laysApart hdB hdS hdnB hdnS (by rw [hnB, Y.stackName]; decide)
  have bP := Cond.laysApart hdB hdP hdnB hdnP (by rw [hnB, Y.suppName]; decide)
  have hskip : SkipFacts T e.platform s (fun u => u) u0 ((preparedCellV T.toThrowableT (freshCell P1.m.cls kX) a u0 sen).withEntry W.cur) :=
    ⟨{ ci198 := ci198, i198 := i198, fBack := fB }, ⟨hk198, hg198, ha198, hsB⟩, by
      have := fresh_default (c := P1.m.cls) tyB
      rw [htB] at this
      simpa [preparedCellV, Cell.setSlot, Cell.withEntry, Array.getElem?_setIfInBounds, bC, bS, bP, bC.symm, bS.symm, bP.symm, defaultValue] using this, fun _ _ => rfl⟩
  obtain ⟨tm, methC, cdC, kC, vm₁, hnC, -, -, -, -, -, -, -, hW₁, st1⟩ := Steps.initColdS (tb := p.tables) (e := e) (below := below) (s := s) (U := W) X.here hexec X.warmed hpl hown (t := Bundle.initS cls) rfl rfl (Bundle.fit_spec hcls).2
    (a' (.methodLink own ic (Bundle.initS cls)) (by simp [Bundle.ownAtoms])) (h (.instanceMethod (Bundle.initS cls)) (by cases names <;> simp [Bundle.ownAtoms, Bundle.chainSAtoms, Bundle.passSAtoms])) (bytes := Bundle.six) (maxL := 2) (h (.code (Bundle.initS cls) Bundle.six 2 none) (by cases names <;> simp [Bundle.ownAtoms, Bundle.chainSAtoms, Bundle.passSAtoms]))
    (f := g) hg (a := a) (msg := msg) (rest := .ref a :: rest) hstack hd6
  cases Option.some.inj (hnC.symm.trans hP1m)
  have X₁ := X.noted hW₁
  obtain ⟨vm₂, X₂, st2⟩ := X₁.ctorMessageOffV hexec (g := { g with stack := .ref a :: rest }) hg hsize T L Z LZ M LM (P1 :: Ps)
    (fun P hP => by rcases List.mem_cons.mp hP with rfl | hP; exact L1; exact hL P hP) ⟨hlink1, hlink⟩ (u0 := u0) (sen := sen) (self := a) hmsg (cell := freshCell P1.m.cls kX) (cellS := cellS)
    hcell (fun _ => by simp) (by simp) rfl rfl hsel0 hselF hcellS hneS hknownS (by rw [hkeep _ (hout' _)]; exact hu0) (by rw [hkeep _ (hout' _)]; exact hsen)
    (Takes.of_laid hk hord tyC (by rw [Y.causeType]; rfl)) (Takes.of_laid hk hord tyS (by rw [Y.stackType]; exact fits_refV_array _ u0)) (Takes.of_laid hk hord tyP (by rw [Y.suppType]; exact fits_refV_object _ sen))
    (Takes.of_laid hk hord tyM (by rw [Y.msgType]; exact fits_refV_object _ ⟨msg, hmsg⟩)) Y.objLocals hskip htr [] hd6
    (by simp only [List.length_cons, hlen]; omega) (by simp only [List.length_cons, hlen]; exact hRlocals)
  have hlt : a < ((W.setVm vm₁).setVm vm₂).heap.size := (Array.getElem?_eq_some_iff.mp hcell).1
  refine ⟨(W.setVm vm₁).setVm vm₂, _, _, X₂, fun y hy => ?_, hlt, rfl, rfl, fun target hwalk => st1 _ (fun acts => ?_)⟩
  · simp only [List.mem_cons, List.not_mem_nil, or_false] at hy
    rcases hy with rfl | rfl | rfl | rfl | rfl <;> rfl
  · rw [doInvoke_state]
    exact st2 _ hwalk
set_option maxHeartbeats 1000000 in
theorem vx_ctorMade0 (X : Stand p l e R s m₀ args below meth c W locs cells slots) (hexec : p.tables.exec = Jvm.exec) (htr : e.platform.stackTraces = false) {own cls : String} {names : List String} {ic : Nat}
    (hown : s.vm.findClass own = some m₀.cls) (hcls : Bundle.fit cls = true) (hnames : ∀ n ∈ names, Bundle.fit n = true)
    (h : ∀ a ∈ Bundle.ownAtoms0 own ic cls names, a.before args s = true)
    (hlocs : ∀ x ∈ locs, ∀ cell, s.heap[x.base]? = some cell → cell.vm.isStatics = false)
    {a : Addr} {cX : ClassId} {kX : Class} (hfoundX : s.vm.findClass cls = some cX) (hkX : s.vm.classes[cX]? = some kX) (hcell : W.heap[a]? = some (freshCell cX kX)) (hnew : s.heap.size ≤ a)
    {g : JFrame} (hg : g.method = m₀) (hsize : g.locals.size = c.maxLocals) {rest : List Value} (hstack : g.stack = .ref a :: .ref a :: rest)
    (hd6 : decode c.code g.pc = .ok (.invokespecial ic, 3))
    (hRframes : names.length + 3 < R.frames) (hRlocals : 2 * g.monitorRoom + ((Value.ref a :: rest).map fun v => v.category).sum + (13 * (names.length + 1) + 41) ≤ R.locals) :
    ∃ (V : State) (ce : Cell) (L : List Loc), Stand p l e R s m₀ args below meth c (V.setCell a ce) (locs ++ L) cells slots ∧ (∀ y ∈ L, y.base = a) ∧ a < V.heap.size ∧ ce.cls = cX ∧ ce.vm = .none ∧
      ∀ target, Steps p.tables e below ((V.setCell a ce).setTop { g with stack := .ref a :: rest, pc := g.pc + 3 }) target → Steps p.tables e below (W.setTop g) target := by
  have howns : e.platform.frameOwnsMonitors = true := by rw [X.admits.platform]
  have hfin : e.platform.finalization = false := by rw [X.admits.platform]
  have hpl : e.platform.magicAccessors = ({} : Platform).magicAccessors := by rw [X.admits.platform]
  have a' : ∀ x, x ∈ Bundle.ownAtoms0 own ic cls names → x.holds args s none s [] = true := fun x hx => h x hx
  obtain ⟨T, Z, L, LZ, Y⟩ := ThrowableC.of_atoms (args := args) howns hfin hpl (fun x hx => h x (by simp [Bundle.ownAtoms0, hx]))
  obtain ⟨P1, Ps, hlen, L1, hL, hP1m, hlink1, hlink⟩ := Bundle.chain0 (args := args) hpl Y.init0 names cls hcls hnames (fun x hx => h x (by simp [Bundle.ownAtoms0, hx]))
  have hfound : s.vm.findClass cls = some P1.m.cls := findClass_of_methodNamed hP1m
  cases Option.some.inj (hfoundX.symm.trans hfound)
  obtain ⟨c1, kX', hc1, hk, hord, -, -, hn6⟩ := Cond.instantiable_spec (a' (.instantiable cls 6) (by simp [Bundle.ownAtoms0]))
  cases Option.some.inj (hc1.symm.trans hfound)
  cases Option.some.inj (hkX.symm.trans hk)
  have hsel0 : selectMethod e.platform s.vm P1.m.cls T.fill0 = .method T.fill0 := by
    obtain ⟨c2, r2, m2, q1, q2, q3, q4, -⟩ := Cond.selects_spec (a' (.selects cls Bundle.tFill0 Bundle.tFill0) (by simp [Bundle.ownAtoms0]))
    cases Option.some.inj (q1.symm.trans hfound)
    cases Option.some.inj (q2.symm.trans (State.methodFound?_of_named Y.fill0 (by decide)))
    cases Option.some.inj (q3.symm.trans Y.fill0)
    rw [Launch.admits_selectMethod X.admits]; exact q4
  have hselF : selectMethod e.platform s.vm P1.m.cls T.fill = .method T.fill := by
    obtain ⟨c2, r2, m2, q1, q2, q3, q4, -⟩ := Cond.selects_spec (a' (.selects cls Bundle.tFill Bundle.tFill) (by simp [Bundle.ownAtoms0]))
    cases Option.some.inj (q1.symm.trans hfound)
    cases Option.some.inj (q2.symm.trans (State.methodFound?_of_named Y.fill (by decide)))
    cases Option.some.inj (q3.symm.trans Y.fill)
    rw [Launch.admits_selectMethod X.admits]; exact q4
  obtain ⟨cellS0, hcS0, hiss⟩ := Y.statics
  obtain ⟨u0, hu0⟩ := Cond.staticRefV Y.unassigned L.unassignedStatic L.statics hcS0 hiss (a' (.isRef (.static Bundle.tN "UNASSIGNED_STACK" Bundle.steD)) (by simp [Bundle.ownAtoms0]))
  obtain ⟨sen, hsen⟩ := Cond.staticRefV Y.sentinel L.sentinelStatic L.statics hcS0 hiss (a' (.isRef (.static Bundle.tN "SUPPRESSED_SENTINEL" Bundle.listD)) (by simp [Bundle.ownAtoms0]))
  obtain ⟨ci198, i198, fB, hk198, hg198, ha198, hsB, -, hnB, htB, hffB⟩ := Cond.ownField (t := .object "java/lang/Object") Y.found L.cls (by decide +kernel) (a' (.fieldLink Bundle.tN 198 Bundle.tN "backtrace" "Ljava/lang/Object;") (by simp [Bundle.ownAtoms0])) (a' (.lays Bundle.tN Bundle.tN "backtrace" "Ljava/lang/Object;") (by simp [Bundle.ownAtoms0])) e.platform hpl
  obtain ⟨cellS, hcS', heS, -, hkeep⟩ := X.same.2.2.2.2.2 T.aS cellS0 hcS0
  have hcellS : W.heap[T.aS]? = some cellS := hcS'
  have hout' : ∀ i, (⟨T.aS, i⟩ : Loc) ∉ locs := fun i hmem => by
    have := hlocs _ hmem cellS0 hcS0
    rw [hiss] at this; cases this
  have hknownS : cellS.vm ≠ .unknown := by
    rw [heS]; intro hu
    rw [show cellS0.vm = .unknown from hu] at hiss
    cases hiss
  have hneS : T.aS ≠ a := Nat.ne_of_lt (Nat.lt_of_lt_of_le (Array.getElem?_eq_some_iff.mp hcS0).1 hnew)
  obtain ⟨iM, hffM⟩ := Y.msg
  obtain ⟨tyC, dC, hdC, hdnC⟩ := Cond.laysAt hfound hk Y.cause (a' (.lays cls Bundle.tN "cause" "Ljava/lang/Throwable;") (by simp [Bundle.ownAtoms0]))
  obtain ⟨tyS, dS, hdS, hdnS⟩ := Cond.laysAt hfound hk Y.stack (a' (.lays cls Bundle.tN "stackTrace" Bundle.steD) (by simp [Bundle.ownAtoms0]))
  obtain ⟨tyP, dP, hdP, hdnP⟩ := Cond.laysAt hfound hk Y.supp (a' (.lays cls Bundle.tN "suppressedExceptions" Bundle.listD) (by simp [Bundle.ownAtoms0]))
  obtain ⟨tyM, dM, hdM, hdnM⟩ := Cond.laysAt hfound hk hffM (a' (.lays cls Bundle.tN "detailMessage" "Ljava/lang/String;") (by simp [Bundle.ownAtoms0]))
  obtain ⟨tyB, dB, hdB, hdnB⟩ := Cond.laysAt hfound hk hffB (a' (.lays cls Bundle.tN "backtrace" "Ljava/lang/Object;") (by simp [Bundle.ownAtoms0]))
  have bC := Cond.laysApart hdB hdC hdnB hdnC (by rw [hnB, Y.causeName]; decide)
  have bS := Cond.laysApart hdB hdS hdnB hdnS (by rw [hnB, Y.stackName]; decide)
  have bP := Cond.laysApart hdB hdP hdnB hdnP (by rw [hnB, Y.suppName]; decide)
  have hskip : SkipFacts T e.platform s (fun u => u) u0 ((preparedCellV T.toThrowableT (freshCell P1.m.cls kX) a u0 sen).withEntry W.cur) :=
    ⟨{ ci198 := ci198, i198 := i198, fBack := fB }, ⟨hk198, hg198, ha198, hsB⟩, by
      have := fresh_default (c := P1.m.cls) tyB
      rw [htB] at this
      simpa [preparedCellV, Cell.setSlot, Cell.withEntry, Array.getElem?_setIfInBounds, bC, bS, bP, bC.symm, bS.symm, bP.symm, defaultValue] using this, fun _ _ => rfl⟩
  obtain ⟨tm, methC, cdC, kC, vm₁, hnC, -, -, -, -, -, -, -, hW₁, st1⟩ := Steps.initCold (tb := p.tables) (e := e) (below := below) (s := s) (U := W) X.here hexec X.warmed hpl hown (t := Bundle.init0 cls) rfl rfl (Bundle.fit_spec hcls).2
    (a' (.methodLink own ic (Bundle.init0 cls)) (by simp [Bundle.ownAtoms0])) (h (.instanceMethod (Bundle.init0 cls)) (by cases names <;> simp [Bundle.ownAtoms0, Bundle.chain0Atoms, Bundle.passAtoms])) (bytes := Bundle.five) (maxL := 1) (h (.code (Bundle.init0 cls) Bundle.five 1 none) (by cases names <;> simp [Bundle.ownAtoms0, Bundle.chain0Atoms, Bundle.passAtoms]))
    (f := g) hg (a := a) (rest := .ref a :: rest) hstack hd6
  cases Option.some.inj (hnC.symm.trans hP1m)
  have X₁ := X.noted hW₁
  obtain ⟨vm₂, X₂, st2⟩ := X₁.ctorPlainOffV hexec (g := { g with stack := .ref a :: rest }) hg hsize T L Z LZ (P1 :: Ps)
    (fun P hP => by rcases List.mem_cons.mp hP with rfl | hP; exact L1; exact hL P hP) ⟨hlink1, hlink⟩ (u0 := u0) (sen := sen) (self := a) (cell := freshCell P1.m.cls kX) (cellS := cellS)
    hcell (fun _ => by simp) (by simp) rfl rfl hsel0 hselF hcellS hneS hknownS (by rw [hkeep _ (hout' _)]; exact hu0) (by rw [hkeep _ (hout' _)]; exact hsen)
    (Takes.of_laid hk hord tyC (by rw [Y.causeType]; rfl)) (Takes.of_laid hk hord tyS (by rw [Y.stackType]; exact fits_refV_array _ u0)) (Takes.of_laid hk hord tyP (by rw [Y.suppType]; exact fits_refV_object _ sen)) Y.objLocals hskip htr [] hd6
    (by simp only [List.length_cons, hlen]; omega) (by simp only [List.length_cons, hlen]; exact hRlocals)
  have hlt : a < ((W.setVm vm₁).setVm vm₂).heap.size := (Array.getElem?_eq_some_iff.mp hcell).1
  refine ⟨(W.setVm vm₁).setVm vm₂, _, _, X₂, fun y hy => ?_, hlt, rfl, rfl, fun target hwalk => st1 _ (fun acts => ?_)⟩
  · simp only [List.mem_cons, List.not_mem_nil, or_false] at hy
    rcases hy with rfl | rfl | rfl | rfl <;> rfl
  · rw [doInvoke_state]
    exact st2 _ hwalk
end VXK
section VXK2
variable {p : Program} {l : Launch} {e : Env} {R : Room} {s : State} {m : MethodId} {args : Array Value} {below : List Frame} {meth : Method} {c : Code} {H : Heap} {locs : List Loc} {cells slots : Nat} {Q : State → Prop}
variable {ls : Array Slot} {rest : List Value} {D : va_G} {cl : List vw_C} {tys : List (ClassId × FieldType)} {ws : va_W}
/-- 'new E("text")' that isn't thrown at once: the object goes on the stack -/
theorem vx_makeS {cc : ByteArray} {pc : Nat} (hexec : p.tables.exec = Jvm.exec) (hb : c.code = cc) (hl : l.stackTraces = false) {own cls text : String} {names : List String} {ik is ic sa ci : Nat} {A : Nat → Prop} {T0 : u_T}
    (hown : s.vm.findClass own = some m.cls) (hcls : Bundle.fit cls = true) (hnames : ∀ n ∈ names, Bundle.fit n = true)
    (hk : (Cond.classLink own ik cls).before args s = true) (hini : (Cond.initialized cls).before args s = true) (hstr : vk_R own is text sa s) (hat : ∀ w ∈ vx_atS own ic cls names, w.before args s = true)
    (hgood : ∀ w ∈ Cond.classLink own ik cls :: Cond.initialized cls :: vx_atS own ic cls names, vx_ot w = true)
    (hU : vx_Zq Bundle.tN "UNASSIGNED_STACK" Bundle.steD A s s.heap) (hN : vx_Zq Bundle.tN "SUPPRESSED_SENTINEL" Bundle.listD A s s.heap) (hS : va_S A s.heap H locs) (hsize : ls.size = c.maxLocals)
    (d0 : decode cc pc = .ok (.new ik, 3)) (d3 : decode cc (pc + 3) = .ok (.dup, 1)) (d4 : decode cc (pc + 4) = .ok (.ldc is, 2)) (d6 : decode cc (pc + 6) = .ok (.invokespecial ic, 3))
    (hK : va_K D cl tys s) (hP : va_P D cl ws H) (hD : va_D A ws) (hA : ∀ q, s.heap.size ≤ q → A q) (hc : cl[ci]? = some (cls, T0, 0))
    (hRframes : names.length + 3 < R.frames) (hRlocals : (rest.map fun v => v.category).sum + (13 * (names.length + 1) + 43) ≤ R.locals) (hRcells : cells + 1 ≤ R.cells) (hRslots : slots + 6 ≤ R.slots)
    (kk : ∀ (q : Nat) (H1 : Heap), va_P D cl (ws ++ [(q, .inr (ci, []))]) H1 → va_D A (ws ++ [(q, .inr (ci, []))]) → va_S A s.heap H1 locs → W p l e R s m args below meth c H1 locs (cells + 1) (slots + 6) Q (F0 m (pc + 9) ls (.ref q :: rest))) :
    W p l e R s m args below meth c H locs cells slots Q (F0 m pc ls rest) := by
  intro T hT X
  subst hT
  have htr : e.platform.stackTraces = false := (show e.platform.stackTraces = l.stackTraces by rw [X.admits.platform]).trans hl
  have Y := vx_rebase X (R' := { frames := R.frames, locals := R.locals, cells := 1, slots := 6 }) (Nat.le_refl _) (Nat.le_refl _) hRcells hRslots
  obtain ⟨s', hA'⟩ : ∃ z, z = (T.setVm s.vm).setFrames (.invoking m args :: below) := ⟨_, rfl⟩
  rw [← hA'] at Y
  have hvm : s'.vm = s.vm := by rw [hA']; rfl
  have hhp : s'.heap = T.heap := by rw [hA']; rfl
  have hW0 : s.WarmedH s'.vm := by rw [hvm]; exact State.WarmedH.refl s
  have hat' : ∀ w ∈ vx_atS own ic cls names, w.before args s' = true := fun w hw => vx_ot_at hW0 hvm.symm (hgood w (List.mem_cons_of_mem _ (List.mem_cons_of_mem _ hw))) (hat w hw)
  have hk' : (Cond.classLink own ik cls).before args s' = true := vx_ot_at hW0 hvm.symm (hgood _ List.mem_cons_self) hk
  have hini' : (Cond.initialized cls).before args s' = true := vx_ot_at hW0 hvm.symm (hgood _ (List.mem_cons_of_mem _ List.mem_cons_self)) hini
  have hU' : vx_Zq Bundle.tN "UNASSIGNED_STACK" Bundle.steD A s' s'.heap := by rw [hhp]; exact vx_Zq.moved hW0.alike (hU.kept hS.2.1)
  have hN' : vx_Zq Bundle.tN "SUPPRESSED_SENTINEL" Bundle.listD A s' s'.heap := by rw [hhp]; exact vx_Zq.moved hW0.alike (hN.kept hS.2.1)
  have h : ∀ w ∈ Bundle.ownAtoms own ic cls names, w.before args s' = true := vx_own hat' (vx_isRefq hU'.1) (vx_isRefq hN'.1) hU'.2.word hN'.2.word
  have hown' : s'.vm.findClass own = some m.cls := by rw [hvm]; exact hown
  have hins : (Cond.instantiable cls 6).before args s' = true := h _ (by simp [Bundle.ownAtoms])
  obtain ⟨vm₁, cX, kX, hfX, hkX, -, -, X₁, st1⟩ := Y.newCold hexec (own := own) (C := cls) (index := ik) (n := 6) hown' hk' hins hini'
    (g := F0 m pc ls rest) rfl (by rw [hb]; exact d0) (Nat.le_refl _) (Nat.le_refl _)
  generalize hT1 : (T.setVm vm₁).pushCell { cls := cX, slots := kX.instanceTypes.map defaultValue, vm := .none } = T1 at X₁ st1
  have hcat : (Value.ref T.heap.size).category = 1 := rfl
  have hcellA : T1.heap[T.heap.size]? = some (freshCell cX kX) := by rw [← hT1]; exact State.heap_pushCell_size _ _
  have d3' : decode c.code (pc + 3) = .ok (.dup, 1) := by rw [hb]; exact d3
  have d4' : decode c.code (pc + 4) = .ok (.ldc is, 2) := by rw [hb]; exact d4
  have hstr' : vk_R own is text sa s' := vk_R.warm hW0 hstr
  obtain ⟨V, ce, L, Z, hL, hlt, hcl9, hvm9, st⟩ := vx_ctorMadeS X₁ hexec htr (own := own) (cls := cls) (names := names) (ic := ic) hown' hcls hnames h (fun x hx => nomatch hx) hfX hkX hcellA (by rw [hhp]; exact Nat.le_refl _) (msg := .ref sa) rfl
    (g := { method := m, pc := pc + 6, locals := ls, stack := .ref sa :: .ref T.heap.size :: .ref T.heap.size :: rest, locked := none }) rfl hsize (rest := rest) rfl
    (by rw [hb]; exact d6) hRframes (by simp only [List.map_cons, List.sum_cons, hcat]; omega)
  have Z0 := Stand.forget (locs := []) Z (fun y hy => by rw [hL y hy, hhp]; exact Nat.le_refl _)
  obtain ⟨f1, f2⟩ := vx_frame Z0.same
  rw [hhp] at f1 f2
  have hcid : ce.cls = D.1 ci := by
    rw [hcl9]
    have h1 := (hK.1 ci _ hc).2.1
    rw [hvm] at hfX
    exact Option.some.inj (hfX.symm.trans h1)
  have hh : (V.setCell T.heap.size ce).heap[T.heap.size]? = some ce := heapAt_setCell_self (s := V) ce hlt
  subst hA'
  have X5 := vx_back9 X Y Z0
  have X6 : Stand p l e R s m args below meth c (V.setCell T.heap.size ce) locs (cells + 1) (slots + 6) := { X5 with same := X5.same.mono (by omega) (by omega) }
  have hk9 : ∀ (k : Nat) (x : Nat × va_E), ws[k]? = some x → (V.setCell T.heap.size ce).heap[x.1]? = T.heap[x.1]? := fun k x hx => f2 x.1 ((hP k x hx).lt) (fun z hz => nomatch hz)
  obtain ⟨t, a1, b1⟩ := kk T.heap.size (V.setCell T.heap.size ce).heap ((hP.kept hk9).app (fun k x hx => by
      have hz : k < 1 := (List.getElem?_eq_some_iff.mp hx).1
      rw [show k = 0 by omega] at hx
      cases hx
      exact ⟨_, hc, ce, hh, hcid, hvm9, fun k hk => absurd hk (Nat.not_lt_zero k)⟩)) (hD.push hP rfl (hA _ hS.1)) ⟨Nat.le_trans hS.1 f1, fun q h1 h2 => (f2 q (Nat.lt_of_lt_of_le h1 hS.1) (fun z hz => nomatch hz)).trans (hS.2.1 q h1 h2), hS.2.2⟩ _ rfl X6
  refine ⟨t, st1 _ ?_, b1⟩
  show Steps p.tables e below (T1.setTop { method := m, pc := pc + 3, locals := ls, stack := .ref T.heap.size :: rest, locked := none }) _
  jvm_step X₁.here [X₁.here.top, hexec, d3', Value.category]
  exact X₁.ldcString hexec (own := own) (text := text) (index := is) (a := sa) hown' hstr'.1 hstr'.2
    (g := { method := m, pc := pc + 4, locals := ls, stack := .ref T.heap.size :: .ref T.heap.size :: rest, locked := none }) rfl d4' _ (st _ a1)
/-- 'new E()' that isn't thrown at once: the object goes on the stack -/
theorem vx_make0 {cc : ByteArray} {pc : Nat} (hexec : p.tables.exec = Jvm.exec) (hb : c.code = cc) (hl : l.stackTraces = false) {own cls : String} {names : List String} {ik ic ci : Nat} {A : Nat → Prop} {T0 : u_T}
    (hown : s.vm.findClass own = some m.cls) (hcls : Bundle.fit cls = true) (hnames : ∀ n ∈ names, Bundle.fit n = true)
    (hk : (Cond.classLink own ik cls).before args s = true) (hini : (Cond.initialized cls).before args s = true) (hat : ∀ w ∈ vx_at0 own ic cls names, w.before args s = true)
    (hgood : ∀ w ∈ Cond.classLink own ik cls :: Cond.initialized cls :: vx_at0 own ic cls names, vx_ot w = true)
    (hU : vx_Zq Bundle.tN "UNASSIGNED_STACK" Bundle.steD A s s.heap) (hN : vx_Zq Bundle.tN "SUPPRESSED_SENTINEL" Bundle.listD A s s.heap) (hS : va_S A s.heap H locs) (hsize : ls.size = c.maxLocals)
    (d0 : decode cc pc = .ok (.new ik, 3)) (d3 : decode cc (pc + 3) = .ok (.dup, 1)) (d4 : decode cc (pc + 4) = .ok (.invokespecial ic, 3))
    (hK : va_K D cl tys s) (hP : va_P D cl ws H) (hD : va_D A ws) (hA : ∀ q, s.heap.size ≤ q → A q) (hc : cl[ci]? = some (cls, T0, 0))
    (hRframes : names.length + 3 < R.frames) (hRlocals : (rest.map fun v => v.category).sum + (13 * (names.length + 1) + 42) ≤ R.locals) (hRcells : cells + 1 ≤ R.cells) (hRslots : slots + 6 ≤ R.slots)
    (kk : ∀ (q : Nat) (H1 : Heap), va_P D cl (ws ++ [(q, .inr (ci, []))]) H1 → va_D A (ws ++ [(q, .inr (ci, []))]) → va_S A s.heap H1 locs → W p l e R s m args below meth c H1 locs (cells + 1) (slots + 6) Q (F0 m (pc + 7) ls (.ref q :: rest))) :
    W p l e R s m args below meth c H locs cells slots Q (F0 m pc ls rest) := by
  intro T hT X
  subst hT
  have htr : e.platform.stackTraces = false := (show e.platform.stackTraces = l.stackTraces by rw [X.admits.platform]).trans hl
  have Y := vx_rebase X (R' := { frames := R.frames, locals := R.locals, cells := 1, slots := 6 }) (Nat.le_refl _) (Nat.le_refl _) hRcells hRslots
  obtain ⟨s', hA'⟩ : ∃ z, z = (T.setVm s.vm).setFrames (.invoking m args :: below) := ⟨_, rfl⟩
  rw [← hA'] at Y
  have hvm : s'.vm = s.vm := by rw [hA']; rfl
  have hhp : s'.heap = T.heap := by rw [hA']; rfl
  have hW0 : s.WarmedH s'.vm := by rw [hvm]; exact State.WarmedH.refl s
  have hat' : ∀ w ∈ vx_at0 own ic cls names, w.before args s' = true := fun w hw => vx_ot_at hW0 hvm.symm (hgood w (List.mem_cons_of_mem _ (List.mem_cons_of_mem _ hw))) (hat w hw)
  have hk' : (Cond.classLink own ik cls).before args s' = true := vx_ot_at hW0 hvm.symm (hgood _ List.mem_cons_self) hk
  have hini' : (Cond.initialized cls).before args s' = true := vx_ot_at hW0 hvm.symm (hgood _ (List.mem_cons_of_mem _ List.mem_cons_self)) hini
  have hU' : vx_Zq Bundle.tN "UNASSIGNED_STACK" Bundle.steD A s' s'.heap := by rw [hhp]; exact vx_Zq.moved hW0.alike (hU.kept hS.2.1)
  have hN' : vx_Zq Bundle.tN "SUPPRESSED_SENTINEL" Bundle.listD A s' s'.heap := by rw [hhp]; exact vx_Zq.moved hW0.alike (hN.kept hS.2.1)
  have h : ∀ w ∈ Bundle.ownAtoms0 own ic cls names, w.before args s' = true := vx_own hat' (vx_isRefq hU'.1) (vx_isRefq hN'.1) hU'.2.word hN'.2.word
  have hown' : s'.vm.findClass own = some m.cls := by rw [hvm]; exact hown
  have hins : (Cond.instantiable cls 6).before args s' = true := h _ (by simp [Bundle.ownAtoms0])
  obtain ⟨vm₁, cX, kX, hfX, hkX, -, -, X₁, st1⟩ := Y.newCold hexec (own := own) (C := cls) (index := ik) (n := 6) hown' hk' hins hini'
    (g := F0 m pc ls rest) rfl (by rw [hb]; exact d0) (Nat.le_refl _) (Nat.le_refl _)
  generalize hT1 : (T.setVm vm₁).pushCell { cls := cX, slots := kX.instanceTypes.map defaultValue, vm := .none } = T1 at X₁ st1
  have hcat : (Value.ref T.heap.size).category = 1 := rfl
  have hcellA : T1.heap[T.heap.size]? = some (freshCell cX kX) := by rw [← hT1]; exact State.heap_pushCell_size _ _
  have d3' : decode c.code (pc + 3) = .ok (.dup, 1) := by rw [hb]; exact d3
  obtain ⟨V, ce, L, Z, hL, hlt, hcl9, hvm9, st⟩ := vx_ctorMade0 X₁ hexec htr (own := own) (cls := cls) (names := names) (ic := ic) hown' hcls hnames h (fun x hx => nomatch hx) hfX hkX hcellA (by rw [hhp]; exact Nat.le_refl _)
    (g := { method := m, pc := pc + 4, locals := ls, stack := .ref T.heap.size :: .ref T.heap.size :: rest, locked := none }) rfl hsize (rest := rest) rfl
    (by rw [hb]; exact d4) hRframes (by simp only [List.map_cons, List.sum_cons, hcat]; omega)
  have Z0 := Stand.forget (locs := []) Z (fun y hy => by rw [hL y hy, hhp]; exact Nat.le_refl _)
  obtain ⟨f1, f2⟩ := vx_frame Z0.same
  rw [hhp] at f1 f2
  have hcid : ce.cls = D.1 ci := by
    rw [hcl9]
    have h1 := (hK.1 ci _ hc).2.1
    rw [hvm] at hfX
    exact Option.some.inj (hfX.symm.trans h1)
  have hh : (V.setCell T.heap.size ce).heap[T.heap.size]? = some ce := heapAt_setCell_self (s := V) ce hlt
  subst hA'
  have X5 := vx_back9 X Y Z0
  have X6 : Stand p l e R s m args below meth c (V.setCell T.heap.size ce) locs (cells + 1) (slots + 6) := { X5 with same := X5.same.mono (by omega) (by omega) }
  have hk9 : ∀ (k : Nat) (x : Nat × va_E), ws[k]? = some x → (V.setCell T.heap.size ce).heap[x.1]? = T.heap[x.1]? := fun k x hx => f2 x.1 ((hP k x hx).lt) (fun z hz => nomatch hz)
  obtain ⟨t, a1, b1⟩ := kk T.heap.size (V.setCell T.heap.size ce).heap ((hP.kept hk9).app (fun k x hx => by
      have hz : k < 1 := (List.getElem?_eq_some_iff.mp hx).1
      rw [show k = 0 by omega] at hx
      cases hx
      exact ⟨_, hc, ce, hh, hcid, hvm9, fun k hk => absurd hk (Nat.not_lt_zero k)⟩)) (hD.push hP rfl (hA _ hS.1)) ⟨Nat.le_trans hS.1 f1, fun q h1 h2 => (f2 q (Nat.lt_of_lt_of_le h1 hS.1) (fun z hz => nomatch hz)).trans (hS.2.1 q h1 h2), hS.2.2⟩ _ rfl X6
  refine ⟨t, st1 _ ?_, b1⟩
  show Steps p.tables e below (T1.setTop { method := m, pc := pc + 3, locals := ls, stack := .ref T.heap.size :: rest, locked := none }) _
  jvm_step X₁.here [X₁.here.top, hexec, d3', Value.category]
  exact st _ a1
/-- 'throw x' of an object that was made before -/
theorem vx_athrow {cc : ByteArray} {pc : Nat} (hexec : p.tables.exec = Jvm.exec) (hb : c.code = cc) {q : Addr} (hdg : decode cc pc = .ok (.athrow, 1)) (k : vx_W p l e R s m args below meth c H locs cells slots Q (F0 m pc ls rest) q) : W p l e R s m args below meth c H locs cells slots Q (F0 m pc ls (.ref q :: rest)) := by
  intro T hT X
  obtain ⟨t, st, hq⟩ := k T hT X
  refine ⟨t, ?_, hq⟩
  have hdg' : decode c.code pc = .ok (.athrow, 1) := by rw [hb]; exact hdg
  jvm_step X.here [X.here.top, hexec, hdg', athrow.wp_sem]
  exact st
end VXK2
/-! ===== END ===== -/
/-! ===== BEGIN a constructor that throws (launches without stack traces) ===== -/
section VXIA
variable {p : Program} {l : Launch} {e : Env} {R : Room} {s : State} {m : MethodId} {args : Array Value} {below : List Frame} {meth : Method} {c : Code} {T : State} {locs : List Loc} {cells slots : Nat}
theorem vx_callI (X : Stand p l e R s m args below meth c T locs cells slots) (hexec : p.tables.exec = Jvm.exec) {own : String} {index : Nat} {y : MethodName} {bytes : ByteArray} {maxL : Nat}
    (hown : s.vm.findClass own = some m.cls) (hy1 : y.name = "<init>") (hlink : (Cond.methodLink own index y).before args s = true) (hinst : (Cond.instanceMethod y).before args s = true)
    (hcode : (Cond.code y bytes maxL none).before args s = true) (hy : y.cls ≠ "java/lang/invoke/MethodHandle" ∧ y.cls ≠ "java/lang/invoke/VarHandle")
    {W9 : Nat} {Pre : Pt → Array Value → Prop} {Post : Pt → Array Value → Option Value → Pt → Prop} {PostX : Pt → Array Value → Addr → Pt → Prop} (hK : vx_Back l R p e below s args y 3 W9 Pre Post PostX)
    {g : JFrame} (hg : g.method = m) (hsize : g.locals.size = c.maxLocals) {a : Addr} {argsL rest : List Value} (hlen : ∀ sig, parseMethodDescriptor y.desc = some sig → argsL.length = sig.parameters.length)
    (hstack : g.stack = argsL.reverse ++ .ref a :: rest) (hW : 2 * g.monitorRoom + (rest.map fun v => v.category).sum ≤ W9) (hdg : decode c.code g.pc = .ok (.invokespecial index, 3))
    (hpre : ∀ vm₁, s.WarmedH vm₁ → Pre ⟨T.setVm vm₁, locs, cells, slots⟩ (Value.ref a :: argsL).toArray) :
    (∃ (v : Option Value) (vm₁ : Vm) (B : Pt), s.WarmedH vm₁ ∧ Stand p l e R s m args below meth c B.U B.locs B.cells B.slots ∧ Post ⟨T.setVm vm₁, locs, cells, slots⟩ (Value.ref a :: argsL).toArray v B ∧
      ∀ target, Steps p.tables e below (B.U.setTop { g with pc := g.pc + 3, stack := v.toList ++ rest }) target → Steps p.tables e below (T.setTop g) target) ∨
    (∃ (q : Addr) (vm₁ : Vm) (B : Pt), s.WarmedH vm₁ ∧ Stand p l e R s m args below meth c B.U B.locs B.cells B.slots ∧ PostX ⟨T.setVm vm₁, locs, cells, slots⟩ (Value.ref a :: argsL).toArray q B ∧
      Steps p.tables e below (T.setTop g) ((B.U.setTop { g with stack := rest }).pushFrame (.throwing q))) := by
  subst hg
  have hpl : e.platform.magicAccessors = ({} : Platform).magicAccessors := by rw [X.admits.platform]
  obtain ⟨mk, methM, cM, kP, vm₁, hnamed, hmethM, hcodeM, -, hlocalsM, -, hkP, -, hW₁, hstep₁⟩ := Steps.initColdArgs (e := e) X.here hexec X.warmed hpl hown hy1 hy hlink hinst hcode (f := g) rfl hlen hstack hdg
  have X₁ := X.noted hW₁
  rcases hK g.method meth c ⟨T.setVm vm₁, locs, cells, slots⟩ { g with stack := rest } (.invokespecial index) mk (Value.ref a :: argsL).toArray X₁ rfl hsize hdg hW (X₁.named hnamed) (hpre vm₁ X₁.warmed) with ⟨v, B, X', hpost, hsteps⟩ | ⟨q, B, X', hpost, hsteps⟩
  · exact Or.inl ⟨v, vm₁, B, X₁.warmed, X', hpost, fun target h => hstep₁ _ fun acts => by rw [doInvoke_state]; exact hsteps.trans h⟩
  · exact Or.inr ⟨q, vm₁, B, X₁.warmed, X', hpost, hstep₁ _ fun acts => by rw [doInvoke_state]; exact hsteps⟩
end VXIA
section VXIB
variable {p : Program} {l : Launch} {e : Env} {R : Room} {s : State} {m : MethodId} {args : Array Value} {below : List Frame} {meth : Method} {c : Code} {H : Heap} {locs : List Loc} {cells slots : Nat}
variable {y : MethodName} {bytes cc : ByteArray} {maxL nL mc ms n index : Nat} {ret : Option FieldType} {ws : List Cond} {rm : Room} {Pc : Array Value → State → Prop} {Qc : Array Value → State → Outcome → State → Prop} {XC : String → State → State → Prop} {free : Addr → Prop} {Ts : List Cond} {own C : String} {b : Addr} {As rest : List Value} {g : JFrame}
theorem vx_runI (S : CallFix p m c cc nL s args Ts own) (hM : vx_Met l y ws rm Pc Qc XC mc ms free) (cw : CallB R s args own index y bytes maxL none ws rm mc ms n ∧ y.name = "<init>" ∧ (Cond.instanceMethod y).before args s = true) (hp : PreS s H Pc (.ref b :: As))
    (hg : g.method = m) (hn : As.length = n) (hsize : g.locals.size = nL) (hstack : g.stack = As.reverse ++ .ref b :: rest) (hW : 2 * g.monitorRoom + (rest.map fun v => v.category).sum ≤ 8) (hdg : decode cc g.pc = .ok (.invokespecial index, 3)) (hf : cells + mc ≤ R.cells ∧ slots + ms ≤ R.slots) :
    vx_Run p l e R s m args below meth c H locs cells slots mc ms g rest (Qc (Value.ref b :: As).toArray) XC free := by
  have hK : vx_Back l R p e below s args y 3 8 (PreOf R mc ms Pc) (PostOf Qc mc ms free) (vx_Post XC mc ms free) := vx_callBack cw.1 hM hp.1
  obtain ⟨⟨-, -, -, -, -, -, hcode, -, hy, hlen, hl⟩, hy1, hin⟩ := cw
  obtain ⟨hx, hb, hml, ho, -⟩ := S
  have hPc := hp.2
  intro T hT X
  rcases vx_callI X hx (bytes := bytes) (maxL := maxL) ho hy1 hl hin hcode hy hK hg (hsize.trans hml.symm) (a := b) (argsL := As) (rest := rest) (fun sig h => hn.trans (hlen sig h)) hstack hW (by rw [hb]; exact hdg)
    (fun vm₁ hW₁ => ⟨hf.1, hf.2, hPc (T.setVm vm₁) hT hW₁⟩) with ⟨v, vm₁, ⟨U', l2, c2, s2⟩, hW₁, X', ⟨g', mk, t, L, e1, e2, hq, h1, hL, h2, h3⟩, st⟩ | ⟨q, vm₁, ⟨U', l2, c2, s2⟩, hW₁, X', ⟨g', mk, t, L, E, ce, e1, e2, hq, hce, hcv, hcl, h1, hL, h2, h3⟩, st⟩
  · dsimp only [Pt.U, Pt.locs, Pt.cells, Pt.slots] at X' e1 e2 h1 h2 h3 st
    subst h1; subst h2; subst h3
    exact Or.inl ⟨v, (T.setVm vm₁).calling g' mk (Value.ref b :: As).toArray, t, U', L, hT, X', hL, e1, e2, hq, st⟩
  · dsimp only [Pt.U, Pt.locs, Pt.cells, Pt.slots] at X' e1 e2 h1 h2 h3 st hcl
    subst h1; subst h2; subst h3
    exact Or.inr ⟨q, (T.setVm vm₁).calling g' mk (Value.ref b :: As).toArray, t, U', L, E, ce, hT, X', hL, e1, e2, hq, hce, hcv, vx_cls hW₁ hcl, st⟩
end VXIB
/-! ===== END ===== -/
/-! ===== BEGIN a private constructor of a nest mate that throws ===== -/
section VXIC
variable {p : Program} {l : Launch} {e : Env} {R : Room} {s : State} {m : MethodId} {args : Array Value} {below : List Frame} {meth : Method} {c : Code} {T : State} {locs : List Loc} {cells slots : Nat}
theorem vx_callIN (X : Stand p l e R s m args below meth c T locs cells slots) (hexec : p.tables.exec = Jvm.exec) {own : String} {index : Nat} {host : String} {y : MethodName} {bytes : ByteArray} {maxL : Nat}
    (hown : s.vm.findClass own = some m.cls) (hy1 : y.name = "<init>") (hlink : (Cond.methodLinkNest own index y host).before args s = true) (hinst : (Cond.instanceMethod y).before args s = true)
    (hcode : (Cond.code y bytes maxL none).before args s = true) (hy : y.cls ≠ "java/lang/invoke/MethodHandle" ∧ y.cls ≠ "java/lang/invoke/VarHandle")
    {W9 : Nat} {Pre : Pt → Array Value → Prop} {Post : Pt → Array Value → Option Value → Pt → Prop} {PostX : Pt → Array Value → Addr → Pt → Prop} (hK : vx_Back l R p e below s args y 3 W9 Pre Post PostX)
    {g : JFrame} (hg : g.method = m) (hsize : g.locals.size = c.maxLocals) {a : Addr} {argsL rest : List Value} (hlen : ∀ sig, parseMethodDescriptor y.desc = some sig → argsL.length = sig.parameters.length)
    (hstack : g.stack = argsL.reverse ++ .ref a :: rest) (hW : 2 * g.monitorRoom + (rest.map fun v => v.category).sum ≤ W9) (hdg : decode c.code g.pc = .ok (.invokespecial index, 3))
    (hpre : ∀ vm₁, s.WarmedH vm₁ → Pre ⟨T.setVm vm₁, locs, cells, slots⟩ (Value.ref a :: argsL).toArray) :
    (∃ (v : Option Value) (vm₁ : Vm) (B : Pt), s.WarmedH vm₁ ∧ Stand p l e R s m args below meth c B.U B.locs B.cells B.slots ∧ Post ⟨T.setVm vm₁, locs, cells, slots⟩ (Value.ref a :: argsL).toArray v B ∧
      ∀ target, Steps p.tables e below (B.U.setTop { g with pc := g.pc + 3, stack := v.toList ++ rest }) target → Steps p.tables e below (T.setTop g) target) ∨
    (∃ (q : Addr) (vm₁ : Vm) (B : Pt), s.WarmedH vm₁ ∧ Stand p l e R s m args below meth c B.U B.locs B.cells B.slots ∧ PostX ⟨T.setVm vm₁, locs, cells, slots⟩ (Value.ref a :: argsL).toArray q B ∧
      Steps p.tables e below (T.setTop g) ((B.U.setTop { g with stack := rest }).pushFrame (.throwing q))) := by
  subst hg
  have hpl : e.platform.magicAccessors = ({} : Platform).magicAccessors := by rw [X.admits.platform]
  obtain ⟨mk, methM, cM, kP, vm₁, hnamed, hmethM, hcodeM, -, hlocalsM, -, hkP, -, hW₁, hstep₁⟩ := Steps.initColdArgsNest (e := e) X.here hexec X.warmed hpl hown hy1 hy hlink hinst hcode (f := g) rfl hlen hstack hdg
  have X₁ := X.noted hW₁
  rcases hK g.method meth c ⟨T.setVm vm₁, locs, cells, slots⟩ { g with stack := rest } (.invokespecial index) mk (Value.ref a :: argsL).toArray X₁ rfl hsize hdg hW (X₁.named hnamed) (hpre vm₁ X₁.warmed) with ⟨v, B, X', hpost, hsteps⟩ | ⟨q, B, X', hpost, hsteps⟩
  · exact Or.inl ⟨v, vm₁, B, X₁.warmed, X', hpost, fun target h => hstep₁ _ fun acts => by rw [doInvoke_state]; exact hsteps.trans h⟩
  · exact Or.inr ⟨q, vm₁, B, X₁.warmed, X', hpost, hstep₁ _ fun acts => by rw [doInvoke_state]; exact hsteps⟩
end VXIC
section VXID
variable {p : Program} {l : Launch} {e : Env} {R : Room} {s : State} {m : MethodId} {args : Array Value} {below : List Frame} {meth : Method} {c : Code} {H : Heap} {locs : List Loc} {cells slots : Nat}
theorem vx_runIN {y : MethodName} {bytes cc : ByteArray} {maxL nL mc ms n index : Nat} {ws : List Cond} {rm : Room} {Pc : Array Value → State → Prop} {Qc : Array Value → State → Outcome → State → Prop} {XC : String → State → State → Prop} {free : Addr → Prop} {Ts : List Cond} {own host : String} {b : Addr} {As rest : List Value} {g : JFrame}
    (S : CallFix p m c cc nL s args Ts own) (hM : vx_Met l y ws rm Pc Qc XC mc ms free) (cw : va_CN R s args own index y host bytes maxL none ws rm mc ms n ∧ y.name = "<init>" ∧ (Cond.instanceMethod y).before args s = true) (hp : PreS s H Pc (.ref b :: As))
    (hg : g.method = m) (hn : As.length = n) (hsize : g.locals.size = nL) (hstack : g.stack = As.reverse ++ .ref b :: rest) (hW : 2 * g.monitorRoom + (rest.map fun v => v.category).sum ≤ 8) (hdg : decode cc g.pc = .ok (.invokespecial index, 3)) (hf : cells + mc ≤ R.cells ∧ slots + ms ≤ R.slots) :
    vx_Run p l e R s m args below meth c H locs cells slots mc ms g rest (Qc (Value.ref b :: As).toArray) XC free := by
  obtain ⟨⟨⟨hrc, hrs, hfr, hlo, hws, hcw⟩, hcode, hini, hy, hlen, hl⟩, hx1, hx2⟩ := cw
  have hK : vx_Back l R p e below s args y 3 8 (PreOf R mc ms Pc) (PostOf Qc mc ms free) (vx_Post XC mc ms free) := vx_back (bytes := bytes) (maxL := maxL) (ret := none) hM hp.1 hrc hrs hfr hlo hws hcw (fun a' U hW => word_at hW (Or.inl (by first | rfl | simp [Cond.onTables, Cond.keeps, Cond.steady])) hini)
  obtain ⟨hx, hb, hml, ho, -⟩ := S
  have hPc := hp.2
  intro T hT X
  rcases vx_callIN X hx (bytes := bytes) (maxL := maxL) ho hx1 hl hx2 hcode hy hK hg (hsize.trans hml.symm) (a := b) (argsL := As) (rest := rest) (fun sig h => hn.trans (hlen sig h)) hstack hW (by rw [hb]; exact hdg)
    (fun vm₁ hW₁ => ⟨hf.1, hf.2, hPc (T.setVm vm₁) hT hW₁⟩) with ⟨v, vm₁, ⟨U', l2, c2, s2⟩, hW₁, X', ⟨g', mk, t, L, e1, e2, hq, h1, hL, h2, h3⟩, st⟩ | ⟨q, vm₁, ⟨U', l2, c2, s2⟩, hW₁, X', ⟨g', mk, t, L, E, ce, e1, e2, hq, hce, hcv, hcl, h1, hL, h2, h3⟩, st⟩
  · dsimp only [Pt.U, Pt.locs, Pt.cells, Pt.slots] at X' e1 e2 h1 h2 h3 st
    subst h1; subst h2; subst h3
    exact Or.inl ⟨v, (T.setVm vm₁).calling g' mk (Value.ref b :: As).toArray, t, U', L, hT, X', hL, e1, e2, hq, st⟩
  · dsimp only [Pt.U, Pt.locs, Pt.cells, Pt.slots] at X' e1 e2 h1 h2 h3 st hcl
    subst h1; subst h2; subst h3
    exact Or.inr ⟨q, (T.setVm vm₁).calling g' mk (Value.ref b :: As).toArray, t, U', L, E, ce, hT, X', hL, e1, e2, hq, hce, hcv, vx_cls hW₁ hcl, st⟩
end VXID
/-! ===== END ===== -/
/-! ===== BEGIN a method of a class above, found by the receiver, that may throw (follows va_callVU, va_runU of this kit) ===== -/
section
variable {p : Program} {l : Launch} {e : Env} {R : Room} {s : State} {m : MethodId} {args : Array Value} {below : List Frame} {meth : Method} {c : Code} {H : Heap} {locs : List Loc} {cells slots : Nat}
theorem vx_callVU {T : State} {locs : List Loc} {cells slots : Nat} (X : Stand p l e R s m args below meth c T locs cells slots) (hexec : p.tables.exec = Jvm.exec) {own C owner : String} {index : Nat} {x y : MethodName} {bytes : ByteArray} {maxL : Nat} {ret : Option FieldType}
    (hown : s.vm.findClass own = some m.cls) (hlink : (Cond.methodLink own index x).before args s = true) (hsame : (Cond.sameMethod x.cls owner x.name x.desc).before args s = true)
    (hd0 : va_Decl s ⟨owner, x.name, x.desc⟩) (howner : owner ≠ "java/lang/invoke/MethodHandle" ∧ owner ≠ "java/lang/invoke/VarHandle")
    (hsel : (Cond.selects C x y).before args s = true) (hinst : (Cond.instanceMethod y).before args s = true) (hcode : (Cond.code y bytes maxL ret).before args s = true)
    {W : Nat} {Pre : Pt → Array Value → Prop} {Post : Pt → Array Value → Option Value → Pt → Prop} {PostX : Pt → Array Value → Addr → Pt → Prop} (hK : vx_Back l R p e below s args y 3 W Pre Post PostX)
    {b : Addr} {cellB : Cell} (hcell : T.heap[b]? = some cellB) (hobj : cellB.vm.isStatics = false) (hcls : s.vm.findClass C = some cellB.cls)
    {g : JFrame} (hg : g.method = m) (hsize : g.locals.size = c.maxLocals) {argsL rest : List Value} (hlen : ∀ sig, parseMethodDescriptor x.desc = some sig → argsL.length = sig.parameters.length)
    (hstack : g.stack = argsL.reverse ++ .ref b :: rest) (hW : 2 * g.monitorRoom + (rest.map fun v => v.category).sum ≤ W) (hdg : decode c.code g.pc = .ok (.invokevirtual index, 3))
    (hpre : ∀ vm₁, s.WarmedH vm₁ → Pre ⟨T.setVm vm₁, locs, cells, slots⟩ (Value.ref b :: argsL).toArray) :
    (∃ (v : Option Value) (vm₁ : Vm) (B : Pt), s.WarmedH vm₁ ∧ Stand p l e R s m args below meth c B.U B.locs B.cells B.slots ∧ Post ⟨T.setVm vm₁, locs, cells, slots⟩ (Value.ref b :: argsL).toArray v B ∧
      ∀ target, Steps p.tables e below (B.U.setTop { g with pc := g.pc + 3, stack := v.toList ++ rest }) target → Steps p.tables e below (T.setTop g) target) ∨
    (∃ (q : Addr) (vm₁ : Vm) (B : Pt), s.WarmedH vm₁ ∧ Stand p l e R s m args below meth c B.U B.locs B.cells B.slots ∧ PostX ⟨T.setVm vm₁, locs, cells, slots⟩ (Value.ref b :: argsL).toArray q B ∧
      Steps p.tables e below (T.setTop g) ((B.U.setTop { g with stack := rest }).pushFrame (.throwing q))) := by
  obtain ⟨r0, r, hn, hrm, hstR, hsigR⟩ := hd0
  obtain ⟨cn, ck, r1, hcn, hck, hni, hf, hn1⟩ := Cond.sameMethod_found hsame
  cases hn.symm.trans hn1
  obtain ⟨mk, methM, hnamed, hmethM, -, habM⟩ := Cond.instanceMethod_spec hinst
  obtain ⟨c2, r2, m2, q1, q2, q3, q4, kP, hkP, hkPi⟩ := Cond.selects_spec hsel
  cases hcls.symm.trans q1
  cases hf.symm.trans q2
  cases hnamed.symm.trans q3
  have hselP : selectMethod e.platform s.vm cellB.cls r0 = .method mk := by rw [Launch.admits_selectMethod X.admits]; exact q4
  obtain ⟨vm₁, X₁, hstep₁⟩ := X.invokevirtualUp hexec hown hlink hsame howner hn hrm hstR (a := b) (cell := cellB) hcell
    (fun z h => by rw [h] at hobj; cases hobj) hselP hmethM habM hkP hkPi (g := g) hg (argsL := argsL) (rest := rest) (hlen _ hsigR) hstack hdg
  rcases hK m meth c ⟨T.setVm vm₁, locs, cells, slots⟩ { g with stack := rest } (.invokevirtual index) mk (Value.ref b :: argsL).toArray X₁ hg hsize hdg hW (X₁.named hnamed) (hpre vm₁ X₁.warmed) with ⟨v, B, X', hpost, hsteps⟩ | ⟨q, B, X', hpost, hsteps⟩
  · exact Or.inl ⟨v, vm₁, B, X₁.warmed, X', hpost, fun target h => hstep₁ _ fun acts => by rw [doInvoke_state]; exact hsteps.trans h⟩
  · exact Or.inr ⟨q, vm₁, B, X₁.warmed, X', hpost, hstep₁ _ fun acts => by rw [doInvoke_state]; exact hsteps⟩
theorem vx_runU {x y : MethodName} {bytes cc : ByteArray} {maxL nL mc ms n index : Nat} {ret : Option FieldType} {ws : List Cond} {rm : Room} {Pc : Array Value → State → Prop} {Qc : Array Value → State → Outcome → State → Prop} {XC : String → State → State → Prop} {free : Addr → Prop} {Ts : List Cond} {own C owner : String} {b : Addr} {As rest : List Value} {g : JFrame}
    (S : CallFix p m c cc nL s args Ts own) (hM : vx_Met l y ws rm Pc Qc XC mc ms free) (cw : va_CU R s args own C owner index x y bytes maxL ret ws rm mc ms n) (hp : PreV s H C b Pc As)
    (hg : g.method = m) (hn : As.length = n) (hsize : g.locals.size = nL) (hstack : g.stack = As.reverse ++ .ref b :: rest) (hW : 2 * g.monitorRoom + (rest.map fun v => v.category).sum ≤ 8) (hdg : decode cc g.pc = .ok (.invokevirtual index, 3)) (hf : cells + mc ≤ R.cells ∧ slots + ms ≤ R.slots) :
    vx_Run p l e R s m args below meth c H locs cells slots mc ms g rest (Qc (Value.ref b :: As).toArray) XC free := by
  obtain ⟨hrc, hrs, hfr, hlo, hws, hcw⟩ := cw.back
  have hini := cw.init
  have hK : vx_Back l R p e below s args y 3 8 (PreOf R mc ms Pc) (PostOf Qc mc ms free) (vx_Post XC mc ms free) := vx_back (bytes := bytes) (maxL := maxL) (ret := ret) hM hp.1 hrc hrs hfr hlo hws hcw (fun a' U hW => word_at hW (Or.inl (by first | rfl | simp [Cond.onTables, Cond.keeps, Cond.steady])) hini)
  obtain ⟨hx, hb, hml, ho, -⟩ := S
  obtain ⟨-, ⟨cellB, hcB, hoB, hclB⟩, hPc⟩ := hp
  intro T hT X
  rcases vx_callVU X hx (C := C) (owner := owner) (bytes := bytes) (maxL := maxL) (ret := ret) ho cw.link cw.same cw.decl cw.notMH cw.sel cw.inst cw.code hK (by rw [hT]; exact hcB) hoB hclB hg (hsize.trans hml.symm) (argsL := As) (rest := rest) (fun sig h => hn.trans (cw.len sig h)) hstack hW (by rw [hb]; exact hdg)
    (fun vm₁ hW₁ => ⟨hf.1, hf.2, hPc (T.setVm vm₁) hT hW₁⟩) with ⟨v, vm₁, ⟨U', l2, c2, s2⟩, hW₁, X', ⟨g', mk, t, L, e1, e2, hq, h1, hL, h2, h3⟩, st⟩ | ⟨q, vm₁, ⟨U', l2, c2, s2⟩, hW₁, X', ⟨g', mk, t, L, E, ce, e1, e2, hq, hce, hcv, hcl, h1, hL, h2, h3⟩, st⟩
  · dsimp only [Pt.U, Pt.locs, Pt.cells, Pt.slots] at X' e1 e2 h1 h2 h3 st
    subst h1; subst h2; subst h3
    exact Or.inl ⟨v, (T.setVm vm₁).calling g' mk (Value.ref b :: As).toArray, t, U', L, hT, X', hL, e1, e2, hq, st⟩
  · dsimp only [Pt.U, Pt.locs, Pt.cells, Pt.slots] at X' e1 e2 h1 h2 h3 st hcl
    subst h1; subst h2; subst h3
    exact Or.inr ⟨q, (T.setVm vm₁).calling g' mk (Value.ref b :: As).toArray, t, U', L, E, ce, hT, X', hL, e1, e2, hq, hce, hcv, vx_cls hW₁ hcl, st⟩
end
/-! ===== END ===== -/
/-! ===== BEGIN super.m(..) that may throw (follows va_callSU, va_runSU) ===== -/
section
variable {p : Program} {l : Launch} {e : Env} {R : Room} {s : State} {m : MethodId} {args : Array Value} {below : List Frame} {meth : Method} {c : Code} {H : Heap} {locs : List Loc} {cells slots : Nat}
theorem vx_callSU {T : State} {locs : List Loc} {cells slots : Nat} (X : Stand p l e R s m args below meth c T locs cells slots) (hexec : p.tables.exec = Jvm.exec) {own : String} {index : Nat} {y : MethodName} {bytes : ByteArray} {maxL : Nat} {ret : Option FieldType}
    (hown : s.vm.findClass own = some m.cls) (hlink : (Cond.methodLink own index y).before args s = true) (hsame : (Cond.sameMethod y.cls y.cls y.name y.desc).before args s = true) (hsup : (Cond.superclass own y.cls).before args s = true)
    (hinst : (Cond.instanceMethod y).before args s = true) (hcode : (Cond.code y bytes maxL ret).before args s = true) (hno : y.name ≠ "<init>")
    {W : Nat} {Pre : Pt → Array Value → Prop} {Post : Pt → Array Value → Option Value → Pt → Prop} {PostX : Pt → Array Value → Addr → Pt → Prop} (hK : vx_Back l R p e below s args y 3 W Pre Post PostX)
    {b : Addr} {cellB : Cell} {kB : Class} (hcell : T.heap[b]? = some cellB) (hobj : cellB.vm.isStatics = false) (hkB : s.vm.classes[cellB.cls]? = some kB)
    {g : JFrame} (hg : g.method = m) (hsize : g.locals.size = c.maxLocals) {argsL rest : List Value} (hlen : ∀ sig, parseMethodDescriptor y.desc = some sig → argsL.length = sig.parameters.length)
    (hstack : g.stack = argsL.reverse ++ .ref b :: rest) (hW : 2 * g.monitorRoom + (rest.map fun v => v.category).sum ≤ W) (hdg : decode c.code g.pc = .ok (.invokespecial index, 3))
    (hpre : ∀ vm₁, s.WarmedH vm₁ → Pre ⟨T.setVm vm₁, locs, cells, slots⟩ (Value.ref b :: argsL).toArray) :
    (∃ (v : Option Value) (vm₁ : Vm) (B : Pt), s.WarmedH vm₁ ∧ Stand p l e R s m args below meth c B.U B.locs B.cells B.slots ∧ Post ⟨T.setVm vm₁, locs, cells, slots⟩ (Value.ref b :: argsL).toArray v B ∧
      ∀ target, Steps p.tables e below (B.U.setTop { g with pc := g.pc + 3, stack := v.toList ++ rest }) target → Steps p.tables e below (T.setTop g) target) ∨
    (∃ (q : Addr) (vm₁ : Vm) (B : Pt), s.WarmedH vm₁ ∧ Stand p l e R s m args below meth c B.U B.locs B.cells B.slots ∧ PostX ⟨T.setVm vm₁, locs, cells, slots⟩ (Value.ref b :: argsL).toArray q B ∧
      Steps p.tables e below (T.setTop g) ((B.U.setTop { g with stack := rest }).pushFrame (.throwing q))) := by
  obtain ⟨mk, methM, hnamed, hmethM, hstM, habM⟩ := Cond.instanceMethod_spec hinst
  obtain ⟨methM', cM, hmethM', -, -, -, -, -, -, hsigM⟩ := Cond.code_spec hnamed hcode
  cases hmethM.symm.trans hmethM'
  obtain ⟨ps, dk, kp, hps, hdk, hkp, hsuper, -, -, hnid⟩ := Cond.superclass_spec hown hsup
  have hn : s.methodNamed? ⟨y.cls, y.name, y.desc⟩ = some mk := hnamed
  have hpm : ps = mk.cls := Option.some.inj (hps.symm.trans (findClass_of_methodNamed hnamed))
  have hsub : s.vm.isSubclass ps mk.cls = true := by rw [hpm]; simp [Vm.isSubclass, Vm.isSubclassAux]
  obtain ⟨vm₁, X₁, hstep₁⟩ := X.invokespecialUp hexec hown hlink hsame hn hmethM hstM habM hno hdk hnid hps hsuper hsub (a := b) (cell := cellB) hcell
    (fun z h => by rw [h] at hobj; cases hobj) hkB (g := g) hg (argsL := argsL) (rest := rest) (hlen _ hsigM) hstack hdg
  rcases hK m meth c ⟨T.setVm vm₁, locs, cells, slots⟩ { g with stack := rest } (.invokespecial index) mk (Value.ref b :: argsL).toArray X₁ hg hsize hdg hW (X₁.named hnamed) (hpre vm₁ X₁.warmed) with ⟨v, B, X', hpost, hsteps⟩ | ⟨q, B, X', hpost, hsteps⟩
  · exact Or.inl ⟨v, vm₁, B, X₁.warmed, X', hpost, fun target h => hstep₁ _ (by rw [doInvoke_state]; exact hsteps.trans h)⟩
  · exact Or.inr ⟨q, vm₁, B, X₁.warmed, X', hpost, hstep₁ _ (by rw [doInvoke_state]; exact hsteps)⟩
theorem vx_runSU {y : MethodName} {bytes cc : ByteArray} {maxL nL mc ms n index : Nat} {ret : Option FieldType} {ws : List Cond} {rm : Room} {Pc : Array Value → State → Prop} {Qc : Array Value → State → Outcome → State → Prop} {XC : String → State → State → Prop} {free : Addr → Prop} {Ts : List Cond} {own C : String} {cC : ClassId} {b : Addr} {As rest : List Value} {g : JFrame}
    (hat : ClassAt s C cC) (S : CallFix p m c cc nL s args Ts own) (hM : vx_Met l y ws rm Pc Qc XC mc ms free) (cw : va_CS R s args own index y bytes maxL ret ws rm mc ms n) (hp : PreV s H C b Pc As)
    (hg : g.method = m) (hn : As.length = n) (hsize : g.locals.size = nL) (hstack : g.stack = As.reverse ++ .ref b :: rest) (hW : 2 * g.monitorRoom + (rest.map fun v => v.category).sum ≤ 8) (hdg : decode cc g.pc = .ok (.invokespecial index, 3)) (hf : cells + mc ≤ R.cells ∧ slots + ms ≤ R.slots) :
    vx_Run p l e R s m args below meth c H locs cells slots mc ms g rest (Qc (Value.ref b :: As).toArray) XC free := by
  obtain ⟨⟨hrc, hrs, hfr, hlo, hws, hcw⟩, hl1, hl2, hl3, hl4, hini, hcode, hno, hlen⟩ := cw
  have hK : vx_Back l R p e below s args y 3 8 (PreOf R mc ms Pc) (PostOf Qc mc ms free) (vx_Post XC mc ms free) := vx_back (bytes := bytes) (maxL := maxL) (ret := ret) hM hp.1 hrc hrs hfr hlo hws hcw (fun a' U hW => word_at hW (Or.inl (by first | rfl | simp [Cond.onTables, Cond.keeps, Cond.steady])) hini)
  obtain ⟨hx, hb, hml, ho, -⟩ := S
  obtain ⟨-, ⟨cellB, hcB, hoB, hclB⟩, hPc⟩ := hp
  obtain ⟨hfc, kB, hkB, -⟩ := hat
  cases hfc.symm.trans hclB
  intro T hT X
  rcases vx_callSU X hx (bytes := bytes) (maxL := maxL) (ret := ret) ho hl1 hl2 hl3 hl4 hcode hno hK (by rw [hT]; exact hcB) hoB hkB hg (hsize.trans hml.symm) (argsL := As) (rest := rest) (fun sig h => hn.trans (hlen sig h)) hstack hW (by rw [hb]; exact hdg)
    (fun vm₁ hW₁ => ⟨hf.1, hf.2, hPc (T.setVm vm₁) hT hW₁⟩) with ⟨v, vm₁, ⟨U', l2, c2, s2⟩, hW₁, X', ⟨g', mk, t, L, e1, e2, hq, h1, hL, h2, h3⟩, st⟩ | ⟨q, vm₁, ⟨U', l2, c2, s2⟩, hW₁, X', ⟨g', mk, t, L, E, ce, e1, e2, hq, hce, hcv, hcl, h1, hL, h2, h3⟩, st⟩
  · dsimp only [Pt.U, Pt.locs, Pt.cells, Pt.slots] at X' e1 e2 h1 h2 h3 st
    subst h1; subst h2; subst h3
    exact Or.inl ⟨v, (T.setVm vm₁).calling g' mk (Value.ref b :: As).toArray, t, U', L, hT, X', hL, e1, e2, hq, st⟩
  · dsimp only [Pt.U, Pt.locs, Pt.cells, Pt.slots] at X' e1 e2 h1 h2 h3 st hcl
    subst h1; subst h2; subst h3
    exact Or.inr ⟨q, (T.setVm vm₁).calling g' mk (Value.ref b :: As).toArray, t, U', L, E, ce, hT, X', hL, e1, e2, hq, hce, hcv, vx_cls hW₁ hcl, st⟩
end
/-! ===== END ===== -/
/-! ===== BEGIN a private method of a nest mate that may throw (follows va_callVN, va_callSN, va_runVN, va_runSN) ===== -/
section
variable {p : Program} {l : Launch} {e : Env} {R : Room} {s : State} {m : MethodId} {args : Array Value} {below : List Frame} {meth : Method} {c : Code} {H : Heap} {locs : List Loc} {cells slots : Nat}
variable {T : State}
theorem vx_callVN (X : Stand p l e R s m args below meth c T locs cells slots) (hexec : p.tables.exec = Jvm.exec) {own C : String} {index : Nat} {host : String} {y : MethodName} {bytes : ByteArray} {maxL : Nat} {ret : Option FieldType}
    (hown : s.vm.findClass own = some m.cls) (hlink : (Cond.methodLinkNest own index y host).before args s = true) (hinst : (Cond.instanceMethod y).before args s = true) (hsel : (Cond.selects C y y).before args s = true)
    (hcode : (Cond.code y bytes maxL ret).before args s = true) (hy : y.cls ≠ "java/lang/invoke/MethodHandle" ∧ y.cls ≠ "java/lang/invoke/VarHandle")
    {W : Nat} {Pre : Pt → Array Value → Prop} {Post : Pt → Array Value → Option Value → Pt → Prop} {PostX : Pt → Array Value → Addr → Pt → Prop} (hK : vx_Back l R p e below s args y 3 W Pre Post PostX)
    {b : Addr} {cellB : Cell} (hcell : T.heap[b]? = some cellB) (hobj : cellB.vm.isStatics = false) (hcls : s.vm.findClass C = some cellB.cls)
    {g : JFrame} (hg : g.method = m) (hsize : g.locals.size = c.maxLocals) {argsL rest : List Value} (hlen : ∀ sig, parseMethodDescriptor y.desc = some sig → argsL.length = sig.parameters.length)
    (hstack : g.stack = argsL.reverse ++ .ref b :: rest) (hW : 2 * g.monitorRoom + (rest.map fun v => v.category).sum ≤ W) (hdg : decode c.code g.pc = .ok (.invokevirtual index, 3))
    (hpre : ∀ vm₁, s.WarmedH vm₁ → Pre ⟨T.setVm vm₁, locs, cells, slots⟩ (Value.ref b :: argsL).toArray) :
    (∃ (v : Option Value) (vm₁ : Vm) (B : Pt), s.WarmedH vm₁ ∧ Stand p l e R s m args below meth c B.U B.locs B.cells B.slots ∧ Post ⟨T.setVm vm₁, locs, cells, slots⟩ (Value.ref b :: argsL).toArray v B ∧
      ∀ target, Steps p.tables e below (B.U.setTop { g with pc := g.pc + 3, stack := v.toList ++ rest }) target → Steps p.tables e below (T.setTop g) target) ∨
    (∃ (q : Addr) (vm₁ : Vm) (B : Pt), s.WarmedH vm₁ ∧ Stand p l e R s m args below meth c B.U B.locs B.cells B.slots ∧ PostX ⟨T.setVm vm₁, locs, cells, slots⟩ (Value.ref b :: argsL).toArray q B ∧
      Steps p.tables e below (T.setTop g) ((B.U.setTop { g with stack := rest }).pushFrame (.throwing q))) := by
  obtain ⟨mk, methM, hnamed, hmethM, hstM, habM⟩ := Cond.instanceMethod_spec hinst
  obtain ⟨methM', cM, hmethM', -, -, -, -, -, -, hsigM⟩ := Cond.code_spec hnamed hcode
  cases hmethM.symm.trans hmethM'
  obtain ⟨c2, r2, m2, q1, q2, q3, q4, kP, hkP, hkPi⟩ := Cond.selects_spec hsel
  cases hcls.symm.trans q1
  cases (State.methodFound?_of_named hnamed hy).symm.trans q2
  cases hnamed.symm.trans q3
  have hselP : selectMethod e.platform s.vm cellB.cls mk = .method mk := by rw [Launch.admits_selectMethod X.admits]; exact q4
  obtain ⟨vm₁, X₁, hstep₁⟩ := X.invokevirtualNest hexec hown hlink hnamed hmethM hstM hkP hkPi hy (a := b) (cell := cellB) hcell
    (fun z h => by rw [h] at hobj; cases hobj) hselP hmethM habM hkP hkPi (g := g) hg (argsL := argsL) (rest := rest) (hlen _ hsigM) hstack hdg
  rcases hK m meth c ⟨T.setVm vm₁, locs, cells, slots⟩ { g with stack := rest } (.invokevirtual index) mk (Value.ref b :: argsL).toArray X₁ hg hsize hdg hW (X₁.named hnamed) (hpre vm₁ X₁.warmed) with ⟨v, B, X', hpost, hsteps⟩ | ⟨q, B, X', hpost, hsteps⟩
  · exact Or.inl ⟨v, vm₁, B, X₁.warmed, X', hpost, fun target h => hstep₁ _ fun acts => by rw [doInvoke_state]; exact hsteps.trans h⟩
  · exact Or.inr ⟨q, vm₁, B, X₁.warmed, X', hpost, hstep₁ _ fun acts => by rw [doInvoke_state]; exact hsteps⟩
theorem vx_callSN (X : Stand p l e R s m args below meth c T locs cells slots) (hexec : p.tables.exec = Jvm.exec) {own : String} {index : Nat} {host : String} {y : MethodName} {bytes : ByteArray} {maxL : Nat} {ret : Option FieldType}
    (hown : s.vm.findClass own = some m.cls) (hlink : (Cond.methodLinkNest own index y host).before args s = true) (hstat : (Cond.static y).before args s = true) (hinit : (Cond.initialized y.cls).before args s = true)
    (hcode : (Cond.code y bytes maxL ret).before args s = true) (hy : y.cls ≠ "java/lang/invoke/MethodHandle" ∧ y.cls ≠ "java/lang/invoke/VarHandle")
    {W : Nat} {Pre : Pt → Array Value → Prop} {Post : Pt → Array Value → Option Value → Pt → Prop} {PostX : Pt → Array Value → Addr → Pt → Prop} (hK : vx_Back l R p e below s args y 3 W Pre Post PostX)
    {g : JFrame} (hg : g.method = m) (hsize : g.locals.size = c.maxLocals) {argsL rest : List Value} (hlen : ∀ sig, parseMethodDescriptor y.desc = some sig → argsL.length = sig.parameters.length)
    (hstack : g.stack = argsL.reverse ++ rest) (hW : 2 * g.monitorRoom + (rest.map fun v => v.category).sum ≤ W) (hdg : decode c.code g.pc = .ok (.invokestatic index, 3))
    (hpre : ∀ vm₁, s.WarmedH vm₁ → Pre ⟨T.setVm vm₁, locs, cells, slots⟩ argsL.toArray) :
    (∃ (v : Option Value) (vm₁ : Vm) (B : Pt), s.WarmedH vm₁ ∧ Stand p l e R s m args below meth c B.U B.locs B.cells B.slots ∧ Post ⟨T.setVm vm₁, locs, cells, slots⟩ argsL.toArray v B ∧
      ∀ target, Steps p.tables e below (B.U.setTop { g with pc := g.pc + 3, stack := v.toList ++ rest }) target → Steps p.tables e below (T.setTop g) target) ∨
    (∃ (q : Addr) (vm₁ : Vm) (B : Pt), s.WarmedH vm₁ ∧ Stand p l e R s m args below meth c B.U B.locs B.cells B.slots ∧ PostX ⟨T.setVm vm₁, locs, cells, slots⟩ argsL.toArray q B ∧
      Steps p.tables e below (T.setTop g) ((B.U.setTop { g with stack := rest }).pushFrame (.throwing q))) := by
  obtain ⟨mk, hnamed⟩ := Cond.code_named hcode
  obtain ⟨methM, cM, hmethM, -, -, -, -, -, -, hsigM⟩ := Cond.code_spec hnamed hcode
  have hstatic : methM.isStatic = true := Cond.static_spec hnamed hmethM hstat
  obtain ⟨kP, hkP, -⟩ := className_of_methodNamed hnamed
  have hinitP : kP.init = .initialized := Cond.initialized_spec (findClass_of_methodNamed hnamed) hkP hinit
  obtain ⟨vm₁, X₁, hstep₁⟩ := X.invokestaticNest hexec hown hlink hnamed hmethM hstatic hkP hinitP hy (g := g) hg (argsL := argsL) (rest := rest) (hlen _ hsigM) hstack hdg
  rcases hK m meth c ⟨T.setVm vm₁, locs, cells, slots⟩ { g with stack := rest } (.invokestatic index) mk argsL.toArray X₁ hg hsize hdg hW (X₁.named hnamed) (hpre vm₁ X₁.warmed) with ⟨v, B, X', hpost, hsteps⟩ | ⟨q, B, X', hpost, hsteps⟩
  · exact Or.inl ⟨v, vm₁, B, X₁.warmed, X', hpost, fun target h => hstep₁ _ fun acts => by rw [doInvoke_state]; exact hsteps.trans h⟩
  · exact Or.inr ⟨q, vm₁, B, X₁.warmed, X', hpost, hstep₁ _ fun acts => by rw [doInvoke_state]; exact hsteps⟩
theorem vx_runVN {y : MethodName} {bytes cc : ByteArray} {maxL nL mc ms n index : Nat} {ret : Option FieldType} {ws : List Cond} {rm : Room} {Pc : Array Value → State → Prop} {Qc : Array Value → State → Outcome → State → Prop} {XC : String → State → State → Prop} {free : Addr → Prop} {Ts : List Cond} {own C host : String} {b : Addr} {As rest : List Value} {g : JFrame}
    (S : CallFix p m c cc nL s args Ts own) (hM : vx_Met l y ws rm Pc Qc XC mc ms free) (cw : va_CN R s args own index y host bytes maxL ret ws rm mc ms n ∧ (Cond.instanceMethod y).before args s = true ∧ (Cond.selects C y y).before args s = true) (hp : PreV s H C b Pc As)
    (hg : g.method = m) (hn : As.length = n) (hsize : g.locals.size = nL) (hstack : g.stack = As.reverse ++ .ref b :: rest) (hW : 2 * g.monitorRoom + (rest.map fun v => v.category).sum ≤ 8) (hdg : decode cc g.pc = .ok (.invokevirtual index, 3)) (hf : cells + mc ≤ R.cells ∧ slots + ms ≤ R.slots) :
    vx_Run p l e R s m args below meth c H locs cells slots mc ms g rest (Qc (Value.ref b :: As).toArray) XC free := by
  obtain ⟨⟨⟨hrc, hrs, hfr, hlo, hws, hcw⟩, hcode, hini, hy, hlen, hl⟩, hx1, hx2⟩ := cw
  have hK : vx_Back l R p e below s args y 3 8 (PreOf R mc ms Pc) (PostOf Qc mc ms free) (vx_Post XC mc ms free) := vx_back (bytes := bytes) (maxL := maxL) (ret := ret) hM hp.1 hrc hrs hfr hlo hws hcw (fun a' U hW => word_at hW (Or.inl (by first | rfl | simp [Cond.onTables, Cond.keeps, Cond.steady])) hini)
  obtain ⟨hx, hb, hml, ho, -⟩ := S
  obtain ⟨-, ⟨cellB, hcB, hoB, hclB⟩, hPc⟩ := hp
  intro T hT X
  rcases vx_callVN X hx (C := C) (bytes := bytes) (maxL := maxL) (ret := ret) ho hl hx1 hx2 hcode hy hK (by rw [hT]; exact hcB) hoB hclB hg (hsize.trans hml.symm) (argsL := As) (rest := rest) (fun sig h => hn.trans (hlen sig h)) hstack hW (by rw [hb]; exact hdg)
    (fun vm₁ hW₁ => ⟨hf.1, hf.2, hPc (T.setVm vm₁) hT hW₁⟩) with ⟨v, vm₁, ⟨U', l2, c2, s2⟩, hW₁, X', ⟨g', mk, t, L, e1, e2, hq, h1, hL, h2, h3⟩, st⟩ | ⟨q, vm₁, ⟨U', l2, c2, s2⟩, hW₁, X', ⟨g', mk, t, L, E, ce, e1, e2, hq, hce, hcv, hcl, h1, hL, h2, h3⟩, st⟩
  · dsimp only [Pt.U, Pt.locs, Pt.cells, Pt.slots] at X' e1 e2 h1 h2 h3 st
    subst h1; subst h2; subst h3
    exact Or.inl ⟨v, (T.setVm vm₁).calling g' mk (Value.ref b :: As).toArray, t, U', L, hT, X', hL, e1, e2, hq, st⟩
  · dsimp only [Pt.U, Pt.locs, Pt.cells, Pt.slots] at X' e1 e2 h1 h2 h3 st hcl
    subst h1; subst h2; subst h3
    exact Or.inr ⟨q, (T.setVm vm₁).calling g' mk (Value.ref b :: As).toArray, t, U', L, E, ce, hT, X', hL, e1, e2, hq, hce, hcv, vx_cls hW₁ hcl, st⟩
theorem vx_runSN {y : MethodName} {bytes cc : ByteArray} {maxL nL mc ms n index : Nat} {ret : Option FieldType} {ws : List Cond} {rm : Room} {Pc : Array Value → State → Prop} {Qc : Array Value → State → Outcome → State → Prop} {XC : String → State → State → Prop} {free : Addr → Prop} {Ts : List Cond} {own host : String} {As rest : List Value} {g : JFrame}
    (S : CallFix p m c cc nL s args Ts own) (hM : vx_Met l y ws rm Pc Qc XC mc ms free) (cw : va_CN R s args own index y host bytes maxL ret ws rm mc ms n ∧ (Cond.static y).before args s = true ∧ True) (hp : PreS s H Pc As)
    (hg : g.method = m) (hn : As.length = n) (hsize : g.locals.size = nL) (hstack : g.stack = As.reverse ++ rest) (hW : 2 * g.monitorRoom + (rest.map fun v => v.category).sum ≤ 8) (hdg : decode cc g.pc = .ok (.invokestatic index, 3)) (hf : cells + mc ≤ R.cells ∧ slots + ms ≤ R.slots) :
    vx_Run p l e R s m args below meth c H locs cells slots mc ms g rest (Qc As.toArray) XC free := by
  obtain ⟨⟨⟨hrc, hrs, hfr, hlo, hws, hcw⟩, hcode, hini, hy, hlen, hl⟩, hx1, hx2⟩ := cw
  have hK : vx_Back l R p e below s args y 3 8 (PreOf R mc ms Pc) (PostOf Qc mc ms free) (vx_Post XC mc ms free) := vx_back (bytes := bytes) (maxL := maxL) (ret := ret) hM hp.1 hrc hrs hfr hlo hws hcw (fun a' U hW => word_at hW (Or.inl (by first | rfl | simp [Cond.onTables, Cond.keeps, Cond.steady])) hini)
  obtain ⟨hx, hb, hml, ho, -⟩ := S
  have hPc := hp.2
  intro T hT X
  rcases vx_callSN X hx (bytes := bytes) (maxL := maxL) (ret := ret) ho hl hx1 hini hcode hy hK hg (hsize.trans hml.symm) (argsL := As) (rest := rest) (fun sig h => hn.trans (hlen sig h)) hstack hW (by rw [hb]; exact hdg)
    (fun vm₁ hW₁ => ⟨hf.1, hf.2, hPc (T.setVm vm₁) hT hW₁⟩) with ⟨v, vm₁, ⟨U', l2, c2, s2⟩, hW₁, X', ⟨g', mk, t, L, e1, e2, hq, h1, hL, h2, h3⟩, st⟩ | ⟨q, vm₁, ⟨U', l2, c2, s2⟩, hW₁, X', ⟨g', mk, t, L, E, ce, e1, e2, hq, hce, hcv, hcl, h1, hL, h2, h3⟩, st⟩
  · dsimp only [Pt.U, Pt.locs, Pt.cells, Pt.slots] at X' e1 e2 h1 h2 h3 st
    subst h1; subst h2; subst h3
    exact Or.inl ⟨v, (T.setVm vm₁).calling g' mk As.toArray, t, U', L, hT, X', hL, e1, e2, hq, st⟩
  · dsimp only [Pt.U, Pt.locs, Pt.cells, Pt.slots] at X' e1 e2 h1 h2 h3 st hcl
    subst h1; subst h2; subst h3
    exact Or.inr ⟨q, (T.setVm vm₁).calling g' mk As.toArray, t, U', L, E, ce, hT, X', hL, e1, e2, hq, hce, hcv, vx_cls hW₁ hcl, st⟩
end
/-! ===== END ===== -/
/-! ===== BEGIN calls by an interface of methods that may throw (vx_callIF, vx_runF follow va_callIF, va_runF of this kit) ===== -/
section
variable {p : Program} {l : Launch} {e : Env} {R : Room} {s : State} {m : MethodId} {args : Array Value} {below : List Frame} {meth : Method} {c : Code} {H : Heap} {locs : List Loc} {cells slots : Nat} {Q : State → Prop}
variable {mc ms : Nat} {free : Addr → Prop} {A0 A1 : Nat → Prop} {H0 : Heap} {a : Array Value} {pc : Nat} {ls : Array Slot} {st0 rest : List Value}
def vx_Run5 (p : Program) (l : Launch) (e : Env) (R : Room) (s : State) (m : MethodId) (args : Array Value) (below : List Frame) (meth : Method) (c : Code) (H : Heap) (locs : List Loc) (cells slots mc ms : Nat) (g : JFrame) (rest : List Value) (Qa : State → Outcome → State → Prop) (XC : String → State → State → Prop) (free : Addr → Prop) : Prop :=
  ∀ T : State, T.heap = H → Stand p l e R s m args below meth c T locs cells slots →
    (∃ (v : Option Value) (st₀ t T' : State) (L : List Loc), st₀.heap = H ∧ Stand p l e R s m args below meth c T' (locs ++ L) (cells + mc) (slots + ms) ∧ (∀ q ∈ L, free q.base) ∧ T'.heap = t.heap ∧ T'.vm = t.vm ∧ Qa st₀ (.returned v) t ∧
      Goes p e below T g T' { g with pc := g.pc + 5, stack := v.toList ++ rest }) ∨
    (∃ (q : Addr) (st₀ t T' : State) (L : List Loc) (E : String) (ce : Cell), st₀.heap = H ∧ Stand p l e R s m args below meth c T' (locs ++ L) (cells + mc) (slots + ms) ∧ (∀ z ∈ L, free z.base) ∧ T'.heap = t.heap ∧ T'.vm = t.vm ∧ XC E st₀ t ∧ t.heap[q]? = some ce ∧ ce.vm = .none ∧ s.vm.findClass E = some ce.cls ∧
      Steps p.tables e below (T.setTop g) ((T'.setTop { g with stack := rest }).pushFrame (.throwing q)))
theorem vx_callIF {T : State} (X : Stand p l e R s m args below meth c T locs cells slots) (hexec : p.tables.exec = Jvm.exec) {own C : String} {index count : Nat} {x y : MethodName} {bytes : ByteArray} {maxL : Nat} {ret : Option FieldType}
    (hown : s.vm.findClass own = some m.cls) (hlink : (Cond.methodLink own index x).before args s = true) (hdecl : (Cond.declares x).before args s = true) (hface : (Cond.interfaceMethod x.cls x.cls x.name x.desc).before args s = true)
    (hsel : (Cond.selects C x y).before args s = true) (hinst : (Cond.instanceMethod y).before args s = true) (hpub : (Cond.publicMethod y).before args s = true) (hunh : (Cond.unhidden C x.name x.desc).before args s = true)
    (hcast : (Cond.castable C x.cls).before args s = true) (hcode : (Cond.code y bytes maxL ret).before args s = true) (hx : x.cls ≠ "java/lang/invoke/MethodHandle" ∧ x.cls ≠ "java/lang/invoke/VarHandle")
    {W9 : Nat} {Pre : Pt → Array Value → Prop} {Post : Pt → Array Value → Option Value → Pt → Prop} {PostX : Pt → Array Value → Addr → Pt → Prop} (hK : vx_Back l R p e below s args y 5 W9 Pre Post PostX)
    {b : Addr} {cellB : Cell} {kB : Class} (hcell : T.heap[b]? = some cellB) (hobj : cellB.vm.isStatics = false) (hcls : s.vm.findClass C = some cellB.cls) (hkB : s.vm.classes[cellB.cls]? = some kB)
    {g : JFrame} (hg : g.method = m) (hsize : g.locals.size = c.maxLocals) {argsL rest : List Value} (hlen : ∀ sig, parseMethodDescriptor x.desc = some sig → argsL.length = sig.parameters.length)
    (hstack : g.stack = argsL.reverse ++ .ref b :: rest) (hW : 2 * g.monitorRoom + (rest.map fun v => v.category).sum ≤ W9) (hdg : decode c.code g.pc = .ok (.invokeinterface index count, 5))
    (hpre : ∀ vm₁, s.WarmedH vm₁ → Pre ⟨T.setVm vm₁, locs, cells, slots⟩ (Value.ref b :: argsL).toArray) :
    (∃ (v : Option Value) (vm₁ : Vm) (B : Pt), s.WarmedH vm₁ ∧ Stand p l e R s m args below meth c B.U B.locs B.cells B.slots ∧ Post ⟨T.setVm vm₁, locs, cells, slots⟩ (Value.ref b :: argsL).toArray v B ∧
      ∀ target, Steps p.tables e below (B.U.setTop { g with pc := g.pc + 5, stack := v.toList ++ rest }) target → Steps p.tables e below (T.setTop g) target) ∨
    (∃ (q : Addr) (vm₁ : Vm) (B : Pt), s.WarmedH vm₁ ∧ Stand p l e R s m args below meth c B.U B.locs B.cells B.slots ∧ PostX ⟨T.setVm vm₁, locs, cells, slots⟩ (Value.ref b :: argsL).toArray q B ∧
      Steps p.tables e below (T.setTop g) ((B.U.setTop { g with stack := rest }).pushFrame (.throwing q))) := by
  obtain ⟨r0, r, hn, hrm, hstR, hsigR⟩ := Cond.declares_spec hdecl
  obtain ⟨cL, kL, r1, hcL, hkL, hiL, hfoundL, hn1⟩ := Cond.interfaceMethod_spec hface
  cases hn.symm.trans hn1
  have hr0cls : r0.cls = cL := Option.some.inj ((findClass_of_methodNamed hn).symm.trans hcL)
  obtain ⟨hnameR, hdescR⟩ := name_of_methodNamed hn hrm
  obtain ⟨mk, methM, hnamed, hmethM, -, habM⟩ := Cond.instanceMethod_spec hinst
  obtain ⟨c2, r2, m2, q1, q2, q3, q4, -⟩ := Cond.selects_spec hsel
  cases hcls.symm.trans q1
  cases hfoundL.symm.trans q2
  cases hnamed.symm.trans q3
  have hselP : selectMethod e.platform s.vm cellB.cls r0 = .method mk := by rw [Launch.admits_selectMethod X.admits]; exact q4
  have hpubM : hasFlag methM.accessFlags Acc.public_ = true := Cond.publicMethod_spec hnamed hmethM hpub
  have hway : ((cellB.cls :: s.vm.superclasses cellB.cls).any fun k => (declaredIn s.vm r.name r.desc k).any fun (_, z) => z.isPrivate || z.isStatic) = false := by
    rw [hnameR, hdescR]; exact Cond.unhidden_spec hcls hunh
  obtain ⟨c3, t3, w1, w2, w3⟩ := Cond.castable_spec hcast
  cases hcls.symm.trans w1
  cases hcL.symm.trans w2
  obtain ⟨vm₁, X₁, hstep₁⟩ := X.invokeinterface hexec hown hlink hn hrm hstR (by rw [hr0cls]; exact hkL) hiL hx (a := b) (cell := cellB) (kcell := kB) hcell
    (fun z h => by rw [h] at hobj; cases hobj) hkB (by rw [hr0cls]; exact w3) hselP hmethM hway hpubM habM (g := g) hg (argsL := argsL) (rest := rest) (hlen _ hsigR) hstack hdg
  rcases hK m meth c ⟨T.setVm vm₁, locs, cells, slots⟩ { g with stack := rest } (.invokeinterface index count) mk (Value.ref b :: argsL).toArray X₁ hg hsize hdg hW (X₁.named hnamed) (hpre vm₁ X₁.warmed) with ⟨v, B, X', hpost, hsteps⟩ | ⟨q, B, X', hpost, hsteps⟩
  · exact Or.inl ⟨v, vm₁, B, X₁.warmed, X', hpost, fun target h => hstep₁ _ fun acts => by rw [doInvoke_state]; exact hsteps.trans h⟩
  · exact Or.inr ⟨q, vm₁, B, X₁.warmed, X', hpost, hstep₁ _ fun acts => by rw [doInvoke_state]; exact hsteps⟩
theorem vx_runF {x y : MethodName} {bytes cc : ByteArray} {maxL nL mc ms n index count : Nat} {ret : Option FieldType} {ws : List Cond} {rm : Room} {Pc : Array Value → State → Prop} {Qc : Array Value → State → Outcome → State → Prop} {XC : String → State → State → Prop} {free : Addr → Prop} {Ts : List Cond} {own C : String} {cC : ClassId} {b : Addr} {As rest : List Value} {g : JFrame}
    (hat : ClassAt s C cC) (S : CallFix p m c cc nL s args Ts own) (hM : vx_Met l y ws rm Pc Qc XC mc ms free) (cw : va_CI R s args own C index x y bytes maxL ret ws rm mc ms n) (hp : PreV s H C b Pc As)
    (hg : g.method = m) (hn : As.length = n) (hsize : g.locals.size = nL) (hstack : g.stack = As.reverse ++ .ref b :: rest) (hW : 2 * g.monitorRoom + (rest.map fun v => v.category).sum ≤ 8) (hdg : decode cc g.pc = .ok (.invokeinterface index count, 5)) (hf : cells + mc ≤ R.cells ∧ slots + ms ≤ R.slots) :
    vx_Run5 p l e R s m args below meth c H locs cells slots mc ms g rest (Qc (Value.ref b :: As).toArray) XC free := by
  obtain ⟨hrc, hrs, hfr, hlo, hws, hcw⟩ := cw.back
  have hini := cw.init
  have hK : vx_Back l R p e below s args y 5 8 (PreOf R mc ms Pc) (PostOf Qc mc ms free) (vx_Post XC mc ms free) := vx_back (bytes := bytes) (maxL := maxL) (ret := ret) hM hp.1 hrc hrs hfr hlo hws hcw (fun a' U hW => word_at hW (Or.inl (by first | rfl | simp [Cond.onTables, Cond.keeps, Cond.steady])) hini)
  obtain ⟨hx, hb, hml, ho, -⟩ := S
  obtain ⟨-, ⟨cellB, hcB, hoB, hclB⟩, hPc⟩ := hp
  obtain ⟨hfc, kB, hkB, -⟩ := hat
  cases hfc.symm.trans hclB
  intro T hT X
  rcases vx_callIF X hx (C := C) (bytes := bytes) (maxL := maxL) (ret := ret) ho cw.link cw.decl cw.face cw.sel cw.inst cw.pub cw.unh cw.cast cw.code cw.notMH hK (by rw [hT]; exact hcB) hoB hclB hkB hg (hsize.trans hml.symm) (argsL := As) (rest := rest) (fun sig h => hn.trans (cw.len sig h)) hstack hW (by rw [hb]; exact hdg)
    (fun vm₁ hW₁ => ⟨hf.1, hf.2, hPc (T.setVm vm₁) hT hW₁⟩) with ⟨v, vm₁, ⟨U', l2, c2, s2⟩, hW₁, X', ⟨g', mk, t, L, e1, e2, hq, h1, hL, h2, h3⟩, st⟩ | ⟨q, vm₁, ⟨U', l2, c2, s2⟩, hW₁, X', ⟨g', mk, t, L, E, ce, e1, e2, hq, hce, hcv, hcl, h1, hL, h2, h3⟩, st⟩
  · dsimp only [Pt.U, Pt.locs, Pt.cells, Pt.slots] at X' e1 e2 h1 h2 h3 st
    subst h1; subst h2; subst h3
    exact Or.inl ⟨v, (T.setVm vm₁).calling g' mk (Value.ref b :: As).toArray, t, U', L, hT, X', hL, e1, e2, hq, st⟩
  · dsimp only [Pt.U, Pt.locs, Pt.cells, Pt.slots] at X' e1 e2 h1 h2 h3 st hcl
    subst h1; subst h2; subst h3
    exact Or.inr ⟨q, (T.setVm vm₁).calling g' mk (Value.ref b :: As).toArray, t, U', L, E, ce, hT, X', hL, e1, e2, hq, hce, hcv, vx_cls hW₁ hcl, st⟩
theorem vx_callFv {S SX : Type} {post : S → Prop} {px : SX → Prop} {B : S → State → Prop} {BX : String → SX → State → Prop} {AX : Nat → Prop} (hr : vx_Run5 p l e R s m args below meth c H locs cells slots mc ms (F0 m pc ls st0) rest (va_Qv post B A1 a) (vx_X px BX AX) free) (hS : va_S A0 H0 H locs) (hA : ∀ q, q < H.size → A1 q → A0 q) (hf : ∀ q, free q → A0 q) (hAX : ∀ q, q < H.size → AX q → A0 q)
    (kx : ∀ (E : String) (ce : Cell) (q9 : Addr) (u : SX) (t : State) (H1 : Heap) (locs1 : List Loc), t.heap = H1 → s.vm.Alike t.vm → px u → BX E u t → H.size ≤ H1.size → (∀ q : Nat, q < H.size → ¬ AX q → H1[q]? = H[q]?) → va_S A0 H0 H1 locs1 → H1[q9]? = some ce → ce.vm = .none → s.vm.findClass E = some ce.cls → vx_W p l e R s m args below meth c H1 locs1 (cells + mc) (slots + ms) Q (F0 m pc ls rest) q9)
    (kk : ∀ (u : S) (t : State) (H1 : Heap) (locs1 : List Loc), t.heap = H1 → s.vm.Alike t.vm → post u → B u t → H.size ≤ H1.size → (∀ q : Nat, q < H.size → ¬ A1 q → H1[q]? = H[q]?) → va_S A0 H0 H1 locs1 → W p l e R s m args below meth c H1 locs1 (cells + mc) (slots + ms) Q (F0 m (pc + 5) ls (rest))) : W p l e R s m args below meth c H locs cells slots Q (F0 m pc ls st0) := by
  intro T hT X
  rcases hr T hT X with ⟨v, st₀, t, T', L, h0, X', hL, e1, e2, ⟨⟨u, hv, hp, hb⟩, hF⟩, st⟩ | ⟨q, st₀, t, T', L, E, ce, h0, X', hL, e1, e2, ⟨u, hp, hb, hF⟩, hce, hcv, hcl, st⟩
  · cases hv
    obtain ⟨k1, k2, k3⟩ := vx_keep h0 e1 hS hA hf hL hF
    obtain ⟨t2, a1, b1⟩ := kk u t T'.heap (locs ++ L) e1.symm (by rw [← e2]; exact X'.warmed.alike) hp hb k1 k2 k3 T' rfl X'
    exact ⟨t2, st t2 a1, b1⟩
  · obtain ⟨k1, k2, k3⟩ := vx_keep h0 e1 hS hAX hf hL hF
    obtain ⟨t2, a1, b1⟩ := kx E ce q u t T'.heap (locs ++ L) e1.symm (by rw [← e2]; exact X'.warmed.alike) hp hb k1 k2 k3 (by rw [e1]; exact hce) hcv hcl T' rfl X'
    exact ⟨t2, st.trans a1, b1⟩
theorem vx_callFi {S SX : Type} {post : Int32 → S → Prop} {px : SX → Prop} {B : S → State → Prop} {BX : String → SX → State → Prop} {AX : Nat → Prop} (hr : vx_Run5 p l e R s m args below meth c H locs cells slots mc ms (F0 m pc ls st0) rest (va_Qi post B A1 a) (vx_X px BX AX) free) (hS : va_S A0 H0 H locs) (hA : ∀ q, q < H.size → A1 q → A0 q) (hf : ∀ q, free q → A0 q) (hAX : ∀ q, q < H.size → AX q → A0 q)
    (kx : ∀ (E : String) (ce : Cell) (q9 : Addr) (u : SX) (t : State) (H1 : Heap) (locs1 : List Loc), t.heap = H1 → s.vm.Alike t.vm → px u → BX E u t → H.size ≤ H1.size → (∀ q : Nat, q < H.size → ¬ AX q → H1[q]? = H[q]?) → va_S A0 H0 H1 locs1 → H1[q9]? = some ce → ce.vm = .none → s.vm.findClass E = some ce.cls → vx_W p l e R s m args below meth c H1 locs1 (cells + mc) (slots + ms) Q (F0 m pc ls rest) q9)
    (kk : ∀ (r : Int32) (u : S) (t : State) (H1 : Heap) (locs1 : List Loc), t.heap = H1 → s.vm.Alike t.vm → post r u → B u t → H.size ≤ H1.size → (∀ q : Nat, q < H.size → ¬ A1 q → H1[q]? = H[q]?) → va_S A0 H0 H1 locs1 → W p l e R s m args below meth c H1 locs1 (cells + mc) (slots + ms) Q (F0 m (pc + 5) ls (.int r :: rest))) : W p l e R s m args below meth c H locs cells slots Q (F0 m pc ls st0) := by
  intro T hT X
  rcases hr T hT X with ⟨v, st₀, t, T', L, h0, X', hL, e1, e2, ⟨⟨r, u, hv, hp, hb⟩, hF⟩, st⟩ | ⟨q, st₀, t, T', L, E, ce, h0, X', hL, e1, e2, ⟨u, hp, hb, hF⟩, hce, hcv, hcl, st⟩
  · cases hv
    obtain ⟨k1, k2, k3⟩ := vx_keep h0 e1 hS hA hf hL hF
    obtain ⟨t2, a1, b1⟩ := kk r u t T'.heap (locs ++ L) e1.symm (by rw [← e2]; exact X'.warmed.alike) hp hb k1 k2 k3 T' rfl X'
    exact ⟨t2, st t2 a1, b1⟩
  · obtain ⟨k1, k2, k3⟩ := vx_keep h0 e1 hS hAX hf hL hF
    obtain ⟨t2, a1, b1⟩ := kx E ce q u t T'.heap (locs ++ L) e1.symm (by rw [← e2]; exact X'.warmed.alike) hp hb k1 k2 k3 (by rw [e1]; exact hce) hcv hcl T' rfl X'
    exact ⟨t2, st.trans a1, b1⟩
theorem vx_callFl {S SX : Type} {post : Int64 → S → Prop} {px : SX → Prop} {B : S → State → Prop} {BX : String → SX → State → Prop} {AX : Nat → Prop} (hr : vx_Run5 p l e R s m args below meth c H locs cells slots mc ms (F0 m pc ls st0) rest (va_Ql post B A1 a) (vx_X px BX AX) free) (hS : va_S A0 H0 H locs) (hA : ∀ q, q < H.size → A1 q → A0 q) (hf : ∀ q, free q → A0 q) (hAX : ∀ q, q < H.size → AX q → A0 q)
    (kx : ∀ (E : String) (ce : Cell) (q9 : Addr) (u : SX) (t : State) (H1 : Heap) (locs1 : List Loc), t.heap = H1 → s.vm.Alike t.vm → px u → BX E u t → H.size ≤ H1.size → (∀ q : Nat, q < H.size → ¬ AX q → H1[q]? = H[q]?) → va_S A0 H0 H1 locs1 → H1[q9]? = some ce → ce.vm = .none → s.vm.findClass E = some ce.cls → vx_W p l e R s m args below meth c H1 locs1 (cells + mc) (slots + ms) Q (F0 m pc ls rest) q9)
    (kk : ∀ (r : Int64) (u : S) (t : State) (H1 : Heap) (locs1 : List Loc), t.heap = H1 → s.vm.Alike t.vm → post r u → B u t → H.size ≤ H1.size → (∀ q : Nat, q < H.size → ¬ A1 q → H1[q]? = H[q]?) → va_S A0 H0 H1 locs1 → W p l e R s m args below meth c H1 locs1 (cells + mc) (slots + ms) Q (F0 m (pc + 5) ls (.long r :: rest))) : W p l e R s m args below meth c H locs cells slots Q (F0 m pc ls st0) := by
  intro T hT X
  rcases hr T hT X with ⟨v, st₀, t, T', L, h0, X', hL, e1, e2, ⟨⟨r, u, hv, hp, hb⟩, hF⟩, st⟩ | ⟨q, st₀, t, T', L, E, ce, h0, X', hL, e1, e2, ⟨u, hp, hb, hF⟩, hce, hcv, hcl, st⟩
  · cases hv
    obtain ⟨k1, k2, k3⟩ := vx_keep h0 e1 hS hA hf hL hF
    obtain ⟨t2, a1, b1⟩ := kk r u t T'.heap (locs ++ L) e1.symm (by rw [← e2]; exact X'.warmed.alike) hp hb k1 k2 k3 T' rfl X'
    exact ⟨t2, st t2 a1, b1⟩
  · obtain ⟨k1, k2, k3⟩ := vx_keep h0 e1 hS hAX hf hL hF
    obtain ⟨t2, a1, b1⟩ := kx E ce q u t T'.heap (locs ++ L) e1.symm (by rw [← e2]; exact X'.warmed.alike) hp hb k1 k2 k3 (by rw [e1]; exact hce) hcv hcl T' rfl X'
    exact ⟨t2, st.trans a1, b1⟩
theorem vx_callFf {S SX : Type} {post : UInt32 → S → Prop} {px : SX → Prop} {B : S → State → Prop} {BX : String → SX → State → Prop} {AX : Nat → Prop} (hr : vx_Run5 p l e R s m args below meth c H locs cells slots mc ms (F0 m pc ls st0) rest (va_Qf post B A1 a) (vx_X px BX AX) free) (hS : va_S A0 H0 H locs) (hA : ∀ q, q < H.size → A1 q → A0 q) (hf : ∀ q, free q → A0 q) (hAX : ∀ q, q < H.size → AX q → A0 q)
    (kx : ∀ (E : String) (ce : Cell) (q9 : Addr) (u : SX) (t : State) (H1 : Heap) (locs1 : List Loc), t.heap = H1 → s.vm.Alike t.vm → px u → BX E u t → H.size ≤ H1.size → (∀ q : Nat, q < H.size → ¬ AX q → H1[q]? = H[q]?) → va_S A0 H0 H1 locs1 → H1[q9]? = some ce → ce.vm = .none → s.vm.findClass E = some ce.cls → vx_W p l e R s m args below meth c H1 locs1 (cells + mc) (slots + ms) Q (F0 m pc ls rest) q9)
    (kk : ∀ (r : UInt32) (u : S) (t : State) (H1 : Heap) (locs1 : List Loc), t.heap = H1 → s.vm.Alike t.vm → post r u → B u t → H.size ≤ H1.size → (∀ q : Nat, q < H.size → ¬ A1 q → H1[q]? = H[q]?) → va_S A0 H0 H1 locs1 → W p l e R s m args below meth c H1 locs1 (cells + mc) (slots + ms) Q (F0 m (pc + 5) ls (.float r :: rest))) : W p l e R s m args below meth c H locs cells slots Q (F0 m pc ls st0) := by
  intro T hT X
  rcases hr T hT X with ⟨v, st₀, t, T', L, h0, X', hL, e1, e2, ⟨⟨r, u, hv, hp, hb⟩, hF⟩, st⟩ | ⟨q, st₀, t, T', L, E, ce, h0, X', hL, e1, e2, ⟨u, hp, hb, hF⟩, hce, hcv, hcl, st⟩
  · cases hv
    obtain ⟨k1, k2, k3⟩ := vx_keep h0 e1 hS hA hf hL hF
    obtain ⟨t2, a1, b1⟩ := kk r u t T'.heap (locs ++ L) e1.symm (by rw [← e2]; exact X'.warmed.alike) hp hb k1 k2 k3 T' rfl X'
    exact ⟨t2, st t2 a1, b1⟩
  · obtain ⟨k1, k2, k3⟩ := vx_keep h0 e1 hS hAX hf hL hF
    obtain ⟨t2, a1, b1⟩ := kx E ce q u t T'.heap (locs ++ L) e1.symm (by rw [← e2]; exact X'.warmed.alike) hp hb k1 k2 k3 (by rw [e1]; exact hce) hcv hcl T' rfl X'
    exact ⟨t2, st.trans a1, b1⟩
theorem vx_callFd {S SX : Type} {post : UInt64 → S → Prop} {px : SX → Prop} {B : S → State → Prop} {BX : String → SX → State → Prop} {AX : Nat → Prop} (hr : vx_Run5 p l e R s m args below meth c H locs cells slots mc ms (F0 m pc ls st0) rest (va_Qd post B A1 a) (vx_X px BX AX) free) (hS : va_S A0 H0 H locs) (hA : ∀ q, q < H.size → A1 q → A0 q) (hf : ∀ q, free q → A0 q) (hAX : ∀ q, q < H.size → AX q → A0 q)
    (kx : ∀ (E : String) (ce : Cell) (q9 : Addr) (u : SX) (t : State) (H1 : Heap) (locs1 : List Loc), t.heap = H1 → s.vm.Alike t.vm → px u → BX E u t → H.size ≤ H1.size → (∀ q : Nat, q < H.size → ¬ AX q → H1[q]? = H[q]?) → va_S A0 H0 H1 locs1 → H1[q9]? = some ce → ce.vm = .none → s.vm.findClass E = some ce.cls → vx_W p l e R s m args below meth c H1 locs1 (cells + mc) (slots + ms) Q (F0 m pc ls rest) q9)
    (kk : ∀ (r : UInt64) (u : S) (t : State) (H1 : Heap) (locs1 : List Loc), t.heap = H1 → s.vm.Alike t.vm → post r u → B u t → H.size ≤ H1.size → (∀ q : Nat, q < H.size → ¬ A1 q → H1[q]? = H[q]?) → va_S A0 H0 H1 locs1 → W p l e R s m args below meth c H1 locs1 (cells + mc) (slots + ms) Q (F0 m (pc + 5) ls (.double r :: rest))) : W p l e R s m args below meth c H locs cells slots Q (F0 m pc ls st0) := by
  intro T hT X
  rcases hr T hT X with ⟨v, st₀, t, T', L, h0, X', hL, e1, e2, ⟨⟨r, u, hv, hp, hb⟩, hF⟩, st⟩ | ⟨q, st₀, t, T', L, E, ce, h0, X', hL, e1, e2, ⟨u, hp, hb, hF⟩, hce, hcv, hcl, st⟩
  · cases hv
    obtain ⟨k1, k2, k3⟩ := vx_keep h0 e1 hS hA hf hL hF
    obtain ⟨t2, a1, b1⟩ := kk r u t T'.heap (locs ++ L) e1.symm (by rw [← e2]; exact X'.warmed.alike) hp hb k1 k2 k3 T' rfl X'
    exact ⟨t2, st t2 a1, b1⟩
  · obtain ⟨k1, k2, k3⟩ := vx_keep h0 e1 hS hAX hf hL hF
    obtain ⟨t2, a1, b1⟩ := kx E ce q u t T'.heap (locs ++ L) e1.symm (by rw [← e2]; exact X'.warmed.alike) hp hb k1 k2 k3 (by rw [e1]; exact hce) hcv hcl T' rfl X'
    exact ⟨t2, st.trans a1, b1⟩
end
/-! ===== END ===== -/
/-! ===== BEGIN by an interface, a method with a table of its own that may throw (follows va_callIFW, va_runFW) ===== -/
section
variable {p : Program} {l : Launch} {e : Env} {R : Room} {s : State} {m : MethodId} {args : Array Value} {below : List Frame} {meth : Method} {c : Code} {H : Heap} {locs : List Loc} {cells slots : Nat}
theorem vx_callIFW {T : State} (X : Stand p l e R s m args below meth c T locs cells slots) (hexec : p.tables.exec = Jvm.exec) {own C : String} {index count : Nat} {x y : MethodName} {bytes : ByteArray} {maxL : Nat} {ret : Option FieldType} {hh : List (Nat × Nat × Nat × Nat)}
    (hown : s.vm.findClass own = some m.cls) (hlink : (Cond.methodLink own index x).before args s = true) (hdecl : (Cond.declares x).before args s = true) (hface : (Cond.interfaceMethod x.cls x.cls x.name x.desc).before args s = true)
    (hsel : (Cond.selects C x y).before args s = true) (hinst : (Cond.instanceMethod y).before args s = true) (hpub : (Cond.publicMethod y).before args s = true) (hunh : (Cond.unhidden C x.name x.desc).before args s = true)
    (hcast : (Cond.castable C x.cls).before args s = true) (hcode : (Cond.codeWith y bytes maxL ret hh).before args s = true) (hx : x.cls ≠ "java/lang/invoke/MethodHandle" ∧ x.cls ≠ "java/lang/invoke/VarHandle")
    {W : Nat} {Pre : Pt → Array Value → Prop} {Post : Pt → Array Value → Option Value → Pt → Prop} {PostX : Pt → Array Value → Addr → Pt → Prop} (hK : vx_Back l R p e below s args y 5 W Pre Post PostX)
    {b : Addr} {cellB : Cell} {kB : Class} (hcell : T.heap[b]? = some cellB) (hobj : cellB.vm.isStatics = false) (hcls : s.vm.findClass C = some cellB.cls) (hkB : s.vm.classes[cellB.cls]? = some kB)
    {g : JFrame} (hg : g.method = m) (hsize : g.locals.size = c.maxLocals) {argsL rest : List Value} (hlen : ∀ sig, parseMethodDescriptor x.desc = some sig → argsL.length = sig.parameters.length)
    (hstack : g.stack = argsL.reverse ++ .ref b :: rest) (hW : 2 * g.monitorRoom + (rest.map fun v => v.category).sum ≤ W) (hdg : decode c.code g.pc = .ok (.invokeinterface index count, 5))
    (hpre : ∀ vm₁, s.WarmedH vm₁ → Pre ⟨T.setVm vm₁, locs, cells, slots⟩ (Value.ref b :: argsL).toArray) :
    (∃ (v : Option Value) (vm₁ : Vm) (B : Pt), s.WarmedH vm₁ ∧ Stand p l e R s m args below meth c B.U B.locs B.cells B.slots ∧ Post ⟨T.setVm vm₁, locs, cells, slots⟩ (Value.ref b :: argsL).toArray v B ∧
      ∀ target, Steps p.tables e below (B.U.setTop { g with pc := g.pc + 5, stack := v.toList ++ rest }) target → Steps p.tables e below (T.setTop g) target) ∨
    (∃ (q : Addr) (vm₁ : Vm) (B : Pt), s.WarmedH vm₁ ∧ Stand p l e R s m args below meth c B.U B.locs B.cells B.slots ∧ PostX ⟨T.setVm vm₁, locs, cells, slots⟩ (Value.ref b :: argsL).toArray q B ∧
      Steps p.tables e below (T.setTop g) ((B.U.setTop { g with stack := rest }).pushFrame (.throwing q))) := by
  obtain ⟨r0, r, hn, hrm, hstR, hsigR⟩ := Cond.declares_spec hdecl
  obtain ⟨cL, kL, r1, hcL, hkL, hiL, hfoundL, hn1⟩ := Cond.interfaceMethod_spec hface
  cases hn.symm.trans hn1
  have hr0cls : r0.cls = cL := Option.some.inj ((findClass_of_methodNamed hn).symm.trans hcL)
  obtain ⟨hnameR, hdescR⟩ := name_of_methodNamed hn hrm
  obtain ⟨mk, methM, hnamed, hmethM, -, habM⟩ := Cond.instanceMethod_spec hinst
  obtain ⟨c2, r2, m2, q1, q2, q3, q4, -⟩ := Cond.selects_spec hsel
  cases hcls.symm.trans q1
  cases hfoundL.symm.trans q2
  cases hnamed.symm.trans q3
  have hselP : selectMethod e.platform s.vm cellB.cls r0 = .method mk := by rw [Launch.admits_selectMethod X.admits]; exact q4
  have hpubM : hasFlag methM.accessFlags Acc.public_ = true := Cond.publicMethod_spec hnamed hmethM hpub
  have hway : ((cellB.cls :: s.vm.superclasses cellB.cls).any fun k => (declaredIn s.vm r.name r.desc k).any fun (_, z) => z.isPrivate || z.isStatic) = false := by
    rw [hnameR, hdescR]; exact Cond.unhidden_spec hcls hunh
  obtain ⟨c3, t3, w1, w2, w3⟩ := Cond.castable_spec hcast
  cases hcls.symm.trans w1
  cases hcL.symm.trans w2
  obtain ⟨vm₁, X₁, hstep₁⟩ := X.invokeinterface hexec hown hlink hn hrm hstR (by rw [hr0cls]; exact hkL) hiL hx (a := b) (cell := cellB) (kcell := kB) hcell
    (fun z h => by rw [h] at hobj; cases hobj) hkB (by rw [hr0cls]; exact w3) hselP hmethM hway hpubM habM (g := g) hg (argsL := argsL) (rest := rest) (hlen _ hsigR) hstack hdg
  rcases hK m meth c ⟨T.setVm vm₁, locs, cells, slots⟩ { g with stack := rest } (.invokeinterface index count) mk (Value.ref b :: argsL).toArray X₁ hg hsize hdg hW (X₁.named hnamed) (hpre vm₁ X₁.warmed) with ⟨v, B, X', hpost, hsteps⟩ | ⟨q, B, X', hpost, hsteps⟩
  · exact Or.inl ⟨v, vm₁, B, X₁.warmed, X', hpost, fun target h => hstep₁ _ fun acts => by rw [doInvoke_state]; exact hsteps.trans h⟩
  · exact Or.inr ⟨q, vm₁, B, X₁.warmed, X', hpost, hstep₁ _ fun acts => by rw [doInvoke_state]; exact hsteps⟩
theorem vx_runFW {x y : MethodName} {bytes cc : ByteArray} {maxL nL mc ms n index count : Nat} {ret : Option FieldType} {hh : List (Nat × Nat × Nat × Nat)} {ws : List Cond} {rm : Room} {Pc : Array Value → State → Prop} {Qc : Array Value → State → Outcome → State → Prop} {XC : String → State → State → Prop} {free : Addr → Prop} {Ts : List Cond} {own C : String} {cC : ClassId} {b : Addr} {As rest : List Value} {g : JFrame}
    (hat : ClassAt s C cC) (S : CallFix p m c cc nL s args Ts own) (hM : vx_Met l y ws rm Pc Qc XC mc ms free) (cw : va_CIW R s args own C index x y bytes maxL ret hh ws rm mc ms n) (hp : PreV s H C b Pc As)
    (hg : g.method = m) (hn : As.length = n) (hsize : g.locals.size = nL) (hstack : g.stack = As.reverse ++ .ref b :: rest) (hW : 2 * g.monitorRoom + (rest.map fun v => v.category).sum ≤ 8) (hdg : decode cc g.pc = .ok (.invokeinterface index count, 5)) (hf : cells + mc ≤ R.cells ∧ slots + ms ≤ R.slots) :
    vx_Run5 p l e R s m args below meth c H locs cells slots mc ms g rest (Qc (Value.ref b :: As).toArray) XC free := by
  obtain ⟨hrc, hrs, hfr, hlo, hws, hcw⟩ := cw.back
  have hini := cw.init
  have hK : vx_Back l R p e below s args y 5 8 (PreOf R mc ms Pc) (PostOf Qc mc ms free) (vx_Post XC mc ms free) := vx_backW (hh := hh) (bytes := bytes) (maxL := maxL) (ret := ret) hM hp.1 hrc hrs hfr hlo hws hcw (fun a' U hW => word_at hW (Or.inl (by first | rfl | simp [Cond.onTables, Cond.keeps, Cond.steady])) hini)
  obtain ⟨hx, hb, hml, ho, -⟩ := S
  obtain ⟨-, ⟨cellB, hcB, hoB, hclB⟩, hPc⟩ := hp
  obtain ⟨hfc, kB, hkB, -⟩ := hat
  cases hfc.symm.trans hclB
  intro T hT X
  rcases vx_callIFW X hx (C := C) (hh := hh) (bytes := bytes) (maxL := maxL) (ret := ret) ho cw.link cw.decl cw.face cw.sel cw.inst cw.pub cw.unh cw.cast cw.code cw.notMH hK (by rw [hT]; exact hcB) hoB hclB hkB hg (hsize.trans hml.symm) (argsL := As) (rest := rest) (fun sig h => hn.trans (cw.len sig h)) hstack hW (by rw [hb]; exact hdg)
    (fun vm₁ hW₁ => ⟨hf.1, hf.2, hPc (T.setVm vm₁) hT hW₁⟩) with ⟨v, vm₁, ⟨U', l2, c2, s2⟩, hW₁, X', ⟨g', mk, t, L, e1, e2, hq, h1, hL, h2, h3⟩, st⟩ | ⟨q, vm₁, ⟨U', l2, c2, s2⟩, hW₁, X', ⟨g', mk, t, L, E, ce, e1, e2, hq, hce, hcv, hcl, h1, hL, h2, h3⟩, st⟩
  · dsimp only [Pt.U, Pt.locs, Pt.cells, Pt.slots] at X' e1 e2 h1 h2 h3 st
    subst h1; subst h2; subst h3
    exact Or.inl ⟨v, (T.setVm vm₁).calling g' mk (Value.ref b :: As).toArray, t, U', L, hT, X', hL, e1, e2, hq, st⟩
  · dsimp only [Pt.U, Pt.locs, Pt.cells, Pt.slots] at X' e1 e2 h1 h2 h3 st hcl
    subst h1; subst h2; subst h3
    exact Or.inr ⟨q, (T.setVm vm₁).calling g' mk (Value.ref b :: As).toArray, t, U', L, E, ce, hT, X', hL, e1, e2, hq, hce, hcv, vx_cls hW₁ hcl, st⟩
end
/-! ===== END ===== -/
/-! ===== BEGIN .. of methods that hand back an object of the pool ===== -/
section
variable {p : Program} {l : Launch} {e : Env} {R : Room} {s : State} {m : MethodId} {args : Array Value} {below : List Frame} {meth : Method} {c : Code} {H : Heap} {locs : List Loc} {cells slots : Nat} {Q : State → Prop}
variable {mc ms : Nat} {free : Addr → Prop} {A0 A1 : Nat → Prop} {H0 : Heap} {a : Array Value} {pc : Nat} {ls : Array Slot} {st0 rest : List Value}
theorem vx_callq {S SX : Type} {post : Option Nat → S → Prop} {px : SX → Prop} {B : S → State → Prop} {BX : String → SX → State → Prop} {AX : Nat → Prop} (hr : vx_Run p l e R s m args below meth c H locs cells slots mc ms (F0 m pc ls st0) rest (va_Qq post B A1 a) (vx_X px BX AX) free) (hS : va_S A0 H0 H locs) (hA : ∀ q, q < H.size → A1 q → A0 q) (hf : ∀ q, free q → A0 q) (hAX : ∀ q, q < H.size → AX q → A0 q)
    (kx : ∀ (E : String) (ce : Cell) (q9 : Addr) (u : SX) (t : State) (H1 : Heap) (locs1 : List Loc), t.heap = H1 → s.vm.Alike t.vm → px u → BX E u t → H.size ≤ H1.size → (∀ q : Nat, q < H.size → ¬ AX q → H1[q]? = H[q]?) → va_S A0 H0 H1 locs1 → H1[q9]? = some ce → ce.vm = .none → s.vm.findClass E = some ce.cls → vx_W p l e R s m args below meth c H1 locs1 (cells + mc) (slots + ms) Q (F0 m pc ls rest) q9)
    (kk : ∀ (r : Option Nat) (u : S) (t : State) (H1 : Heap) (locs1 : List Loc), t.heap = H1 → s.vm.Alike t.vm → post r u → B u t → H.size ≤ H1.size → (∀ q : Nat, q < H.size → ¬ A1 q → H1[q]? = H[q]?) → va_S A0 H0 H1 locs1 → W p l e R s m args below meth c H1 locs1 (cells + mc) (slots + ms) Q (F0 m (pc + 3) ls (va_rf r :: rest))) : W p l e R s m args below meth c H locs cells slots Q (F0 m pc ls st0) := by
  intro T hT X
  rcases hr T hT X with ⟨v, st₀, t, T', L, h0, X', hL, e1, e2, ⟨⟨r, u, hv, hp, hb⟩, hF⟩, st⟩ | ⟨q, st₀, t, T', L, E, ce, h0, X', hL, e1, e2, ⟨u, hp, hb, hF⟩, hce, hcv, hcl, st⟩
  · cases hv
    obtain ⟨k1, k2, k3⟩ := vx_keep h0 e1 hS hA hf hL hF
    obtain ⟨t2, a1, b1⟩ := kk r u t T'.heap (locs ++ L) e1.symm (by rw [← e2]; exact X'.warmed.alike) hp hb k1 k2 k3 T' rfl X'
    exact ⟨t2, st t2 a1, b1⟩
  · obtain ⟨k1, k2, k3⟩ := vx_keep h0 e1 hS hAX hf hL hF
    obtain ⟨t2, a1, b1⟩ := kx E ce q u t T'.heap (locs ++ L) e1.symm (by rw [← e2]; exact X'.warmed.alike) hp hb k1 k2 k3 (by rw [e1]; exact hce) hcv hcl T' rfl X'
    exact ⟨t2, st.trans a1, b1⟩
end
/-! ===== END ===== -/
/-! ===== BEGIN .. a constant ===== -/
section
variable {p : Program} {l : Launch} {e : Env} {R : Room} {s : State} {m : MethodId} {args : Array Value} {below : List Frame} {meth : Method} {c : Code} {H : Heap} {locs : List Loc} {cells slots : Nat} {Q : State → Prop}
variable {mc ms : Nat} {free : Addr → Prop} {A0 A1 : Nat → Prop} {H0 : Heap} {a : Array Value} {pc : Nat} {ls : Array Slot} {st0 rest : List Value}
theorem vx_calle {ad : Nat → Nat} {S SX : Type} {post : Option Nat → S → Prop} {px : SX → Prop} {B : S → State → Prop} {BX : String → SX → State → Prop} {AX : Nat → Prop} (hr : vx_Run p l e R s m args below meth c H locs cells slots mc ms (F0 m pc ls st0) rest (va_Qe ad post B A1 a) (vx_X px BX AX) free) (hS : va_S A0 H0 H locs) (hA : ∀ q, q < H.size → A1 q → A0 q) (hf : ∀ q, free q → A0 q) (hAX : ∀ q, q < H.size → AX q → A0 q)
    (kx : ∀ (E : String) (ce : Cell) (q9 : Addr) (u : SX) (t : State) (H1 : Heap) (locs1 : List Loc), t.heap = H1 → s.vm.Alike t.vm → px u → BX E u t → H.size ≤ H1.size → (∀ q : Nat, q < H.size → ¬ AX q → H1[q]? = H[q]?) → va_S A0 H0 H1 locs1 → H1[q9]? = some ce → ce.vm = .none → s.vm.findClass E = some ce.cls → vx_W p l e R s m args below meth c H1 locs1 (cells + mc) (slots + ms) Q (F0 m pc ls rest) q9)
    (kk : ∀ (r : Option Nat) (u : S) (t : State) (H1 : Heap) (locs1 : List Loc), t.heap = H1 → s.vm.Alike t.vm → post r u → B u t → H.size ≤ H1.size → (∀ q : Nat, q < H.size → ¬ A1 q → H1[q]? = H[q]?) → va_S A0 H0 H1 locs1 → W p l e R s m args below meth c H1 locs1 (cells + mc) (slots + ms) Q (F0 m (pc + 3) ls (va_re ad r :: rest))) : W p l e R s m args below meth c H locs cells slots Q (F0 m pc ls st0) := by
  intro T hT X
  rcases hr T hT X with ⟨v, st₀, t, T', L, h0, X', hL, e1, e2, ⟨⟨r, u, hv, hp, hb⟩, hF⟩, st⟩ | ⟨q, st₀, t, T', L, E, ce, h0, X', hL, e1, e2, ⟨u, hp, hb, hF⟩, hce, hcv, hcl, st⟩
  · cases hv
    obtain ⟨k1, k2, k3⟩ := vx_keep h0 e1 hS hA hf hL hF
    obtain ⟨t2, a1, b1⟩ := kk r u t T'.heap (locs ++ L) e1.symm (by rw [← e2]; exact X'.warmed.alike) hp hb k1 k2 k3 T' rfl X'
    exact ⟨t2, st t2 a1, b1⟩
  · obtain ⟨k1, k2, k3⟩ := vx_keep h0 e1 hS hAX hf hL hF
    obtain ⟨t2, a1, b1⟩ := kx E ce q u t T'.heap (locs ++ L) e1.symm (by rw [← e2]; exact X'.warmed.alike) hp hb k1 k2 k3 (by rw [e1]; exact hce) hcv hcl T' rfl X'
    exact ⟨t2, st.trans a1, b1⟩
end
/-! ===== END ===== -/
/-! ===== BEGIN .. by an interface, an object ===== -/
section
variable {p : Program} {l : Launch} {e : Env} {R : Room} {s : State} {m : MethodId} {args : Array Value} {below : List Frame} {meth : Method} {c : Code} {H : Heap} {locs : List Loc} {cells slots : Nat} {Q : State → Prop}
variable {mc ms : Nat} {free : Addr → Prop} {A0 A1 : Nat → Prop} {H0 : Heap} {a : Array Value} {pc : Nat} {ls : Array Slot} {st0 rest : List Value}
theorem vx_callFq {S SX : Type} {post : Option Nat → S → Prop} {px : SX → Prop} {B : S → State → Prop} {BX : String → SX → State → Prop} {AX : Nat → Prop} (hr : vx_Run5 p l e R s m args below meth c H locs cells slots mc ms (F0 m pc ls st0) rest (va_Qq post B A1 a) (vx_X px BX AX) free) (hS : va_S A0 H0 H locs) (hA : ∀ q, q < H.size → A1 q → A0 q) (hf : ∀ q, free q → A0 q) (hAX : ∀ q, q < H.size → AX q → A0 q)
    (kx : ∀ (E : String) (ce : Cell) (q9 : Addr) (u : SX) (t : State) (H1 : Heap) (locs1 : List Loc), t.heap = H1 → s.vm.Alike t.vm → px u → BX E u t → H.size ≤ H1.size → (∀ q : Nat, q < H.size → ¬ AX q → H1[q]? = H[q]?) → va_S A0 H0 H1 locs1 → H1[q9]? = some ce → ce.vm = .none → s.vm.findClass E = some ce.cls → vx_W p l e R s m args below meth c H1 locs1 (cells + mc) (slots + ms) Q (F0 m pc ls rest) q9)
    (kk : ∀ (r : Option Nat) (u : S) (t : State) (H1 : Heap) (locs1 : List Loc), t.heap = H1 → s.vm.Alike t.vm → post r u → B u t → H.size ≤ H1.size → (∀ q : Nat, q < H.size → ¬ A1 q → H1[q]? = H[q]?) → va_S A0 H0 H1 locs1 → W p l e R s m args below meth c H1 locs1 (cells + mc) (slots + ms) Q (F0 m (pc + 5) ls (va_rf r :: rest))) : W p l e R s m args below meth c H locs cells slots Q (F0 m pc ls st0) := by
  intro T hT X
  rcases hr T hT X with ⟨v, st₀, t, T', L, h0, X', hL, e1, e2, ⟨⟨r, u, hv, hp, hb⟩, hF⟩, st⟩ | ⟨q, st₀, t, T', L, E, ce, h0, X', hL, e1, e2, ⟨u, hp, hb, hF⟩, hce, hcv, hcl, st⟩
  · cases hv
    obtain ⟨k1, k2, k3⟩ := vx_keep h0 e1 hS hA hf hL hF
    obtain ⟨t2, a1, b1⟩ := kk r u t T'.heap (locs ++ L) e1.symm (by rw [← e2]; exact X'.warmed.alike) hp hb k1 k2 k3 T' rfl X'
    exact ⟨t2, st t2 a1, b1⟩
  · obtain ⟨k1, k2, k3⟩ := vx_keep h0 e1 hS hAX hf hL hF
    obtain ⟨t2, a1, b1⟩ := kx E ce q u t T'.heap (locs ++ L) e1.symm (by rw [← e2]; exact X'.warmed.alike) hp hb k1 k2 k3 (by rw [e1]; exact hce) hcv hcl T' rfl X'
    exact ⟨t2, st.trans a1, b1⟩
end
/-! ===== END ===== -/
/-! ===== BEGIN .. by an interface, a constant ===== -/
section
variable {p : Program} {l : Launch} {e : Env} {R : Room} {s : State} {m : MethodId} {args : Array Value} {below : List Frame} {meth : Method} {c : Code} {H : Heap} {locs : List Loc} {cells slots : Nat} {Q : State → Prop}
variable {mc ms : Nat} {free : Addr → Prop} {A0 A1 : Nat → Prop} {H0 : Heap} {a : Array Value} {pc : Nat} {ls : Array Slot} {st0 rest : List Value}
theorem vx_callFe {ad : Nat → Nat} {S SX : Type} {post : Option Nat → S → Prop} {px : SX → Prop} {B : S → State → Prop} {BX : String → SX → State → Prop} {AX : Nat → Prop} (hr : vx_Run5 p l e R s m args below meth c H locs cells slots mc ms (F0 m pc ls st0) rest (va_Qe ad post B A1 a) (vx_X px BX AX) free) (hS : va_S A0 H0 H locs) (hA : ∀ q, q < H.size → A1 q → A0 q) (hf : ∀ q, free q → A0 q) (hAX : ∀ q, q < H.size → AX q → A0 q)
    (kx : ∀ (E : String) (ce : Cell) (q9 : Addr) (u : SX) (t : State) (H1 : Heap) (locs1 : List Loc), t.heap = H1 → s.vm.Alike t.vm → px u → BX E u t → H.size ≤ H1.size → (∀ q : Nat, q < H.size → ¬ AX q → H1[q]? = H[q]?) → va_S A0 H0 H1 locs1 → H1[q9]? = some ce → ce.vm = .none → s.vm.findClass E = some ce.cls → vx_W p l e R s m args below meth c H1 locs1 (cells + mc) (slots + ms) Q (F0 m pc ls rest) q9)
    (kk : ∀ (r : Option Nat) (u : S) (t : State) (H1 : Heap) (locs1 : List Loc), t.heap = H1 → s.vm.Alike t.vm → post r u → B u t → H.size ≤ H1.size → (∀ q : Nat, q < H.size → ¬ A1 q → H1[q]? = H[q]?) → va_S A0 H0 H1 locs1 → W p l e R s m args below meth c H1 locs1 (cells + mc) (slots + ms) Q (F0 m (pc + 5) ls (va_re ad r :: rest))) : W p l e R s m args below meth c H locs cells slots Q (F0 m pc ls st0) := by
  intro T hT X
  rcases hr T hT X with ⟨v, st₀, t, T', L, h0, X', hL, e1, e2, ⟨⟨r, u, hv, hp, hb⟩, hF⟩, st⟩ | ⟨q, st₀, t, T', L, E, ce, h0, X', hL, e1, e2, ⟨u, hp, hb, hF⟩, hce, hcv, hcl, st⟩
  · cases hv
    obtain ⟨k1, k2, k3⟩ := vx_keep h0 e1 hS hA hf hL hF
    obtain ⟨t2, a1, b1⟩ := kk r u t T'.heap (locs ++ L) e1.symm (by rw [← e2]; exact X'.warmed.alike) hp hb k1 k2 k3 T' rfl X'
    exact ⟨t2, st t2 a1, b1⟩
  · obtain ⟨k1, k2, k3⟩ := vx_keep h0 e1 hS hAX hf hL hF
    obtain ⟨t2, a1, b1⟩ := kx E ce q u t T'.heap (locs ++ L) e1.symm (by rw [← e2]; exact X'.warmed.alike) hp hb k1 k2 k3 (by rw [e1]; exact hce) hcv hcl T' rfl X'
    exact ⟨t2, st.trans a1, b1⟩
end
/-! ===== END ===== -/
/-! ===== BEGIN what the machine throws by itself: null at a field, at athrow ===== -/
section VXM2
variable {p : Program} {l : Launch} {e : Env} {R : Room} {s : State} {m : MethodId} {args : Array Value} {below : List Frame} {meth : Method} {c : Code} {H : Heap} {locs : List Loc} {cells slots : Nat}
variable {Q : State → Prop} {cc : ByteArray} {pc : Nat} {ls : Array Slot} {rest : List Value}
theorem vx_getfN {D cl tys} {own ref C : String} {T : u_T} {N ci index : Nat} {Ts : List Cond} (hexec : p.tables.exec = Jvm.exec) (hb : c.code = cc) (hts : ∀ w ∈ Ts, w.before args s = true) (hin : ∀ w ∈ u_ws C T N, w ∈ Ts) (hown : s.vm.findClass own = some m.cls) (hK : va_K D cl tys s) (hc : cl[ci]? = some (C, T, N)) (k : Nat) (hk : k < N) (hlink : (Cond.fieldLink own index ref (T k).2.1 (T k).2.2.1).before args s = true) (hsame : ∀ x, s.fieldFound? (T k).1 (T k).2.1 (T k).2.2.1 = some x → s.fieldFound? ref (T k).2.1 (T k).2.2.1 = some x) (hdg : decode cc pc = .ok (.getfield index, 3)) (kk : vx_NoteN p l e R s m args below meth c H locs cells slots Q (F0 m pc ls rest)) : W p l e R s m args below meth c H locs cells slots Q (F0 m pc ls (.null :: rest)) := by
  obtain ⟨hS, hfc, kC, hkC, -⟩ := hK.1 ci _ hc
  obtain ⟨cf, kf, fi, f, hi, -⟩ := hS k hk
  intro U hU X
  obtain ⟨vm', X1, st1⟩ := X.getfieldNull hexec hown hlink (hsame _ hi) (u_facts hfc hkC (u_lays hts hin hk) hi).1 (g := F0 m pc ls (.null :: rest)) rfl (rest := rest) rfl (by rw [hb]; exact hdg)
  obtain ⟨t, st, q⟩ := kk (U.setVm vm') hU X1
  exact ⟨t, st1 t st, q⟩
theorem vx_getfNN {D cl tys} {own ref C host : String} {T : u_T} {N ci index : Nat} {Ts : List Cond} (hexec : p.tables.exec = Jvm.exec) (hb : c.code = cc) (hts : ∀ w ∈ Ts, w.before args s = true) (hin : ∀ w ∈ u_ws C T N, w ∈ Ts) (hown : s.vm.findClass own = some m.cls) (hK : va_K D cl tys s) (hc : cl[ci]? = some (C, T, N)) (k : Nat) (hk : k < N) (hlink : (Cond.fieldLinkNest own index ref (T k).2.1 (T k).2.2.1 host).before args s = true) (hsame : ∀ x, s.fieldFound? (T k).1 (T k).2.1 (T k).2.2.1 = some x → s.fieldFound? ref (T k).2.1 (T k).2.2.1 = some x) (hdg : decode cc pc = .ok (.getfield index, 3)) (kk : vx_NoteN p l e R s m args below meth c H locs cells slots Q (F0 m pc ls rest)) : W p l e R s m args below meth c H locs cells slots Q (F0 m pc ls (.null :: rest)) := by
  obtain ⟨hS, hfc, kC, hkC, -⟩ := hK.1 ci _ hc
  obtain ⟨cf, kf, fi, f, hi, -⟩ := hS k hk
  intro U hU X
  obtain ⟨vm', X1, st1⟩ := X.getfieldNullNest hexec hown hlink (hsame _ hi) (u_facts hfc hkC (u_lays hts hin hk) hi).1 (g := F0 m pc ls (.null :: rest)) rfl (rest := rest) rfl (by rw [hb]; exact hdg)
  obtain ⟨t, st, q⟩ := kk (U.setVm vm') hU X1
  exact ⟨t, st1 t st, q⟩
theorem vx_putfN {D cl tys} {own ref C : String} {T : u_T} {N ci index : Nat} {Ts : List Cond} (hexec : p.tables.exec = Jvm.exec) (hb : c.code = cc) (hts : ∀ w ∈ Ts, w.before args s = true) (hin : ∀ w ∈ u_ws C T N, w ∈ Ts) (hown : s.vm.findClass own = some m.cls) (hK : va_K D cl tys s) (hc : cl[ci]? = some (C, T, N)) (k : Nat) (hk : k < N) (hlink : (Cond.fieldLink own index ref (T k).2.1 (T k).2.2.1).before args s = true) (hsame : ∀ x, s.fieldFound? (T k).1 (T k).2.1 (T k).2.2.1 = some x → s.fieldFound? ref (T k).2.1 (T k).2.2.1 = some x) (hfin : (T k).2.2.2 = false) {v : Value} (hdg : decode cc pc = .ok (.putfield index, 3)) (kk : vx_NoteN p l e R s m args below meth c H locs cells slots Q (F0 m pc ls rest)) : W p l e R s m args below meth c H locs cells slots Q (F0 m pc ls (v :: .null :: rest)) := by
  obtain ⟨hS, hfc, kC, hkC, -⟩ := hK.1 ci _ hc
  obtain ⟨cf, kf, fi, f, hi, -⟩ := hS k hk
  have hlay := hts _ (hin _ (u_in_lay hk))
  unfold u_lay at hlay
  rw [if_neg (by rw [hfin]; decide)] at hlay
  obtain ⟨c9, k9, cf9, kf9, fi9, f9, -, -, hi9, hst9, hnf9, -⟩ := Cond.lays_spec hlay
  cases hi.symm.trans hi9
  intro U hU X
  obtain ⟨vm', X1, st1⟩ := X.putfieldNull hexec hown hlink (hsame _ hi) hst9 hnf9 (g := F0 m pc ls (v :: .null :: rest)) rfl (v := v) (rest := rest) rfl (by rw [hb]; exact hdg)
  obtain ⟨t, st, q⟩ := kk (U.setVm vm') hU X1
  exact ⟨t, st1 t st, q⟩
theorem vx_putfNN {D cl tys} {own ref C host : String} {T : u_T} {N ci index : Nat} {Ts : List Cond} (hexec : p.tables.exec = Jvm.exec) (hb : c.code = cc) (hts : ∀ w ∈ Ts, w.before args s = true) (hin : ∀ w ∈ u_ws C T N, w ∈ Ts) (hown : s.vm.findClass own = some m.cls) (hK : va_K D cl tys s) (hc : cl[ci]? = some (C, T, N)) (k : Nat) (hk : k < N) (hlink : (Cond.fieldLinkNest own index ref (T k).2.1 (T k).2.2.1 host).before args s = true) (hsame : ∀ x, s.fieldFound? (T k).1 (T k).2.1 (T k).2.2.1 = some x → s.fieldFound? ref (T k).2.1 (T k).2.2.1 = some x) (hfin : (T k).2.2.2 = false) {v : Value} (hdg : decode cc pc = .ok (.putfield index, 3)) (kk : vx_NoteN p l e R s m args below meth c H locs cells slots Q (F0 m pc ls rest)) : W p l e R s m args below meth c H locs cells slots Q (F0 m pc ls (v :: .null :: rest)) := by
  obtain ⟨hS, hfc, kC, hkC, -⟩ := hK.1 ci _ hc
  obtain ⟨cf, kf, fi, f, hi, -⟩ := hS k hk
  have hlay := hts _ (hin _ (u_in_lay hk))
  unfold u_lay at hlay
  rw [if_neg (by rw [hfin]; decide)] at hlay
  obtain ⟨c9, k9, cf9, kf9, fi9, f9, -, -, hi9, hst9, hnf9, -⟩ := Cond.lays_spec hlay
  cases hi.symm.trans hi9
  intro U hU X
  obtain ⟨vm', X1, st1⟩ := X.putfieldNullNest hexec hown hlink (hsame _ hi) hst9 hnf9 (g := F0 m pc ls (v :: .null :: rest)) rfl (v := v) (rest := rest) rfl (by rw [hb]; exact hdg)
  obtain ⟨t, st, q⟩ := kk (U.setVm vm') hU X1
  exact ⟨t, st1 t st, q⟩
theorem vx_athrowN (hexec : p.tables.exec = Jvm.exec) (hb : c.code = cc) (hdg : decode cc pc = .ok (.athrow, 1)) (k : vx_NoteN p l e R s m args below meth c H locs cells slots Q (F0 m pc ls rest)) : W p l e R s m args below meth c H locs cells slots Q (F0 m pc ls (.null :: rest)) := by
  intro T hT X
  obtain ⟨t, st, q⟩ := k T hT X
  exact ⟨t, X.athrowNull hexec (g := F0 m pc ls (.null :: rest)) rfl (rest := rest) rfl (by rw [hb]; exact hdg) t st, q⟩
end VXM2
/-! ===== END ===== -/
end
section
def RX0 : String := "Spliceroom$Film"
def TX0 : u_T := fun k => match k with
  | 0 => ("Spliceroom$Film", "row", "Ljava/util/ArrayList;", true)
  | _ => ("Spliceroom$Film", "isLent", "Z", false)
def tyX0 : Nat → FieldType := fun k => match k with
  | 0 => .object "java/util/ArrayList"
  | _ => .boolean
abbrev wsX00 : List Cond := u_ws RX0 TX0 2
theorem nmX0 : ∀ a, a < 2 → ∀ b, b < 2 → a ≠ b → (TX0 a).2.1 ≠ (TX0 b).2.1 := by decide +kernel
theorem tyX0_ok : ∀ k, k < 2 → parseFieldDescriptor (TX0 k).2.2.1 = some (tyX0 k) := by decide +kernel
abbrev cX0_init : ByteArray := prog_2_method_1_code
def yX0_init : MethodName := ⟨RX0, "<init>", "()V"⟩
abbrev cX0_placeOf : ByteArray := prog_2_method_2_code
def yX0_placeOf : MethodName := ⟨RX0, "placeOf", "(LSpliceroom$Shot;)I"⟩
abbrev cX0_framesBefore : ByteArray := prog_2_method_3_code
def yX0_framesBefore : MethodName := ⟨RX0, "framesBefore", "(I)I"⟩
abbrev cX0_frameCount : ByteArray := prog_2_method_4_code
def yX0_frameCount : MethodName := ⟨RX0, "frameCount", "()I"⟩
abbrev cX0_dropGradesFrom : ByteArray := prog_2_method_5_code
def yX0_dropGradesFrom : MethodName := ⟨RX0, "dropGradesFrom", "(LSpliceroom$Shot;)V"⟩
def RX1 : String := "Spliceroom$Loan"
def TX1 : u_T := fun k => match k with
  | 0 => ("Spliceroom$Loan", "film", "LSpliceroom$Film;", true)
  | 1 => ("Spliceroom$Loan", "wearPerRun", "I", true)
  | 2 => ("Spliceroom$Loan", "dueDay", "I", true)
  | 3 => ("Spliceroom$Loan", "runsLeft", "I", false)
  | _ => ("Spliceroom$Loan", "isBack", "Z", false)
def tyX1 : Nat → FieldType := fun k => match k with
  | 0 => .object "Spliceroom$Film"
  | 1 => .int
  | 2 => .int
  | 3 => .int
  | _ => .boolean
abbrev wsX10 : List Cond := u_ws RX1 TX1 5
theorem nmX1 : ∀ a, a < 5 → ∀ b, b < 5 → a ≠ b → (TX1 a).2.1 ≠ (TX1 b).2.1 := by decide +kernel
theorem tyX1_ok : ∀ k, k < 5 → parseFieldDescriptor (TX1 k).2.2.1 = some (tyX1 k) := by decide +kernel
abbrev cX1_init : ByteArray := prog_3_method_1_code
def yX1_init : MethodName := ⟨RX1, "<init>", "(LSpliceroom$Film;III)V"⟩
def RX2 : String := "Spliceroom$Reel"
def TX2 : u_T := fun k => match k with
  | 0 => ("Spliceroom$Reel", "film", "LSpliceroom$Film;", true)
  | 1 => ("Spliceroom$Reel", "number", "I", true)
  | _ => ("Spliceroom$Reel", "row", "Ljava/util/ArrayList;", true)
def tyX2 : Nat → FieldType := fun k => match k with
  | 0 => .object "Spliceroom$Film"
  | 1 => .int
  | _ => .object "java/util/ArrayList"
abbrev wsX20 : List Cond := u_ws RX2 TX2 3
theorem nmX2 : ∀ a, a < 3 → ∀ b, b < 3 → a ≠ b → (TX2 a).2.1 ≠ (TX2 b).2.1 := by decide +kernel
theorem tyX2_ok : ∀ k, k < 3 → parseFieldDescriptor (TX2 k).2.2.1 = some (tyX2 k) := by decide +kernel
abbrev cX2_init : ByteArray := prog_4_method_1_code
def yX2_init : MethodName := ⟨RX2, "<init>", "(LSpliceroom$Film;I)V"⟩
abbrev cX2_append : ByteArray := prog_4_method_2_code
def yX2_append : MethodName := ⟨RX2, "append", "(LSpliceroom$Shot;)V"⟩
abbrev cX2_spliceCount : ByteArray := prog_4_method_3_code
def yX2_spliceCount : MethodName := ⟨RX2, "spliceCount", "()I"⟩
abbrev cX2_frameCount : ByteArray := prog_4_method_4_code
def yX2_frameCount : MethodName := ⟨RX2, "frameCount", "()I"⟩
abbrev cX2_canTake : ByteArray := prog_4_method_5_code
def yX2_canTake : MethodName := ⟨RX2, "canTake", "(II)Z"⟩
abbrev cX2_addWear : ByteArray := prog_4_method_6_code
def yX2_addWear : MethodName := ⟨RX2, "addWear", "(I)V"⟩
abbrev cX2_greatestWear : ByteArray := prog_4_method_7_code
def yX2_greatestWear : MethodName := ⟨RX2, "greatestWear", "()I"⟩
abbrev cX2_wearSum : ByteArray := prog_4_method_8_code
def yX2_wearSum : MethodName := ⟨RX2, "wearSum", "()I"⟩
def RX3 : String := "Spliceroom$Shot"
def TX3 : u_T := fun k => match k with
  | 0 => ("Spliceroom$Shot", "film", "LSpliceroom$Film;", true)
  | 1 => ("Spliceroom$Shot", "number", "I", true)
  | 2 => ("Spliceroom$Shot", "scene", "I", true)
  | 3 => ("Spliceroom$Shot", "length", "I", false)
  | 4 => ("Spliceroom$Shot", "reel", "LSpliceroom$Reel;", false)
  | 5 => ("Spliceroom$Shot", "wearBehind", "I", false)
  | 6 => ("Spliceroom$Shot", "scanSize", "I", false)
  | 7 => ("Spliceroom$Shot", "missedFrames", "I", false)
  | 8 => ("Spliceroom$Shot", "ownGrade", "I", false)
  | _ => ("Spliceroom$Shot", "gradeSource", "LSpliceroom$Shot;", false)
def tyX3 : Nat → FieldType := fun k => match k with
  | 0 => .object "Spliceroom$Film"
  | 1 => .int
  | 2 => .int
  | 3 => .int
  | 4 => .object "Spliceroom$Reel"
  | 5 => .int
  | 6 => .int
  | 7 => .int
  | 8 => .int
  | _ => .object "Spliceroom$Shot"
abbrev wsX30 : List Cond := u_ws RX3 TX3 10
theorem nmX3 : ∀ a, a < 10 → ∀ b, b < 10 → a ≠ b → (TX3 a).2.1 ≠ (TX3 b).2.1 := by decide +kernel
theorem tyX3_ok : ∀ k, k < 10 → parseFieldDescriptor (TX3 k).2.2.1 = some (tyX3 k) := by decide +kernel
abbrev cX3_init : ByteArray := prog_5_method_1_code
def yX3_init : MethodName := ⟨RX3, "<init>", "(LSpliceroom$Film;III)V"⟩
abbrev cX3_isMissing : ByteArray := prog_5_method_2_code
def yX3_isMissing : MethodName := ⟨RX3, "isMissing", "()Z"⟩
abbrev cX3_keptFrames : ByteArray := prog_5_method_3_code
def yX3_keptFrames : MethodName := ⟨RX3, "keptFrames", "()I"⟩
abbrev cX3_takeScan : ByteArray := prog_5_method_4_code
def yX3_takeScan : MethodName := ⟨RX3, "takeScan", "(II)V"⟩
abbrev cX3_currentGrade : ByteArray := prog_5_method_5_code
def yX3_currentGrade : MethodName := ⟨RX3, "currentGrade", "()I"⟩
abbrev cX3_canHavePassedTo : ByteArray := prog_5_method_6_code
def yX3_canHavePassedTo : MethodName := ⟨RX3, "canHavePassedTo", "(LSpliceroom$Shot;)Z"⟩
def RX4 : String := "Spliceroom$Version"
def TX4 : u_T := fun k => match k with
  | 0 => ("Spliceroom$Version", "film", "LSpliceroom$Film;", true)
  | 1 => ("Spliceroom$Version", "country", "I", true)
  | _ => ("Spliceroom$Version", "out", "[J", true)
def tyX4 : Nat → FieldType := fun k => match k with
  | 0 => .object "Spliceroom$Film"
  | 1 => .int
  | _ => .array .long
abbrev wsX40 : List Cond := u_ws RX4 TX4 3
theorem nmX4 : ∀ a, a < 3 → ∀ b, b < 3 → a ≠ b → (TX4 a).2.1 ≠ (TX4 b).2.1 := by decide +kernel
theorem tyX4_ok : ∀ k, k < 3 → parseFieldDescriptor (TX4 k).2.2.1 = some (tyX4 k) := by decide +kernel
abbrev cX4_init : ByteArray := prog_6_method_1_code
def yX4_init : MethodName := ⟨RX4, "<init>", "(LSpliceroom$Film;I)V"⟩
abbrev cX4_mark : ByteArray := prog_6_method_2_code
def yX4_mark : MethodName := ⟨RX4, "mark", "(LSpliceroom$Shot;IIZ)I"⟩
abbrev cX4_bitsBetween : ByteArray := prog_6_method_3_code
def yX4_bitsBetween : MethodName := ⟨RX4, "bitsBetween", "(II)J"⟩
abbrev cX4_leftOutOf : ByteArray := prog_6_method_4_code
def yX4_leftOutOf : MethodName := ⟨RX4, "leftOutOf", "(LSpliceroom$Shot;)I"⟩
abbrev cX4_isLeftOut : ByteArray := prog_6_method_5_code
def yX4_isLeftOut : MethodName := ⟨RX4, "isLeftOut", "(LSpliceroom$Shot;I)Z"⟩
abbrev cX4_lengthByShots : ByteArray := prog_6_method_6_code
def yX4_lengthByShots : MethodName := ⟨RX4, "lengthByShots", "()I"⟩
abbrev cX4_lengthByFrames : ByteArray := prog_6_method_7_code
def yX4_lengthByFrames : MethodName := ⟨RX4, "lengthByFrames", "()I"⟩
def RX5 : String := "Spliceroom"
def TX5 : u_T := fun k => match k with
  | 0 => ("Spliceroom", "films", "Ljava/util/ArrayList;", true)
  | 1 => ("Spliceroom", "allShots", "Ljava/util/ArrayList;", true)
  | 2 => ("Spliceroom", "reels", "Ljava/util/ArrayList;", true)
  | 3 => ("Spliceroom", "versions", "Ljava/util/ArrayList;", true)
  | 4 => ("Spliceroom", "loans", "Ljava/util/ArrayList;", true)
  | 5 => ("Spliceroom", "limit", "I", false)
  | 6 => ("Spliceroom", "day", "I", false)
  | _ => ("Spliceroom", "framesShown", "J", false)
def tyX5 : Nat → FieldType := fun k => match k with
  | 0 => .object "java/util/ArrayList"
  | 1 => .object "java/util/ArrayList"
  | 2 => .object "java/util/ArrayList"
  | 3 => .object "java/util/ArrayList"
  | 4 => .object "java/util/ArrayList"
  | 5 => .int
  | 6 => .int
  | _ => .long
abbrev wsX50 : List Cond := u_ws RX5 TX5 8
theorem nmX5 : ∀ a, a < 8 → ∀ b, b < 8 → a ≠ b → (TX5 a).2.1 ≠ (TX5 b).2.1 := by decide +kernel
theorem tyX5_ok : ∀ k, k < 8 → parseFieldDescriptor (TX5 k).2.2.1 = some (tyX5 k) := by decide +kernel
abbrev cX5_init : ByteArray := prog_1_method_1_code
def yX5_init : MethodName := ⟨RX5, "<init>", "()V"⟩
abbrev cX5_addFilm : ByteArray := prog_1_method_2_code
def yX5_addFilm : MethodName := ⟨RX5, "addFilm", "()I"⟩
abbrev cX5_addShot : ByteArray := prog_1_method_3_code
def yX5_addShot : MethodName := ⟨RX5, "addShot", "(III)I"⟩
abbrev cX5_addReel : ByteArray := prog_1_method_4_code
def yX5_addReel : MethodName := ⟨RX5, "addReel", "(I)I"⟩
abbrev cX5_put : ByteArray := prog_1_method_5_code
def yX5_put : MethodName := ⟨RX5, "put", "(II)I"⟩
abbrev cX5_found : ByteArray := prog_1_method_6_code
def yX5_found : MethodName := ⟨RX5, "found", "(IIII)I"⟩
abbrev cX5_join : ByteArray := prog_1_method_7_code
def yX5_join : MethodName := ⟨RX5, "join", "(II)I"⟩
abbrev cX5_shots : ByteArray := prog_1_method_8_code
def yX5_shots : MethodName := ⟨RX5, "shots", "(I)I"⟩
abbrev cX5_shotOf : ByteArray := prog_1_method_9_code
def yX5_shotOf : MethodName := ⟨RX5, "shotOf", "(II)I"⟩
abbrev cX5_lengthOf : ByteArray := prog_1_method_10_code
def yX5_lengthOf : MethodName := ⟨RX5, "lengthOf", "(I)I"⟩
abbrev cX5_frameOf : ByteArray := prog_1_method_11_code
def yX5_frameOf : MethodName := ⟨RX5, "frameOf", "(I)I"⟩
abbrev cX5_shotAt : ByteArray := prog_1_method_12_code
def yX5_shotAt : MethodName := ⟨RX5, "shotAt", "(II)I"⟩
abbrev cX5_reelOf : ByteArray := prog_1_method_13_code
def yX5_reelOf : MethodName := ⟨RX5, "reelOf", "(I)I"⟩
abbrev cX5_setLimit : ByteArray := prog_1_method_14_code
def yX5_setLimit : MethodName := ⟨RX5, "setLimit", "(I)I"⟩
abbrev cX5_run : ByteArray := prog_1_method_15_code
def yX5_run : MethodName := ⟨RX5, "run", "(I)I"⟩
abbrev cX5_wear : ByteArray := prog_1_method_16_code
def yX5_wear : MethodName := ⟨RX5, "wear", "(II)I"⟩
abbrev cX5_mend : ByteArray := prog_1_method_17_code
def yX5_mend : MethodName := ⟨RX5, "mend", "(II)I"⟩
abbrev cX5_scan : ByteArray := prog_1_method_18_code
def yX5_scan : MethodName := ⟨RX5, "scan", "(II)I"⟩
abbrev cX5_scanned : ByteArray := prog_1_method_19_code
def yX5_scanned : MethodName := ⟨RX5, "scanned", "(I)I"⟩
abbrev cX5_missed : ByteArray := prog_1_method_20_code
def yX5_missed : MethodName := ⟨RX5, "missed", "(I)I"⟩
abbrev cX5_grade : ByteArray := prog_1_method_21_code
def yX5_grade : MethodName := ⟨RX5, "grade", "(II)I"⟩
abbrev cX5_passOn : ByteArray := prog_1_method_22_code
def yX5_passOn : MethodName := ⟨RX5, "passOn", "(I)I"⟩
abbrev cX5_gradeOf : ByteArray := prog_1_method_23_code
def yX5_gradeOf : MethodName := ⟨RX5, "gradeOf", "(I)I"⟩
abbrev cX5_gradeFrom : ByteArray := prog_1_method_24_code
def yX5_gradeFrom : MethodName := ⟨RX5, "gradeFrom", "(I)I"⟩
abbrev cX5_addVersion : ByteArray := prog_1_method_25_code
def yX5_addVersion : MethodName := ⟨RX5, "addVersion", "(II)I"⟩
abbrev cX5_leaveOut : ByteArray := prog_1_method_26_code
def yX5_leaveOut : MethodName := ⟨RX5, "leaveOut", "(IIIZ)I"⟩
abbrev cX5_frames : ByteArray := prog_1_method_27_code
def yX5_frames : MethodName := ⟨RX5, "frames", "(I)I"⟩
abbrev cX5_lend : ByteArray := prog_1_method_28_code
def yX5_lend : MethodName := ⟨RX5, "lend", "(IIII)I"⟩
abbrev cX5_show : ByteArray := prog_1_method_29_code
def yX5_show : MethodName := ⟨RX5, "show", "(I)I"⟩
abbrev cX5_giveBack : ByteArray := prog_1_method_30_code
def yX5_giveBack : MethodName := ⟨RX5, "giveBack", "(I)I"⟩
abbrev cX5_advance : ByteArray := prog_1_method_31_code
def yX5_advance : MethodName := ⟨RX5, "advance", "(I)I"⟩
abbrev cX5_shown : ByteArray := prog_1_method_32_code
def yX5_shown : MethodName := ⟨RX5, "shown", "()J"⟩
abbrev cX5_keptShare : ByteArray := prog_1_method_33_code
def yX5_keptShare : MethodName := ⟨RX5, "keptShare", "()F"⟩
abbrev cX5_meanWear : ByteArray := prog_1_method_34_code
def yX5_meanWear : MethodName := ⟨RX5, "meanWear", "()D"⟩
abbrev cX5_isSound : ByteArray := prog_1_method_35_code
def yX5_isSound : MethodName := ⟨RX5, "isSound", "()Z"⟩
abbrev cX5_filmNumbered : ByteArray := prog_1_method_36_code
def yX5_filmNumbered : MethodName := ⟨RX5, "filmNumbered", "(I)LSpliceroom$Film;"⟩
abbrev cX5_shotNumbered : ByteArray := prog_1_method_37_code
def yX5_shotNumbered : MethodName := ⟨RX5, "shotNumbered", "(I)LSpliceroom$Shot;"⟩
abbrev cX5_reelNumbered : ByteArray := prog_1_method_38_code
def yX5_reelNumbered : MethodName := ⟨RX5, "reelNumbered", "(I)LSpliceroom$Reel;"⟩
abbrev cX5_versionNumbered : ByteArray := prog_1_method_39_code
def yX5_versionNumbered : MethodName := ⟨RX5, "versionNumbered", "(I)LSpliceroom$Version;"⟩
abbrev cX5_loanNumbered : ByteArray := prog_1_method_40_code
def yX5_loanNumbered : MethodName := ⟨RX5, "loanNumbered", "(I)LSpliceroom$Loan;"⟩
abbrev cX5_shotAheadOfSplice : ByteArray := prog_1_method_41_code
def yX5_shotAheadOfSplice : MethodName := ⟨RX5, "shotAheadOfSplice", "(LSpliceroom$Reel;I)LSpliceroom$Shot;"⟩
abbrev cX5_requireLengthAndScene : ByteArray := prog_1_method_42_code
def yX5_requireLengthAndScene : MethodName := ⟨RX5, "requireLengthAndScene", "(II)V"⟩
abbrev cX5_requireNotLent : ByteArray := prog_1_method_43_code
def yX5_requireNotLent : MethodName := ⟨RX5, "requireNotLent", "(LSpliceroom$Film;)V"⟩
abbrev cX5_isAnyFilmLent : ByteArray := prog_1_method_44_code
def yX5_isAnyFilmLent : MethodName := ⟨RX5, "isAnyFilmLent", "()Z"⟩
abbrev cX5_isAheadOfEnd : ByteArray := prog_1_method_45_code
def yX5_isAheadOfEnd : MethodName := ⟨RX5, "isAheadOfEnd", "(LSpliceroom$Shot;LSpliceroom$Reel;)Z"⟩
abbrev cX5_canBeJoined : ByteArray := prog_1_method_46_code
def yX5_canBeJoined : MethodName := ⟨RX5, "canBeJoined", "(LSpliceroom$Reel;LSpliceroom$Reel;)Z"⟩
abbrev cX5_canFilmTake : ByteArray := prog_1_method_47_code
def yX5_canFilmTake : MethodName := ⟨RX5, "canFilmTake", "(LSpliceroom$Film;I)Z"⟩
abbrev cX5_hasVersion : ByteArray := prog_1_method_48_code
def yX5_hasVersion : MethodName := ⟨RX5, "hasVersion", "(LSpliceroom$Film;I)Z"⟩
abbrev cX5_newShot : ByteArray := prog_1_method_49_code
def yX5_newShot : MethodName := ⟨RX5, "newShot", "(LSpliceroom$Film;II)LSpliceroom$Shot;"⟩
abbrev cX5_newReel : ByteArray := prog_1_method_50_code
def yX5_newReel : MethodName := ⟨RX5, "newReel", "(LSpliceroom$Film;)LSpliceroom$Reel;"⟩
abbrev cX5_play : ByteArray := prog_1_method_51_code
def yX5_play : MethodName := ⟨RX5, "play", "(LSpliceroom$Reel;I)V"⟩
abbrev cX5_takeLastFrame : ByteArray := prog_1_method_52_code
def yX5_takeLastFrame : MethodName := ⟨RX5, "takeLastFrame", "(LSpliceroom$Shot;)V"⟩
abbrev cX5_framesLostAt : ByteArray := prog_1_method_53_code
def yX5_framesLostAt : MethodName := ⟨RX5, "framesLostAt", "(LSpliceroom$Reel;I)I"⟩
abbrev cX5_isWorn : ByteArray := prog_1_method_54_code
def yX5_isWorn : MethodName := ⟨RX5, "isWorn", "(LSpliceroom$Reel;I)Z"⟩
abbrev cX5_isWearWithin : ByteArray := prog_1_method_55_code
def yX5_isWearWithin : MethodName := ⟨RX5, "isWearWithin", "(I)Z"⟩
abbrev cX5_arePassedGradesSound : ByteArray := prog_1_method_56_code
def yX5_arePassedGradesSound : MethodName := ⟨RX5, "arePassedGradesSound", "()Z"⟩
abbrev cX5_areVersionLengthsSound : ByteArray := prog_1_method_57_code
def yX5_areVersionLengthsSound : MethodName := ⟨RX5, "areVersionLengthsSound", "()Z"⟩
def RX6 : String := "SpliceroomModel"
def TX6 : u_T := fun k => match k with
  | 0 => ("SpliceroomModel", "thrown", "I", false)
  | 1 => ("SpliceroomModel", "films", "I", false)
  | 2 => ("SpliceroomModel", "row", "[I", true)
  | 3 => ("SpliceroomModel", "rowMany", "[I", true)
  | 4 => ("SpliceroomModel", "film", "[I", true)
  | 5 => ("SpliceroomModel", "length", "[I", true)
  | 6 => ("SpliceroomModel", "scene", "[I", true)
  | 7 => ("SpliceroomModel", "reel", "[I", true)
  | 8 => ("SpliceroomModel", "size", "[I", true)
  | 9 => ("SpliceroomModel", "missed", "[I", true)
  | 10 => ("SpliceroomModel", "own", "[I", true)
  | 11 => ("SpliceroomModel", "passed", "[I", true)
  | 12 => ("SpliceroomModel", "shots", "I", false)
  | 13 => ("SpliceroomModel", "reelFilm", "[I", true)
  | 14 => ("SpliceroomModel", "reelShot", "[I", true)
  | 15 => ("SpliceroomModel", "reelWear", "[I", true)
  | 16 => ("SpliceroomModel", "reelMany", "[I", true)
  | 17 => ("SpliceroomModel", "reels", "I", false)
  | 18 => ("SpliceroomModel", "limit", "I", false)
  | 19 => ("SpliceroomModel", "versionFilm", "[I", true)
  | 20 => ("SpliceroomModel", "country", "[I", true)
  | 21 => ("SpliceroomModel", "versions", "I", false)
  | 22 => ("SpliceroomModel", "out", "[I", true)
  | 23 => ("SpliceroomModel", "loanVersion", "[I", true)
  | 24 => ("SpliceroomModel", "loanRuns", "[I", true)
  | 25 => ("SpliceroomModel", "loanHeat", "[I", true)
  | 26 => ("SpliceroomModel", "loanDue", "[I", true)
  | 27 => ("SpliceroomModel", "isBack", "[Z", true)
  | 28 => ("SpliceroomModel", "loans", "I", false)
  | 29 => ("SpliceroomModel", "day", "I", false)
  | _ => ("SpliceroomModel", "shown", "J", false)
def tyX6 : Nat → FieldType := fun k => match k with
  | 0 => .int
  | 1 => .int
  | 2 => .array .int
  | 3 => .array .int
  | 4 => .array .int
  | 5 => .array .int
  | 6 => .array .int
  | 7 => .array .int
  | 8 => .array .int
  | 9 => .array .int
  | 10 => .array .int
  | 11 => .array .int
  | 12 => .int
  | 13 => .array .int
  | 14 => .array .int
  | 15 => .array .int
  | 16 => .array .int
  | 17 => .int
  | 18 => .int
  | 19 => .array .int
  | 20 => .array .int
  | 21 => .int
  | 22 => .array .int
  | 23 => .array .int
  | 24 => .array .int
  | 25 => .array .int
  | 26 => .array .int
  | 27 => .array .boolean
  | 28 => .int
  | 29 => .int
  | _ => .long
abbrev wsX60 : List Cond := u_ws RX6 TX6 31
theorem nmX6 : ∀ a, a < 31 → ∀ b, b < 31 → a ≠ b → (TX6 a).2.1 ≠ (TX6 b).2.1 := by decide +kernel
theorem tyX6_ok : ∀ k, k < 31 → parseFieldDescriptor (TX6 k).2.2.1 = some (tyX6 k) := by decide +kernel
abbrev cX6_init : ByteArray := prog_8_method_1_code
def yX6_init : MethodName := ⟨RX6, "<init>", "()V"⟩
abbrev cX6_thrown : ByteArray := prog_8_method_2_code
def yX6_thrown : MethodName := ⟨RX6, "thrown", "()I"⟩
abbrev cX6_in : ByteArray := prog_8_method_3_code
def yX6_in : MethodName := ⟨RX6, "in", "(III)Z"⟩
abbrev cX6_goesOn : ByteArray := prog_8_method_4_code
def yX6_goesOn : MethodName := ⟨RX6, "goesOn", "(I)Z"⟩
abbrev cX6_isFilm : ByteArray := prog_8_method_5_code
def yX6_isFilm : MethodName := ⟨RX6, "isFilm", "(I)Z"⟩
abbrev cX6_isShot : ByteArray := prog_8_method_6_code
def yX6_isShot : MethodName := ⟨RX6, "isShot", "(I)Z"⟩
abbrev cX6_isReel : ByteArray := prog_8_method_7_code
def yX6_isReel : MethodName := ⟨RX6, "isReel", "(I)Z"⟩
abbrev cX6_isVersion : ByteArray := prog_8_method_8_code
def yX6_isVersion : MethodName := ⟨RX6, "isVersion", "(I)Z"⟩
abbrev cX6_isLent : ByteArray := prog_8_method_9_code
def yX6_isLent : MethodName := ⟨RX6, "isLent", "(I)Z"⟩
abbrev cX6_addFilm : ByteArray := prog_8_method_10_code
def yX6_addFilm : MethodName := ⟨RX6, "addFilm", "()I"⟩
abbrev cX6_makes : ByteArray := prog_8_method_11_code
def yX6_makes : MethodName := ⟨RX6, "makes", "(IIII)I"⟩
abbrev cX6_areFine : ByteArray := prog_8_method_12_code
def yX6_areFine : MethodName := ⟨RX6, "areFine", "(II)Z"⟩
abbrev cX6_addShot : ByteArray := prog_8_method_13_code
def yX6_addShot : MethodName := ⟨RX6, "addShot", "(III)I"⟩
abbrev cX6_addReel : ByteArray := prog_8_method_14_code
def yX6_addReel : MethodName := ⟨RX6, "addReel", "(I)I"⟩
abbrev cX6_placeOf : ByteArray := prog_8_method_15_code
def yX6_placeOf : MethodName := ⟨RX6, "placeOf", "(I)I"⟩
abbrev cX6_lastOf : ByteArray := prog_8_method_16_code
def yX6_lastOf : MethodName := ⟨RX6, "lastOf", "(I)I"⟩
abbrev cX6_adds : ByteArray := prog_8_method_17_code
def yX6_adds : MethodName := ⟨RX6, "adds", "(III)V"⟩
abbrev cX6_put : ByteArray := prog_8_method_18_code
def yX6_put : MethodName := ⟨RX6, "put", "(II)I"⟩
abbrev cX6_found : ByteArray := prog_8_method_19_code
def yX6_found : MethodName := ⟨RX6, "found", "(IIII)I"⟩
abbrev cX6_join : ByteArray := prog_8_method_20_code
def yX6_join : MethodName := ⟨RX6, "join", "(II)I"⟩
abbrev cX6_shots : ByteArray := prog_8_method_21_code
def yX6_shots : MethodName := ⟨RX6, "shots", "(I)I"⟩
abbrev cX6_shotOf : ByteArray := prog_8_method_22_code
def yX6_shotOf : MethodName := ⟨RX6, "shotOf", "(II)I"⟩
abbrev cX6_lengthOf : ByteArray := prog_8_method_23_code
def yX6_lengthOf : MethodName := ⟨RX6, "lengthOf", "(I)I"⟩
abbrev cX6_framesAhead : ByteArray := prog_8_method_24_code
def yX6_framesAhead : MethodName := ⟨RX6, "framesAhead", "(II)I"⟩
abbrev cX6_frameOf : ByteArray := prog_8_method_25_code
def yX6_frameOf : MethodName := ⟨RX6, "frameOf", "(I)I"⟩
abbrev cX6_shotWith : ByteArray := prog_8_method_26_code
def yX6_shotWith : MethodName := ⟨RX6, "shotWith", "(II)I"⟩
abbrev cX6_shotAt : ByteArray := prog_8_method_27_code
def yX6_shotAt : MethodName := ⟨RX6, "shotAt", "(II)I"⟩
abbrev cX6_reelOf : ByteArray := prog_8_method_28_code
def yX6_reelOf : MethodName := ⟨RX6, "reelOf", "(I)I"⟩
abbrev cX6_greatest : ByteArray := prog_8_method_29_code
def yX6_greatest : MethodName := ⟨RX6, "greatest", "(I)I"⟩
abbrev cX6_hasLoan : ByteArray := prog_8_method_30_code
def yX6_hasLoan : MethodName := ⟨RX6, "hasLoan", "()Z"⟩
abbrev cX6_setLimit : ByteArray := prog_8_method_31_code
def yX6_setLimit : MethodName := ⟨RX6, "setLimit", "(I)I"⟩
abbrev cX6_framesOn : ByteArray := prog_8_method_32_code
def yX6_framesOn : MethodName := ⟨RX6, "framesOn", "(I)I"⟩
abbrev cX6_bears : ByteArray := prog_8_method_33_code
def yX6_bears : MethodName := ⟨RX6, "bears", "(II)Z"⟩
abbrev cX6_wears : ByteArray := prog_8_method_34_code
def yX6_wears : MethodName := ⟨RX6, "wears", "(II)V"⟩
abbrev cX6_run : ByteArray := prog_8_method_35_code
def yX6_run : MethodName := ⟨RX6, "run", "(I)I"⟩
abbrev cX6_isSplice : ByteArray := prog_8_method_36_code
def yX6_isSplice : MethodName := ⟨RX6, "isSplice", "(II)Z"⟩
abbrev cX6_wear : ByteArray := prog_8_method_37_code
def yX6_wear : MethodName := ⟨RX6, "wear", "(II)I"⟩
abbrev cX6_mend : ByteArray := prog_8_method_38_code
def yX6_mend : MethodName := ⟨RX6, "mend", "(II)I"⟩
abbrev cX6_isWorn : ByteArray := prog_8_method_39_code
def yX6_isWorn : MethodName := ⟨RX6, "isWorn", "(II)Z"⟩
abbrev cX6_scan : ByteArray := prog_8_method_40_code
def yX6_scan : MethodName := ⟨RX6, "scan", "(II)I"⟩
abbrev cX6_scanned : ByteArray := prog_8_method_41_code
def yX6_scanned : MethodName := ⟨RX6, "scanned", "(I)I"⟩
abbrev cX6_missed : ByteArray := prog_8_method_42_code
def yX6_missed : MethodName := ⟨RX6, "missed", "(I)I"⟩
abbrev cX6_gradeNow : ByteArray := prog_8_method_43_code
def yX6_gradeNow : MethodName := ⟨RX6, "gradeNow", "(I)I"⟩
abbrev cX6_grade : ByteArray := prog_8_method_44_code
def yX6_grade : MethodName := ⟨RX6, "grade", "(II)I"⟩
abbrev cX6_passOn : ByteArray := prog_8_method_45_code
def yX6_passOn : MethodName := ⟨RX6, "passOn", "(I)I"⟩
abbrev cX6_gradeOf : ByteArray := prog_8_method_46_code
def yX6_gradeOf : MethodName := ⟨RX6, "gradeOf", "(I)I"⟩
abbrev cX6_gradeFrom : ByteArray := prog_8_method_47_code
def yX6_gradeFrom : MethodName := ⟨RX6, "gradeFrom", "(I)I"⟩
abbrev cX6_addVersion : ByteArray := prog_8_method_48_code
def yX6_addVersion : MethodName := ⟨RX6, "addVersion", "(II)I"⟩
abbrev cX6_isOutOf : ByteArray := prog_8_method_49_code
def yX6_isOutOf : MethodName := ⟨RX6, "isOutOf", "(III)Z"⟩
abbrev cX6_leaveOut : ByteArray := prog_8_method_50_code
def yX6_leaveOut : MethodName := ⟨RX6, "leaveOut", "(IIIZ)I"⟩
abbrev cX6_frames : ByteArray := prog_8_method_51_code
def yX6_frames : MethodName := ⟨RX6, "frames", "(I)I"⟩
abbrev cX6_lend : ByteArray := prog_8_method_52_code
def yX6_lend : MethodName := ⟨RX6, "lend", "(IIII)I"⟩
abbrev cX6_isLoan : ByteArray := prog_8_method_53_code
def yX6_isLoan : MethodName := ⟨RX6, "isLoan", "(I)Z"⟩
abbrev cX6_show : ByteArray := prog_8_method_54_code
def yX6_show : MethodName := ⟨RX6, "show", "(I)I"⟩
abbrev cX6_giveBack : ByteArray := prog_8_method_55_code
def yX6_giveBack : MethodName := ⟨RX6, "giveBack", "(I)I"⟩
abbrev cX6_advance : ByteArray := prog_8_method_56_code
def yX6_advance : MethodName := ⟨RX6, "advance", "(I)I"⟩
abbrev cX6_shown : ByteArray := prog_8_method_57_code
def yX6_shown : MethodName := ⟨RX6, "shown", "()J"⟩
abbrev cX6_keptShare : ByteArray := prog_8_method_58_code
def yX6_keptShare : MethodName := ⟨RX6, "keptShare", "()F"⟩
abbrev cX6_meanWear : ByteArray := prog_8_method_59_code
def yX6_meanWear : MethodName := ⟨RX6, "meanWear", "()D"⟩
abbrev cX6_isSound : ByteArray := prog_8_method_60_code
def yX6_isSound : MethodName := ⟨RX6, "isSound", "()Z"⟩
def RJx145de : String := "java/io/Serializable"
def TJx145de : u_T := fun k => match k with
  | _ => ("", "", "", false)
def tyJx145de : Nat → FieldType := fun k => match k with
  | _ => .int
abbrev wsJx145de0 : List Cond := u_ws RJx145de TJx145de 0
theorem nmJx145de : ∀ a, a < 0 → ∀ b, b < 0 → a ≠ b → (TJx145de a).2.1 ≠ (TJx145de b).2.1 := by decide +kernel
theorem tyJx145de_ok : ∀ k, k < 0 → parseFieldDescriptor (TJx145de k).2.2.1 = some (tyJx145de k) := by decide +kernel
def RJ5 : String := "java/lang/AbstractStringBuilder"
def TJ5 : u_T := fun k => match k with
  | _ => ("", "", "", false)
def tyJ5 : Nat → FieldType := fun k => match k with
  | _ => .int
abbrev wsJ50 : List Cond := u_ws RJ5 TJ5 0
theorem nmJ5 : ∀ a, a < 0 → ∀ b, b < 0 → a ≠ b → (TJ5 a).2.1 ≠ (TJ5 b).2.1 := by decide +kernel
theorem tyJ5_ok : ∀ k, k < 0 → parseFieldDescriptor (TJ5 k).2.2.1 = some (tyJ5 k) := by decide +kernel
abbrev cJ5_init_d00df : ByteArray := prog_10_method_2_code
def yJ5_init_d00df : MethodName := ⟨RJ5, "<init>", "(I)V"⟩
abbrev cJ5_length_8abf5 : ByteArray := prog_10_method_6_code
def yJ5_length_8abf5 : MethodName := ⟨RJ5, "length", "()I"⟩
abbrev cJ5_ensureCapacityInternal_d00df : ByteArray := prog_10_method_9_code
def yJ5_ensureCapacityInternal_d00df : MethodName := ⟨RJ5, "ensureCapacityInternal", "(I)V"⟩
abbrev cJ5_newCapacity_0f7a4 : ByteArray := prog_10_method_10_code
def yJ5_newCapacity_0f7a4 : MethodName := ⟨RJ5, "newCapacity", "(I)I"⟩
abbrev cJ5_inflate_da8c8 : ByteArray := prog_10_method_11_code
def yJ5_inflate_da8c8 : MethodName := ⟨RJ5, "inflate", "()V"⟩
abbrev cJ5_append_cf1ce : ByteArray := prog_10_method_22_code
def yJ5_append_cf1ce : MethodName := ⟨RJ5, "append", "(Ljava/lang/String;)Ljava/lang/AbstractStringBuilder;"⟩
abbrev cJ5_appendNull_278bc : ByteArray := prog_10_method_26_code
def yJ5_appendNull_278bc : MethodName := ⟨RJ5, "appendNull", "()Ljava/lang/AbstractStringBuilder;"⟩
abbrev cJ5_append_c97b9 : ByteArray := prog_10_method_32_code
def yJ5_append_c97b9 : MethodName := ⟨RJ5, "append", "(I)Ljava/lang/AbstractStringBuilder;"⟩
abbrev cJ5_getValue_6d5f1 : ByteArray := prog_10_method_64_code
def yJ5_getValue_6d5f1 : MethodName := ⟨RJ5, "getValue", "()[B"⟩
abbrev cJ5_isLatin1_aae02 : ByteArray := prog_10_method_68_code
def yJ5_isLatin1_aae02 : MethodName := ⟨RJ5, "isLatin1", "()Z"⟩
abbrev cJ5_inflateIfNeededFor_a7421 : ByteArray := prog_10_method_71_code
def yJ5_inflateIfNeededFor_a7421 : MethodName := ⟨RJ5, "inflateIfNeededFor", "(Ljava/lang/String;)V"⟩
abbrev cJ5_putStringAt_47b60 : ByteArray := prog_10_method_73_code
def yJ5_putStringAt_47b60 : MethodName := ⟨RJ5, "putStringAt", "(ILjava/lang/String;)V"⟩
def RJx2cfe8 : String := "java/lang/Appendable"
def TJx2cfe8 : u_T := fun k => match k with
  | _ => ("", "", "", false)
def tyJx2cfe8 : Nat → FieldType := fun k => match k with
  | _ => .int
abbrev wsJx2cfe80 : List Cond := u_ws RJx2cfe8 TJx2cfe8 0
theorem nmJx2cfe8 : ∀ a, a < 0 → ∀ b, b < 0 → a ≠ b → (TJx2cfe8 a).2.1 ≠ (TJx2cfe8 b).2.1 := by decide +kernel
theorem tyJx2cfe8_ok : ∀ k, k < 0 → parseFieldDescriptor (TJx2cfe8 k).2.2.1 = some (tyJx2cfe8 k) := by decide +kernel
def RJx00060 : String := "java/lang/ArrayIndexOutOfBoundsException"
def TJx00060 : u_T := fun k => match k with
  | 0 => ("java/lang/Throwable", "backtrace", "Ljava/lang/Object;", false)
  | 1 => ("java/lang/Throwable", "detailMessage", "Ljava/lang/String;", false)
  | 2 => ("java/lang/Throwable", "cause", "Ljava/lang/Throwable;", false)
  | 3 => ("java/lang/Throwable", "stackTrace", "[Ljava/lang/StackTraceElement;", false)
  | 4 => ("java/lang/Throwable", "depth", "I", false)
  | _ => ("java/lang/Throwable", "suppressedExceptions", "Ljava/util/List;", false)
def tyJx00060 : Nat → FieldType := fun k => match k with
  | 0 => .object "java/lang/Object"
  | 1 => .object "java/lang/String"
  | 2 => .object "java/lang/Throwable"
  | 3 => .array (.object "java/lang/StackTraceElement")
  | 4 => .int
  | _ => .object "java/util/List"
abbrev wsJx000600 : List Cond := u_ws RJx00060 TJx00060 6
theorem nmJx00060 : ∀ a, a < 6 → ∀ b, b < 6 → a ≠ b → (TJx00060 a).2.1 ≠ (TJx00060 b).2.1 := by decide +kernel
theorem tyJx00060_ok : ∀ k, k < 6 → parseFieldDescriptor (TJx00060 k).2.2.1 = some (tyJx00060 k) := by decide +kernel
abbrev cJx00060_init_a7421 : ByteArray := prog_13_method_2_code
def yJx00060_init_a7421 : MethodName := ⟨RJx00060, "<init>", "(Ljava/lang/String;)V"⟩
def RJx9f9b0 : String := "java/lang/CharSequence"
def TJx9f9b0 : u_T := fun k => match k with
  | _ => ("", "", "", false)
def tyJx9f9b0 : Nat → FieldType := fun k => match k with
  | _ => .int
abbrev wsJx9f9b00 : List Cond := u_ws RJx9f9b0 TJx9f9b0 0
theorem nmJx9f9b0 : ∀ a, a < 0 → ∀ b, b < 0 → a ≠ b → (TJx9f9b0 a).2.1 ≠ (TJx9f9b0 b).2.1 := by decide +kernel
theorem tyJx9f9b0_ok : ∀ k, k < 0 → parseFieldDescriptor (TJx9f9b0 k).2.2.1 = some (tyJx9f9b0 k) := by decide +kernel
def RJx8e188 : String := "java/lang/Cloneable"
def TJx8e188 : u_T := fun k => match k with
  | _ => ("", "", "", false)
def tyJx8e188 : Nat → FieldType := fun k => match k with
  | _ => .int
abbrev wsJx8e1880 : List Cond := u_ws RJx8e188 TJx8e188 0
theorem nmJx8e188 : ∀ a, a < 0 → ∀ b, b < 0 → a ≠ b → (TJx8e188 a).2.1 ≠ (TJx8e188 b).2.1 := by decide +kernel
theorem tyJx8e188_ok : ∀ k, k < 0 → parseFieldDescriptor (TJx8e188 k).2.2.1 = some (tyJx8e188 k) := by decide +kernel
def RJxb160c : String := "java/lang/Comparable"
def TJxb160c : u_T := fun k => match k with
  | _ => ("", "", "", false)
def tyJxb160c : Nat → FieldType := fun k => match k with
  | _ => .int
abbrev wsJxb160c0 : List Cond := u_ws RJxb160c TJxb160c 0
theorem nmJxb160c : ∀ a, a < 0 → ∀ b, b < 0 → a ≠ b → (TJxb160c a).2.1 ≠ (TJxb160c b).2.1 := by decide +kernel
theorem tyJxb160c_ok : ∀ k, k < 0 → parseFieldDescriptor (TJxb160c k).2.2.1 = some (tyJxb160c k) := by decide +kernel
def RJ6 : String := "java/lang/Integer"
def TJ6 : u_T := fun k => match k with
  | _ => ("", "", "", false)
def tyJ6 : Nat → FieldType := fun k => match k with
  | _ => .int
abbrev wsJ60 : List Cond := u_ws RJ6 TJ6 0
theorem nmJ6 : ∀ a, a < 0 → ∀ b, b < 0 → a ≠ b → (TJ6 a).2.1 ≠ (TJ6 b).2.1 := by decide +kernel
theorem tyJ6_ok : ∀ k, k < 0 → parseFieldDescriptor (TJ6 k).2.2.1 = some (tyJ6 k) := by decide +kernel
abbrev cJ6_getChars_ba4f3 : ByteArray := prog_21_method_12_code
def yJ6_getChars_ba4f3 : MethodName := ⟨RJ6, "getChars", "(II[B)I"⟩
abbrev cJ6_stringSize_0f7a4 : ByteArray := prog_21_method_13_code
def yJ6_stringSize_0f7a4 : MethodName := ⟨RJ6, "stringSize", "(I)I"⟩
def RJxab1ab : String := "java/lang/Iterable"
def TJxab1ab : u_T := fun k => match k with
  | _ => ("", "", "", false)
def tyJxab1ab : Nat → FieldType := fun k => match k with
  | _ => .int
abbrev wsJxab1ab0 : List Cond := u_ws RJxab1ab TJxab1ab 0
theorem nmJxab1ab : ∀ a, a < 0 → ∀ b, b < 0 → a ≠ b → (TJxab1ab a).2.1 ≠ (TJxab1ab b).2.1 := by decide +kernel
theorem tyJxab1ab_ok : ∀ k, k < 0 → parseFieldDescriptor (TJxab1ab k).2.2.1 = some (tyJxab1ab k) := by decide +kernel
def RJ13 : String := "java/lang/Long"
def TJ13 : u_T := fun k => match k with
  | _ => ("", "", "", false)
def tyJ13 : Nat → FieldType := fun k => match k with
  | _ => .int
abbrev wsJ130 : List Cond := u_ws RJ13 TJ13 0
theorem nmJ13 : ∀ a, a < 0 → ∀ b, b < 0 → a ≠ b → (TJ13 a).2.1 ≠ (TJ13 b).2.1 := by decide +kernel
theorem tyJ13_ok : ∀ k, k < 0 → parseFieldDescriptor (TJ13 k).2.2.1 = some (tyJ13 k) := by decide +kernel
abbrev cJ13_bitCount_95d88 : ByteArray := prog_23_method_50_code
def yJ13_bitCount_95d88 : MethodName := ⟨RJ13, "bitCount", "(J)I"⟩
def RJ9 : String := "java/lang/Math"
def TJ9 : u_T := fun k => match k with
  | _ => ("", "", "", false)
def tyJ9 : Nat → FieldType := fun k => match k with
  | _ => .int
abbrev wsJ90 : List Cond := u_ws RJ9 TJ9 0
theorem nmJ9 : ∀ a, a < 0 → ∀ b, b < 0 → a ≠ b → (TJ9 a).2.1 ≠ (TJ9 b).2.1 := by decide +kernel
theorem tyJ9_ok : ∀ k, k < 0 → parseFieldDescriptor (TJ9 k).2.2.1 = some (tyJ9 k) := by decide +kernel
abbrev cJ9_max_7cf53 : ByteArray := prog_24_method_65_code
def yJ9_max_7cf53 : MethodName := ⟨RJ9, "max", "(II)I"⟩
abbrev cJ9_min_7cf53 : ByteArray := prog_24_method_69_code
def yJ9_min_7cf53 : MethodName := ⟨RJ9, "min", "(II)I"⟩
def RJxd2413 : String := "java/lang/Number"
def TJxd2413 : u_T := fun k => match k with
  | _ => ("", "", "", false)
def tyJxd2413 : Nat → FieldType := fun k => match k with
  | _ => .int
abbrev wsJxd24130 : List Cond := u_ws RJxd2413 TJxd2413 0
theorem nmJxd2413 : ∀ a, a < 0 → ∀ b, b < 0 → a ≠ b → (TJxd2413 a).2.1 ≠ (TJxd2413 b).2.1 := by decide +kernel
theorem tyJxd2413_ok : ∀ k, k < 0 → parseFieldDescriptor (TJxd2413 k).2.2.1 = some (tyJxd2413 k) := by decide +kernel
def RJ0 : String := "java/lang/String"
def TJ0 : u_T := fun k => match k with
  | 0 => ("java/lang/String", "value", "[B", true)
  | 1 => ("java/lang/String", "coder", "B", true)
  | 2 => ("java/lang/String", "hash", "I", false)
  | _ => ("java/lang/String", "hashIsZero", "Z", false)
def tyJ0 : Nat → FieldType := fun k => match k with
  | 0 => .array .byte
  | 1 => .byte
  | 2 => .int
  | _ => .boolean
abbrev wsJ00 : List Cond := u_ws RJ0 TJ0 4
theorem nmJ0 : ∀ a, a < 4 → ∀ b, b < 4 → a ≠ b → (TJ0 a).2.1 ≠ (TJ0 b).2.1 := by decide +kernel
theorem tyJ0_ok : ∀ k, k < 4 → parseFieldDescriptor (TJ0 k).2.2.1 = some (tyJ0 k) := by decide +kernel
abbrev cJ0_init_81219 : ByteArray := prog_27_method_53_code
def yJ0_init_81219 : MethodName := ⟨RJ0, "<init>", "(Ljava/lang/StringBuilder;)V"⟩
abbrev cJ0_length_8abf5 : ByteArray := prog_27_method_54_code
def yJ0_length_8abf5 : MethodName := ⟨RJ0, "length", "()I"⟩
abbrev cJ0_getBytes_840e7 : ByteArray := prog_27_method_147_code
def yJ0_getBytes_840e7 : MethodName := ⟨RJ0, "getBytes", "([BIB)V"⟩
abbrev cJ0_init_db425 : ByteArray := prog_27_method_150_code
def yJ0_init_db425 : MethodName := ⟨RJ0, "<init>", "(Ljava/lang/AbstractStringBuilder;Ljava/lang/Void;)V"⟩
abbrev cJ0_coder_7d493 : ByteArray := prog_27_method_152_code
def yJ0_coder_7d493 : MethodName := ⟨RJ0, "coder", "()B"⟩
abbrev cJ0_checkBoundsOffCount_cabcc : ByteArray := prog_27_method_157_code
def yJ0_checkBoundsOffCount_cabcc : MethodName := ⟨RJ0, "checkBoundsOffCount", "(III)I"⟩
abbrev cJ0_checkBoundsBeginEnd_23922 : ByteArray := prog_27_method_158_code
def yJ0_checkBoundsBeginEnd_23922 : MethodName := ⟨RJ0, "checkBoundsBeginEnd", "(III)V"⟩
def RJ4 : String := "java/lang/StringBuilder"
def TJ4 : u_T := fun k => match k with
  | 0 => ("java/lang/AbstractStringBuilder", "value", "[B", false)
  | 1 => ("java/lang/AbstractStringBuilder", "coder", "B", false)
  | 2 => ("java/lang/AbstractStringBuilder", "maybeLatin1", "Z", false)
  | _ => ("java/lang/AbstractStringBuilder", "count", "I", false)
def tyJ4 : Nat → FieldType := fun k => match k with
  | 0 => .array .byte
  | 1 => .byte
  | 2 => .boolean
  | _ => .int
abbrev wsJ40 : List Cond := u_ws RJ4 TJ4 4
theorem nmJ4 : ∀ a, a < 4 → ∀ b, b < 4 → a ≠ b → (TJ4 a).2.1 ≠ (TJ4 b).2.1 := by decide +kernel
theorem tyJ4_ok : ∀ k, k < 4 → parseFieldDescriptor (TJ4 k).2.2.1 = some (tyJ4 k) := by decide +kernel
abbrev cJ4_init_da8c8 : ByteArray := prog_28_method_1_code
def yJ4_init_da8c8 : MethodName := ⟨RJ4, "<init>", "()V"⟩
abbrev cJ4_append_15ec4 : ByteArray := prog_28_method_7_code
def yJ4_append_15ec4 : MethodName := ⟨RJ4, "append", "(Ljava/lang/String;)Ljava/lang/StringBuilder;"⟩
abbrev cJ4_append_bf812 : ByteArray := prog_28_method_15_code
def yJ4_append_bf812 : MethodName := ⟨RJ4, "append", "(I)Ljava/lang/StringBuilder;"⟩
abbrev cJ4_toString_0e30d : ByteArray := prog_28_method_42_code
def yJ4_toString_0e30d : MethodName := ⟨RJ4, "toString", "()Ljava/lang/String;"⟩
abbrev cJ4_length_8abf5 : ByteArray := prog_28_method_93_code
def yJ4_length_8abf5 : MethodName := ⟨RJ4, "length", "()I"⟩
def RJ1 : String := "java/lang/StringLatin1"
def TJ1 : u_T := fun k => match k with
  | _ => ("", "", "", false)
def tyJ1 : Nat → FieldType := fun k => match k with
  | _ => .int
abbrev wsJ10 : List Cond := u_ws RJ1 TJ1 0
theorem nmJ1 : ∀ a, a < 0 → ∀ b, b < 0 → a ≠ b → (TJ1 a).2.1 ≠ (TJ1 b).2.1 := by decide +kernel
theorem tyJ1_ok : ∀ k, k < 0 → parseFieldDescriptor (TJ1 k).2.2.1 = some (tyJ1 k) := by decide +kernel
abbrev cJ1_inflate_0e8fd : ByteArray := prog_29_method_50_code
def yJ1_inflate_0e8fd : MethodName := ⟨RJ1, "inflate", "([BI[BII)V"⟩
def RJ2 : String := "java/lang/StringUTF16"
def TJ2 : u_T := fun k => match k with
  | _ => ("", "", "", false)
def tyJ2 : Nat → FieldType := fun k => match k with
  | _ => .int
abbrev wsJ20 : List Cond := u_ws RJ2 TJ2 0
theorem nmJ2 : ∀ a, a < 0 → ∀ b, b < 0 → a ≠ b → (TJ2 a).2.1 ≠ (TJ2 b).2.1 := by decide +kernel
theorem tyJ2_ok : ∀ k, k < 0 → parseFieldDescriptor (TJ2 k).2.2.1 = some (tyJ2 k) := by decide +kernel
abbrev cJ2_newBytesFor_77867 : ByteArray := prog_30_method_2_code
def yJ2_newBytesFor_77867 : MethodName := ⟨RJ2, "newBytesFor", "(I)[B"⟩
abbrev cJ2_newBytesLength_0f7a4 : ByteArray := prog_30_method_3_code
def yJ2_newBytesLength_0f7a4 : MethodName := ⟨RJ2, "newBytesLength", "(I)I"⟩
abbrev cJ2_putChar_b72d1 : ByteArray := prog_30_method_4_code
def yJ2_putChar_b72d1 : MethodName := ⟨RJ2, "putChar", "([BII)V"⟩
abbrev cJ2_getChar_3b067 : ByteArray := prog_30_method_5_code
def yJ2_getChar_3b067 : MethodName := ⟨RJ2, "getChar", "([BI)C"⟩
abbrev cJ2_length_9d52b : ByteArray := prog_30_method_6_code
def yJ2_length_9d52b : MethodName := ⟨RJ2, "length", "([B)I"⟩
abbrev cJ2_coderFromArrayLen_85cad : ByteArray := prog_30_method_15_code
def yJ2_coderFromArrayLen_85cad : MethodName := ⟨RJ2, "coderFromArrayLen", "([BI)B"⟩
abbrev cJ2_compress_39247 : ByteArray := prog_30_method_17_code
def yJ2_compress_39247 : MethodName := ⟨RJ2, "compress", "([BII)[B"⟩
abbrev cJ2_compress_5af95 : ByteArray := prog_30_method_22_code
def yJ2_compress_5af95 : MethodName := ⟨RJ2, "compress", "([BI[BII)I"⟩
abbrev cJ2_getChars_46870 : ByteArray := prog_30_method_77_code
def yJ2_getChars_46870 : MethodName := ⟨RJ2, "getChars", "(III[B)I"⟩
abbrev cJ2_putCharsAt_cd4e5 : ByteArray := prog_30_method_81_code
def yJ2_putCharsAt_cd4e5 : MethodName := ⟨RJ2, "putCharsAt", "([BICCCC)I"⟩
abbrev cJ2_inflate_0e8fd : ByteArray := prog_30_method_86_code
def yJ2_inflate_0e8fd : MethodName := ⟨RJ2, "inflate", "([BI[BII)V"⟩
abbrev cJ2_getChars_ba4f3 : ByteArray := prog_30_method_89_code
def yJ2_getChars_ba4f3 : MethodName := ⟨RJ2, "getChars", "(II[B)I"⟩
abbrev cJ2_checkBoundsBeginEnd_d044e : ByteArray := prog_30_method_93_code
def yJ2_checkBoundsBeginEnd_d044e : MethodName := ⟨RJ2, "checkBoundsBeginEnd", "(II[B)V"⟩
abbrev cJ2_checkBoundsOffCount_d044e : ByteArray := prog_30_method_94_code
def yJ2_checkBoundsOffCount_d044e : MethodName := ⟨RJ2, "checkBoundsOffCount", "(II[B)V"⟩
def RJ10 : String := "java/lang/System"
def TJ10 : u_T := fun k => match k with
  | _ => ("", "", "", false)
def tyJ10 : Nat → FieldType := fun k => match k with
  | _ => .int
abbrev wsJ100 : List Cond := u_ws RJ10 TJ10 0
theorem nmJ10 : ∀ a, a < 0 → ∀ b, b < 0 → a ≠ b → (TJ10 a).2.1 ≠ (TJ10 b).2.1 := by decide +kernel
theorem tyJ10_ok : ∀ k, k < 0 → parseFieldDescriptor (TJ10 k).2.2.1 = some (tyJ10 k) := by decide +kernel
def RJxfd54e : String := "java/lang/constant/Constable"
def TJxfd54e : u_T := fun k => match k with
  | _ => ("", "", "", false)
def tyJxfd54e : Nat → FieldType := fun k => match k with
  | _ => .int
abbrev wsJxfd54e0 : List Cond := u_ws RJxfd54e TJxfd54e 0
theorem nmJxfd54e : ∀ a, a < 0 → ∀ b, b < 0 → a ≠ b → (TJxfd54e a).2.1 ≠ (TJxfd54e b).2.1 := by decide +kernel
theorem tyJxfd54e_ok : ∀ k, k < 0 → parseFieldDescriptor (TJxfd54e k).2.2.1 = some (tyJxfd54e k) := by decide +kernel
def RJx3cf43 : String := "java/lang/constant/ConstantDesc"
def TJx3cf43 : u_T := fun k => match k with
  | _ => ("", "", "", false)
def tyJx3cf43 : Nat → FieldType := fun k => match k with
  | _ => .int
abbrev wsJx3cf430 : List Cond := u_ws RJx3cf43 TJx3cf43 0
theorem nmJx3cf43 : ∀ a, a < 0 → ∀ b, b < 0 → a ≠ b → (TJx3cf43 a).2.1 ≠ (TJx3cf43 b).2.1 := by decide +kernel
theorem tyJx3cf43_ok : ∀ k, k < 0 → parseFieldDescriptor (TJx3cf43 k).2.2.1 = some (tyJx3cf43 k) := by decide +kernel
def RJxa1e45 : String := "java/util/AbstractCollection"
def TJxa1e45 : u_T := fun k => match k with
  | _ => ("", "", "", false)
def tyJxa1e45 : Nat → FieldType := fun k => match k with
  | _ => .int
abbrev wsJxa1e450 : List Cond := u_ws RJxa1e45 TJxa1e45 0
theorem nmJxa1e45 : ∀ a, a < 0 → ∀ b, b < 0 → a ≠ b → (TJxa1e45 a).2.1 ≠ (TJxa1e45 b).2.1 := by decide +kernel
theorem tyJxa1e45_ok : ∀ k, k < 0 → parseFieldDescriptor (TJxa1e45 k).2.2.1 = some (tyJxa1e45 k) := by decide +kernel
abbrev cJxa1e45_init_da8c8 : ByteArray := prog_36_method_1_code
def yJxa1e45_init_da8c8 : MethodName := ⟨RJxa1e45, "<init>", "()V"⟩
def RJxc12de : String := "java/util/AbstractList"
def TJxc12de : u_T := fun k => match k with
  | _ => ("", "", "", false)
def tyJxc12de : Nat → FieldType := fun k => match k with
  | _ => .int
abbrev wsJxc12de0 : List Cond := u_ws RJxc12de TJxc12de 0
theorem nmJxc12de : ∀ a, a < 0 → ∀ b, b < 0 → a ≠ b → (TJxc12de a).2.1 ≠ (TJxc12de b).2.1 := by decide +kernel
theorem tyJxc12de_ok : ∀ k, k < 0 → parseFieldDescriptor (TJxc12de k).2.2.1 = some (tyJxc12de k) := by decide +kernel
abbrev cJxc12de_init_da8c8 : ByteArray := prog_37_method_1_code
def yJxc12de_init_da8c8 : MethodName := ⟨RJxc12de, "<init>", "()V"⟩
def RJx4a65c : String := "java/util/ArrayList"
def TJx4a65c : u_T := fun k => match k with
  | 0 => ("java/util/AbstractList", "modCount", "I", false)
  | 1 => ("java/util/ArrayList", "elementData", "[Ljava/lang/Object;", false)
  | _ => ("java/util/ArrayList", "size", "I", false)
def tyJx4a65c : Nat → FieldType := fun k => match k with
  | 0 => .int
  | 1 => .array (.object "java/lang/Object")
  | _ => .int
abbrev wsJx4a65c0 : List Cond := u_ws RJx4a65c TJx4a65c 3
theorem nmJx4a65c : ∀ a, a < 3 → ∀ b, b < 3 → a ≠ b → (TJx4a65c a).2.1 ≠ (TJx4a65c b).2.1 := by decide +kernel
theorem tyJx4a65c_ok : ∀ k, k < 3 → parseFieldDescriptor (TJx4a65c k).2.2.1 = some (tyJx4a65c k) := by decide +kernel
abbrev cJx4a65c_init_da8c8 : ByteArray := prog_38_method_2_code
def yJx4a65c_init_da8c8 : MethodName := ⟨RJx4a65c, "<init>", "()V"⟩
abbrev cJx4a65c_grow_92f84 : ByteArray := prog_38_method_6_code
def yJx4a65c_grow_92f84 : MethodName := ⟨RJx4a65c, "grow", "(I)[Ljava/lang/Object;"⟩
abbrev cJx4a65c_grow_d5877 : ByteArray := prog_38_method_7_code
def yJx4a65c_grow_d5877 : MethodName := ⟨RJx4a65c, "grow", "()[Ljava/lang/Object;"⟩
abbrev cJx4a65c_size_8abf5 : ByteArray := prog_38_method_8_code
def yJx4a65c_size_8abf5 : MethodName := ⟨RJx4a65c, "size", "()I"⟩
abbrev cJx4a65c_isEmpty_aae02 : ByteArray := prog_38_method_9_code
def yJx4a65c_isEmpty_aae02 : MethodName := ⟨RJx4a65c, "isEmpty", "()Z"⟩
abbrev cJx4a65c_elementData_915e3 : ByteArray := prog_38_method_18_code
def yJx4a65c_elementData_915e3 : MethodName := ⟨RJx4a65c, "elementData", "(I)Ljava/lang/Object;"⟩
abbrev cJx4a65c_get_915e3 : ByteArray := prog_38_method_20_code
def yJx4a65c_get_915e3 : MethodName := ⟨RJx4a65c, "get", "(I)Ljava/lang/Object;"⟩
abbrev cJx4a65c_add_72be8 : ByteArray := prog_38_method_24_code
def yJx4a65c_add_72be8 : MethodName := ⟨RJx4a65c, "add", "(Ljava/lang/Object;[Ljava/lang/Object;I)V"⟩
abbrev cJx4a65c_add_9ea2d : ByteArray := prog_38_method_25_code
def yJx4a65c_add_9ea2d : MethodName := ⟨RJx4a65c, "add", "(Ljava/lang/Object;)Z"⟩
abbrev cJx4a65c_add_7a177 : ByteArray := prog_38_method_26_code
def yJx4a65c_add_7a177 : MethodName := ⟨RJx4a65c, "add", "(ILjava/lang/Object;)V"⟩
abbrev cJx4a65c_clear_da8c8 : ByteArray := prog_38_method_40_code
def yJx4a65c_clear_da8c8 : MethodName := ⟨RJx4a65c, "clear", "()V"⟩
abbrev cJx4a65c_rangeCheckForAdd_d00df : ByteArray := prog_38_method_45_code
def yJx4a65c_rangeCheckForAdd_d00df : MethodName := ⟨RJx4a65c, "rangeCheckForAdd", "(I)V"⟩
abbrev cJx4a65c_outOfBoundsMsg_b52d3 : ByteArray := prog_38_method_46_code
def yJx4a65c_outOfBoundsMsg_b52d3 : MethodName := ⟨RJx4a65c, "outOfBoundsMsg", "(I)Ljava/lang/String;"⟩
def RJ7 : String := "java/util/Arrays"
def TJ7 : u_T := fun k => match k with
  | _ => ("", "", "", false)
def tyJ7 : Nat → FieldType := fun k => match k with
  | _ => .int
abbrev wsJ70 : List Cond := u_ws RJ7 TJ7 0
theorem nmJ7 : ∀ a, a < 0 → ∀ b, b < 0 → a ≠ b → (TJ7 a).2.1 ≠ (TJ7 b).2.1 := by decide +kernel
theorem tyJ7_ok : ∀ k, k < 0 → parseFieldDescriptor (TJ7 k).2.2.1 = some (tyJ7 k) := by decide +kernel
abbrev cJ7_copyOf_1904c : ByteArray := prog_39_method_119_code
def yJ7_copyOf_1904c : MethodName := ⟨RJ7, "copyOf", "([Ljava/lang/Object;I)[Ljava/lang/Object;"⟩
abbrev cJ7_copyOf_6403c : ByteArray := prog_39_method_120_code
def yJ7_copyOf_6403c : MethodName := ⟨RJ7, "copyOf", "([Ljava/lang/Object;ILjava/lang/Class;)[Ljava/lang/Object;"⟩
abbrev cJ7_copyOf_9075b : ByteArray := prog_39_method_121_code
def yJ7_copyOf_9075b : MethodName := ⟨RJ7, "copyOf", "([BI)[B"⟩
abbrev cJ7_checkLength_df160 : ByteArray := prog_39_method_131_code
def yJ7_checkLength_df160 : MethodName := ⟨RJ7, "checkLength", "(II)V"⟩
abbrev cJ7_copyOfRange_39247 : ByteArray := prog_39_method_132_code
def yJ7_copyOfRange_39247 : MethodName := ⟨RJ7, "copyOfRange", "([BII)[B"⟩
abbrev cJ7_copyOfRangeByte_39247 : ByteArray := prog_39_method_133_code
def yJ7_copyOfRangeByte_39247 : MethodName := ⟨RJ7, "copyOfRangeByte", "([BII)[B"⟩
def RJx5ef63 : String := "java/util/Collection"
def TJx5ef63 : u_T := fun k => match k with
  | _ => ("", "", "", false)
def tyJx5ef63 : Nat → FieldType := fun k => match k with
  | _ => .int
abbrev wsJx5ef630 : List Cond := u_ws RJx5ef63 TJx5ef63 0
theorem nmJx5ef63 : ∀ a, a < 0 → ∀ b, b < 0 → a ≠ b → (TJx5ef63 a).2.1 ≠ (TJx5ef63 b).2.1 := by decide +kernel
theorem tyJx5ef63_ok : ∀ k, k < 0 → parseFieldDescriptor (TJx5ef63 k).2.2.1 = some (tyJx5ef63 k) := by decide +kernel
def RJxbd725 : String := "java/util/List"
def TJxbd725 : u_T := fun k => match k with
  | _ => ("", "", "", false)
def tyJxbd725 : Nat → FieldType := fun k => match k with
  | _ => .int
abbrev wsJxbd7250 : List Cond := u_ws RJxbd725 TJxbd725 0
theorem nmJxbd725 : ∀ a, a < 0 → ∀ b, b < 0 → a ≠ b → (TJxbd725 a).2.1 ≠ (TJxbd725 b).2.1 := by decide +kernel
theorem tyJxbd725_ok : ∀ k, k < 0 → parseFieldDescriptor (TJxbd725 k).2.2.1 = some (tyJxbd725 k) := by decide +kernel
def RJ15 : String := "java/util/Objects"
def TJ15 : u_T := fun k => match k with
  | _ => ("", "", "", false)
def tyJ15 : Nat → FieldType := fun k => match k with
  | _ => .int
abbrev wsJ150 : List Cond := u_ws RJ15 TJ15 0
theorem nmJ15 : ∀ a, a < 0 → ∀ b, b < 0 → a ≠ b → (TJ15 a).2.1 ≠ (TJ15 b).2.1 := by decide +kernel
theorem tyJ15_ok : ∀ k, k < 0 → parseFieldDescriptor (TJ15 k).2.2.1 = some (tyJ15 k) := by decide +kernel
abbrev cJ15_checkIndex_7cf53 : ByteArray := prog_43_method_17_code
def yJ15_checkIndex_7cf53 : MethodName := ⟨RJ15, "checkIndex", "(II)I"⟩
def RJxf0a74 : String := "java/util/RandomAccess"
def TJxf0a74 : u_T := fun k => match k with
  | _ => ("", "", "", false)
def tyJxf0a74 : Nat → FieldType := fun k => match k with
  | _ => .int
abbrev wsJxf0a740 : List Cond := u_ws RJxf0a74 TJxf0a74 0
theorem nmJxf0a74 : ∀ a, a < 0 → ∀ b, b < 0 → a ≠ b → (TJxf0a74 a).2.1 ≠ (TJxf0a74 b).2.1 := by decide +kernel
theorem tyJxf0a74_ok : ∀ k, k < 0 → parseFieldDescriptor (TJxf0a74 k).2.2.1 = some (tyJxf0a74 k) := by decide +kernel
def RJxa66e6 : String := "java/util/SequencedCollection"
def TJxa66e6 : u_T := fun k => match k with
  | _ => ("", "", "", false)
def tyJxa66e6 : Nat → FieldType := fun k => match k with
  | _ => .int
abbrev wsJxa66e60 : List Cond := u_ws RJxa66e6 TJxa66e6 0
theorem nmJxa66e6 : ∀ a, a < 0 → ∀ b, b < 0 → a ≠ b → (TJxa66e6 a).2.1 ≠ (TJxa66e6 b).2.1 := by decide +kernel
theorem tyJxa66e6_ok : ∀ k, k < 0 → parseFieldDescriptor (TJxa66e6 k).2.2.1 = some (tyJxa66e6 k) := by decide +kernel
def RJ8 : String := "jdk/internal/util/ArraysSupport"
def TJ8 : u_T := fun k => match k with
  | _ => ("", "", "", false)
def tyJ8 : Nat → FieldType := fun k => match k with
  | _ => .int
abbrev wsJ80 : List Cond := u_ws RJ8 TJ8 0
theorem nmJ8 : ∀ a, a < 0 → ∀ b, b < 0 → a ≠ b → (TJ8 a).2.1 ≠ (TJ8 b).2.1 := by decide +kernel
theorem tyJ8_ok : ∀ k, k < 0 → parseFieldDescriptor (TJ8 k).2.2.1 = some (tyJ8 k) := by decide +kernel
abbrev cJ8_newLength_cabcc : ByteArray := prog_46_method_27_code
def yJ8_newLength_cabcc : MethodName := ⟨RJ8, "newLength", "(III)I"⟩
abbrev cJ8_hugeLength_7cf53 : ByteArray := prog_46_method_28_code
def yJ8_hugeLength_7cf53 : MethodName := ⟨RJ8, "hugeLength", "(II)I"⟩
def RJ3 : String := "jdk/internal/util/Preconditions"
def TJ3 : u_T := fun k => match k with
  | _ => ("", "", "", false)
def tyJ3 : Nat → FieldType := fun k => match k with
  | _ => .int
abbrev wsJ30 : List Cond := u_ws RJ3 TJ3 0
theorem nmJ3 : ∀ a, a < 0 → ∀ b, b < 0 → a ≠ b → (TJ3 a).2.1 ≠ (TJ3 b).2.1 := by decide +kernel
theorem tyJ3_ok : ∀ k, k < 0 → parseFieldDescriptor (TJ3 k).2.2.1 = some (tyJ3 k) := by decide +kernel
abbrev cJ3_checkIndex_8e157 : ByteArray := prog_47_method_11_code
def yJ3_checkIndex_8e157 : MethodName := ⟨RJ3, "checkIndex", "(IILjava/util/function/BiFunction;)I"⟩
abbrev cJ3_checkFromToIndex_8c36e : ByteArray := prog_47_method_12_code
def yJ3_checkFromToIndex_8c36e : MethodName := ⟨RJ3, "checkFromToIndex", "(IIILjava/util/function/BiFunction;)I"⟩
abbrev cJ3_checkFromIndexSize_8c36e : ByteArray := prog_47_method_13_code
def yJ3_checkFromIndexSize_8c36e : MethodName := ⟨RJ3, "checkFromIndexSize", "(IIILjava/util/function/BiFunction;)I"⟩
def RL : String := "SpliceroomLaw"
abbrev cL_addFilm : ByteArray := method_3_code
def yL_addFilm : MethodName := ⟨RL, "addFilm", "(LSpliceroom;[J)I"⟩
abbrev cL_addShot : ByteArray := method_4_code
def yL_addShot : MethodName := ⟨RL, "addShot", "(LSpliceroom;III[J)I"⟩
abbrev cL_addReel : ByteArray := method_5_code
def yL_addReel : MethodName := ⟨RL, "addReel", "(LSpliceroom;I[J)I"⟩
abbrev cL_put : ByteArray := method_6_code
def yL_put : MethodName := ⟨RL, "put", "(LSpliceroom;II[J)I"⟩
abbrev cL_found : ByteArray := method_7_code
def yL_found : MethodName := ⟨RL, "found", "(LSpliceroom;IIII[J)I"⟩
abbrev cL_join : ByteArray := method_8_code
def yL_join : MethodName := ⟨RL, "join", "(LSpliceroom;II[J)I"⟩
abbrev cL_shots : ByteArray := method_9_code
def yL_shots : MethodName := ⟨RL, "shots", "(LSpliceroom;I[J)I"⟩
abbrev cL_shotOf : ByteArray := method_10_code
def yL_shotOf : MethodName := ⟨RL, "shotOf", "(LSpliceroom;II[J)I"⟩
abbrev cL_lengthOf : ByteArray := method_11_code
def yL_lengthOf : MethodName := ⟨RL, "lengthOf", "(LSpliceroom;I[J)I"⟩
abbrev cL_frameOf : ByteArray := method_12_code
def yL_frameOf : MethodName := ⟨RL, "frameOf", "(LSpliceroom;I[J)I"⟩
abbrev cL_shotAt : ByteArray := method_13_code
def yL_shotAt : MethodName := ⟨RL, "shotAt", "(LSpliceroom;II[J)I"⟩
abbrev cL_reelOf : ByteArray := method_14_code
def yL_reelOf : MethodName := ⟨RL, "reelOf", "(LSpliceroom;I[J)I"⟩
abbrev cL_setLimit : ByteArray := method_15_code
def yL_setLimit : MethodName := ⟨RL, "setLimit", "(LSpliceroom;I[J)I"⟩
abbrev cL_run : ByteArray := method_16_code
def yL_run : MethodName := ⟨RL, "run", "(LSpliceroom;I[J)I"⟩
abbrev cL_wear : ByteArray := method_17_code
def yL_wear : MethodName := ⟨RL, "wear", "(LSpliceroom;II[J)I"⟩
abbrev cL_mend : ByteArray := method_18_code
def yL_mend : MethodName := ⟨RL, "mend", "(LSpliceroom;II[J)I"⟩
abbrev cL_scan : ByteArray := method_19_code
def yL_scan : MethodName := ⟨RL, "scan", "(LSpliceroom;II[J)I"⟩
abbrev cL_scanned : ByteArray := method_20_code
def yL_scanned : MethodName := ⟨RL, "scanned", "(LSpliceroom;I[J)I"⟩
abbrev cL_missed : ByteArray := method_21_code
def yL_missed : MethodName := ⟨RL, "missed", "(LSpliceroom;I[J)I"⟩
abbrev cL_grade : ByteArray := method_22_code
def yL_grade : MethodName := ⟨RL, "grade", "(LSpliceroom;II[J)I"⟩
abbrev cL_passOn : ByteArray := method_23_code
def yL_passOn : MethodName := ⟨RL, "passOn", "(LSpliceroom;I[J)I"⟩
abbrev cL_gradeOf : ByteArray := method_24_code
def yL_gradeOf : MethodName := ⟨RL, "gradeOf", "(LSpliceroom;I[J)I"⟩
abbrev cL_gradeFrom : ByteArray := method_25_code
def yL_gradeFrom : MethodName := ⟨RL, "gradeFrom", "(LSpliceroom;I[J)I"⟩
abbrev cL_addVersion : ByteArray := method_26_code
def yL_addVersion : MethodName := ⟨RL, "addVersion", "(LSpliceroom;II[J)I"⟩
abbrev cL_leaveOut : ByteArray := method_27_code
def yL_leaveOut : MethodName := ⟨RL, "leaveOut", "(LSpliceroom;IIIZ[J)I"⟩
abbrev cL_frames : ByteArray := method_28_code
def yL_frames : MethodName := ⟨RL, "frames", "(LSpliceroom;I[J)I"⟩
abbrev cL_lend : ByteArray := method_29_code
def yL_lend : MethodName := ⟨RL, "lend", "(LSpliceroom;IIII[J)I"⟩
abbrev cL_show : ByteArray := method_30_code
def yL_show : MethodName := ⟨RL, "show", "(LSpliceroom;I[J)I"⟩
abbrev cL_giveBack : ByteArray := method_31_code
def yL_giveBack : MethodName := ⟨RL, "giveBack", "(LSpliceroom;I[J)I"⟩
abbrev cL_advance : ByteArray := method_32_code
def yL_advance : MethodName := ⟨RL, "advance", "(LSpliceroom;I[J)I"⟩
abbrev cL_keptShare : ByteArray := method_33_code
def yL_keptShare : MethodName := ⟨RL, "keptShare", "(LSpliceroom;[D)I"⟩
abbrev cL_meanWear : ByteArray := method_34_code
def yL_meanWear : MethodName := ⟨RL, "meanWear", "(LSpliceroom;[D)I"⟩
abbrev cL_law : ByteArray := code
def yL_law : MethodName := ⟨RL, "law", "([I)Z"⟩
end
section
theorem dX0_init_0 : decode cX0_init 0 = .ok (.aload_n 0, 1) := by decide +kernel
theorem dX0_init_1 : decode cX0_init 1 = .ok (.invokespecial 3, 3) := by decide +kernel
theorem dX0_init_4 : decode cX0_init 4 = .ok (.aload_n 0, 1) := by decide +kernel
theorem dX0_init_5 : decode cX0_init 5 = .ok (.new 9, 3) := by decide +kernel
theorem dX0_init_8 : decode cX0_init 8 = .ok (.dup, 1) := by decide +kernel
theorem dX0_init_9 : decode cX0_init 9 = .ok (.invokespecial 11, 3) := by decide +kernel
theorem dX0_init_12 : decode cX0_init 12 = .ok (.putfield 12, 3) := by decide +kernel
theorem dX0_init_15 : decode cX0_init 15 = .ok (.return_, 1) := by decide +kernel
theorem dX0_placeOf_0 : decode cX0_placeOf 0 = .ok (.iconst 0, 1) := by decide +kernel
theorem dX0_placeOf_1 : decode cX0_placeOf 1 = .ok (.istore_n 2, 1) := by decide +kernel
theorem dX0_placeOf_2 : decode cX0_placeOf 2 = .ok (.iload_n 2, 1) := by decide +kernel
theorem dX0_placeOf_3 : decode cX0_placeOf 3 = .ok (.aload_n 0, 1) := by decide +kernel
theorem dX0_placeOf_4 : decode cX0_placeOf 4 = .ok (.getfield 12, 3) := by decide +kernel
theorem dX0_placeOf_7 : decode cX0_placeOf 7 = .ok (.invokevirtual 18, 3) := by decide +kernel
theorem dX0_placeOf_10 : decode cX0_placeOf 10 = .ok (.if_icmp .ge 23, 3) := by decide +kernel
theorem dX0_placeOf_13 : decode cX0_placeOf 13 = .ok (.aload_n 0, 1) := by decide +kernel
theorem dX0_placeOf_14 : decode cX0_placeOf 14 = .ok (.getfield 12, 3) := by decide +kernel
theorem dX0_placeOf_17 : decode cX0_placeOf 17 = .ok (.iload_n 2, 1) := by decide +kernel
theorem dX0_placeOf_18 : decode cX0_placeOf 18 = .ok (.invokevirtual 22, 3) := by decide +kernel
theorem dX0_placeOf_21 : decode cX0_placeOf 21 = .ok (.aload_n 1, 1) := by decide +kernel
theorem dX0_placeOf_22 : decode cX0_placeOf 22 = .ok (.if_acmp .ne 5, 3) := by decide +kernel
theorem dX0_placeOf_25 : decode cX0_placeOf 25 = .ok (.iload_n 2, 1) := by decide +kernel
theorem dX0_placeOf_26 : decode cX0_placeOf 26 = .ok (.ireturn, 1) := by decide +kernel
theorem dX0_placeOf_27 : decode cX0_placeOf 27 = .ok (.iinc 2 1, 3) := by decide +kernel
theorem dX0_placeOf_30 : decode cX0_placeOf 30 = .ok (.goto (-28), 3) := by decide +kernel
theorem dX0_placeOf_33 : decode cX0_placeOf 33 = .ok (.iconst (-1), 1) := by decide +kernel
theorem dX0_placeOf_34 : decode cX0_placeOf 34 = .ok (.ireturn, 1) := by decide +kernel
theorem dX0_framesBefore_0 : decode cX0_framesBefore 0 = .ok (.iconst 0, 1) := by decide +kernel
theorem dX0_framesBefore_1 : decode cX0_framesBefore 1 = .ok (.istore_n 2, 1) := by decide +kernel
theorem dX0_framesBefore_2 : decode cX0_framesBefore 2 = .ok (.iconst 0, 1) := by decide +kernel
theorem dX0_framesBefore_3 : decode cX0_framesBefore 3 = .ok (.istore_n 3, 1) := by decide +kernel
theorem dX0_framesBefore_4 : decode cX0_framesBefore 4 = .ok (.iload_n 3, 1) := by decide +kernel
theorem dX0_framesBefore_5 : decode cX0_framesBefore 5 = .ok (.iload_n 1, 1) := by decide +kernel
theorem dX0_framesBefore_6 : decode cX0_framesBefore 6 = .ok (.if_icmp .ge 37, 3) := by decide +kernel
theorem dX0_framesBefore_9 : decode cX0_framesBefore 9 = .ok (.iload_n 3, 1) := by decide +kernel
theorem dX0_framesBefore_10 : decode cX0_framesBefore 10 = .ok (.aload_n 0, 1) := by decide +kernel
theorem dX0_framesBefore_11 : decode cX0_framesBefore 11 = .ok (.getfield 12, 3) := by decide +kernel
theorem dX0_framesBefore_14 : decode cX0_framesBefore 14 = .ok (.invokevirtual 18, 3) := by decide +kernel
theorem dX0_framesBefore_17 : decode cX0_framesBefore 17 = .ok (.if_icmp .ge 26, 3) := by decide +kernel
theorem dX0_framesBefore_20 : decode cX0_framesBefore 20 = .ok (.iload_n 2, 1) := by decide +kernel
theorem dX0_framesBefore_21 : decode cX0_framesBefore 21 = .ok (.aload_n 0, 1) := by decide +kernel
theorem dX0_framesBefore_22 : decode cX0_framesBefore 22 = .ok (.getfield 12, 3) := by decide +kernel
theorem dX0_framesBefore_25 : decode cX0_framesBefore 25 = .ok (.iload_n 3, 1) := by decide +kernel
theorem dX0_framesBefore_26 : decode cX0_framesBefore 26 = .ok (.invokevirtual 22, 3) := by decide +kernel
theorem dX0_framesBefore_29 : decode cX0_framesBefore 29 = .ok (.checkcast 26, 3) := by decide +kernel
theorem dX0_framesBefore_32 : decode cX0_framesBefore 32 = .ok (.invokevirtual 28, 3) := by decide +kernel
theorem dX0_framesBefore_35 : decode cX0_framesBefore 35 = .ok (.iadd, 1) := by decide +kernel
theorem dX0_framesBefore_36 : decode cX0_framesBefore 36 = .ok (.istore_n 2, 1) := by decide +kernel
theorem dX0_framesBefore_37 : decode cX0_framesBefore 37 = .ok (.iinc 3 1, 3) := by decide +kernel
theorem dX0_framesBefore_40 : decode cX0_framesBefore 40 = .ok (.goto (-36), 3) := by decide +kernel
theorem dX0_framesBefore_43 : decode cX0_framesBefore 43 = .ok (.iload_n 2, 1) := by decide +kernel
theorem dX0_framesBefore_44 : decode cX0_framesBefore 44 = .ok (.ireturn, 1) := by decide +kernel
theorem dX0_frameCount_0 : decode cX0_frameCount 0 = .ok (.aload_n 0, 1) := by decide +kernel
theorem dX0_frameCount_1 : decode cX0_frameCount 1 = .ok (.aload_n 0, 1) := by decide +kernel
theorem dX0_frameCount_2 : decode cX0_frameCount 2 = .ok (.getfield 12, 3) := by decide +kernel
theorem dX0_frameCount_5 : decode cX0_frameCount 5 = .ok (.invokevirtual 18, 3) := by decide +kernel
theorem dX0_frameCount_8 : decode cX0_frameCount 8 = .ok (.invokevirtual 31, 3) := by decide +kernel
theorem dX0_frameCount_11 : decode cX0_frameCount 11 = .ok (.ireturn, 1) := by decide +kernel
theorem dX0_dropGradesFrom_0 : decode cX0_dropGradesFrom 0 = .ok (.iconst 0, 1) := by decide +kernel
theorem dX0_dropGradesFrom_1 : decode cX0_dropGradesFrom 1 = .ok (.istore_n 2, 1) := by decide +kernel
theorem dX0_dropGradesFrom_2 : decode cX0_dropGradesFrom 2 = .ok (.iload_n 2, 1) := by decide +kernel
theorem dX0_dropGradesFrom_3 : decode cX0_dropGradesFrom 3 = .ok (.aload_n 0, 1) := by decide +kernel
theorem dX0_dropGradesFrom_4 : decode cX0_dropGradesFrom 4 = .ok (.getfield 12, 3) := by decide +kernel
theorem dX0_dropGradesFrom_7 : decode cX0_dropGradesFrom 7 = .ok (.invokevirtual 18, 3) := by decide +kernel
theorem dX0_dropGradesFrom_10 : decode cX0_dropGradesFrom 10 = .ok (.if_icmp .ge 34, 3) := by decide +kernel
theorem dX0_dropGradesFrom_13 : decode cX0_dropGradesFrom 13 = .ok (.aload_n 0, 1) := by decide +kernel
theorem dX0_dropGradesFrom_14 : decode cX0_dropGradesFrom 14 = .ok (.getfield 12, 3) := by decide +kernel
theorem dX0_dropGradesFrom_17 : decode cX0_dropGradesFrom 17 = .ok (.iload_n 2, 1) := by decide +kernel
theorem dX0_dropGradesFrom_18 : decode cX0_dropGradesFrom 18 = .ok (.invokevirtual 22, 3) := by decide +kernel
theorem dX0_dropGradesFrom_21 : decode cX0_dropGradesFrom 21 = .ok (.checkcast 26, 3) := by decide +kernel
theorem dX0_dropGradesFrom_24 : decode cX0_dropGradesFrom 24 = .ok (.astore_n 3, 1) := by decide +kernel
theorem dX0_dropGradesFrom_25 : decode cX0_dropGradesFrom 25 = .ok (.aload_n 3, 1) := by decide +kernel
theorem dX0_dropGradesFrom_26 : decode cX0_dropGradesFrom 26 = .ok (.getfield 35, 3) := by decide +kernel
theorem dX0_dropGradesFrom_29 : decode cX0_dropGradesFrom 29 = .ok (.aload_n 1, 1) := by decide +kernel
theorem dX0_dropGradesFrom_30 : decode cX0_dropGradesFrom 30 = .ok (.if_acmp .ne 8, 3) := by decide +kernel
theorem dX0_dropGradesFrom_33 : decode cX0_dropGradesFrom 33 = .ok (.aload_n 3, 1) := by decide +kernel
theorem dX0_dropGradesFrom_34 : decode cX0_dropGradesFrom 34 = .ok (.aconst_null, 1) := by decide +kernel
theorem dX0_dropGradesFrom_35 : decode cX0_dropGradesFrom 35 = .ok (.putfield 35, 3) := by decide +kernel
theorem dX0_dropGradesFrom_38 : decode cX0_dropGradesFrom 38 = .ok (.iinc 2 1, 3) := by decide +kernel
theorem dX0_dropGradesFrom_41 : decode cX0_dropGradesFrom 41 = .ok (.goto (-39), 3) := by decide +kernel
theorem dX0_dropGradesFrom_44 : decode cX0_dropGradesFrom 44 = .ok (.return_, 1) := by decide +kernel
theorem dX1_init_0 : decode cX1_init 0 = .ok (.aload_n 0, 1) := by decide +kernel
theorem dX1_init_1 : decode cX1_init 1 = .ok (.invokespecial 1, 3) := by decide +kernel
theorem dX1_init_4 : decode cX1_init 4 = .ok (.aload_n 0, 1) := by decide +kernel
theorem dX1_init_5 : decode cX1_init 5 = .ok (.aload_n 1, 1) := by decide +kernel
theorem dX1_init_6 : decode cX1_init 6 = .ok (.putfield 7, 3) := by decide +kernel
theorem dX1_init_9 : decode cX1_init 9 = .ok (.aload_n 0, 1) := by decide +kernel
theorem dX1_init_10 : decode cX1_init 10 = .ok (.iload_n 2, 1) := by decide +kernel
theorem dX1_init_11 : decode cX1_init 11 = .ok (.putfield 13, 3) := by decide +kernel
theorem dX1_init_14 : decode cX1_init 14 = .ok (.aload_n 0, 1) := by decide +kernel
theorem dX1_init_15 : decode cX1_init 15 = .ok (.iload_n 3, 1) := by decide +kernel
theorem dX1_init_16 : decode cX1_init 16 = .ok (.putfield 17, 3) := by decide +kernel
theorem dX1_init_19 : decode cX1_init 19 = .ok (.aload_n 0, 1) := by decide +kernel
theorem dX1_init_20 : decode cX1_init 20 = .ok (.iload 4, 2) := by decide +kernel
theorem dX1_init_22 : decode cX1_init 22 = .ok (.putfield 20, 3) := by decide +kernel
theorem dX1_init_25 : decode cX1_init 25 = .ok (.return_, 1) := by decide +kernel
theorem dX2_init_0 : decode cX2_init 0 = .ok (.aload_n 0, 1) := by decide +kernel
theorem dX2_init_1 : decode cX2_init 1 = .ok (.invokespecial 1, 3) := by decide +kernel
theorem dX2_init_4 : decode cX2_init 4 = .ok (.aload_n 0, 1) := by decide +kernel
theorem dX2_init_5 : decode cX2_init 5 = .ok (.new 7, 3) := by decide +kernel
theorem dX2_init_8 : decode cX2_init 8 = .ok (.dup, 1) := by decide +kernel
theorem dX2_init_9 : decode cX2_init 9 = .ok (.invokespecial 9, 3) := by decide +kernel
theorem dX2_init_12 : decode cX2_init 12 = .ok (.putfield 10, 3) := by decide +kernel
theorem dX2_init_15 : decode cX2_init 15 = .ok (.aload_n 0, 1) := by decide +kernel
theorem dX2_init_16 : decode cX2_init 16 = .ok (.aload_n 1, 1) := by decide +kernel
theorem dX2_init_17 : decode cX2_init 17 = .ok (.putfield 16, 3) := by decide +kernel
theorem dX2_init_20 : decode cX2_init 20 = .ok (.aload_n 0, 1) := by decide +kernel
theorem dX2_init_21 : decode cX2_init 21 = .ok (.iload_n 2, 1) := by decide +kernel
theorem dX2_init_22 : decode cX2_init 22 = .ok (.putfield 20, 3) := by decide +kernel
theorem dX2_init_25 : decode cX2_init 25 = .ok (.return_, 1) := by decide +kernel
theorem dX2_append_0 : decode cX2_append 0 = .ok (.aload_n 0, 1) := by decide +kernel
theorem dX2_append_1 : decode cX2_append 1 = .ok (.getfield 10, 3) := by decide +kernel
theorem dX2_append_4 : decode cX2_append 4 = .ok (.aload_n 1, 1) := by decide +kernel
theorem dX2_append_5 : decode cX2_append 5 = .ok (.invokevirtual 24, 3) := by decide +kernel
theorem dX2_append_8 : decode cX2_append 8 = .ok (.pop, 1) := by decide +kernel
theorem dX2_append_9 : decode cX2_append 9 = .ok (.aload_n 1, 1) := by decide +kernel
theorem dX2_append_10 : decode cX2_append 10 = .ok (.aload_n 0, 1) := by decide +kernel
theorem dX2_append_11 : decode cX2_append 11 = .ok (.putfield 28, 3) := by decide +kernel
theorem dX2_append_14 : decode cX2_append 14 = .ok (.return_, 1) := by decide +kernel
theorem dX2_spliceCount_0 : decode cX2_spliceCount 0 = .ok (.aload_n 0, 1) := by decide +kernel
theorem dX2_spliceCount_1 : decode cX2_spliceCount 1 = .ok (.getfield 10, 3) := by decide +kernel
theorem dX2_spliceCount_4 : decode cX2_spliceCount 4 = .ok (.invokevirtual 34, 3) := by decide +kernel
theorem dX2_spliceCount_7 : decode cX2_spliceCount 7 = .ok (.iconst 1, 1) := by decide +kernel
theorem dX2_spliceCount_8 : decode cX2_spliceCount 8 = .ok (.isub, 1) := by decide +kernel
theorem dX2_spliceCount_9 : decode cX2_spliceCount 9 = .ok (.iconst 0, 1) := by decide +kernel
theorem dX2_spliceCount_10 : decode cX2_spliceCount 10 = .ok (.invokestatic 38, 3) := by decide +kernel
theorem dX2_spliceCount_13 : decode cX2_spliceCount 13 = .ok (.ireturn, 1) := by decide +kernel
theorem dX2_frameCount_0 : decode cX2_frameCount 0 = .ok (.iconst 0, 1) := by decide +kernel
theorem dX2_frameCount_1 : decode cX2_frameCount 1 = .ok (.istore_n 1, 1) := by decide +kernel
theorem dX2_frameCount_2 : decode cX2_frameCount 2 = .ok (.iconst 0, 1) := by decide +kernel
theorem dX2_frameCount_3 : decode cX2_frameCount 3 = .ok (.istore_n 2, 1) := by decide +kernel
theorem dX2_frameCount_4 : decode cX2_frameCount 4 = .ok (.iload_n 2, 1) := by decide +kernel
theorem dX2_frameCount_5 : decode cX2_frameCount 5 = .ok (.aload_n 0, 1) := by decide +kernel
theorem dX2_frameCount_6 : decode cX2_frameCount 6 = .ok (.getfield 10, 3) := by decide +kernel
theorem dX2_frameCount_9 : decode cX2_frameCount 9 = .ok (.invokevirtual 34, 3) := by decide +kernel
theorem dX2_frameCount_12 : decode cX2_frameCount 12 = .ok (.if_icmp .ge 26, 3) := by decide +kernel
theorem dX2_frameCount_15 : decode cX2_frameCount 15 = .ok (.iload_n 1, 1) := by decide +kernel
theorem dX2_frameCount_16 : decode cX2_frameCount 16 = .ok (.aload_n 0, 1) := by decide +kernel
theorem dX2_frameCount_17 : decode cX2_frameCount 17 = .ok (.getfield 10, 3) := by decide +kernel
theorem dX2_frameCount_20 : decode cX2_frameCount 20 = .ok (.iload_n 2, 1) := by decide +kernel
theorem dX2_frameCount_21 : decode cX2_frameCount 21 = .ok (.invokevirtual 44, 3) := by decide +kernel
theorem dX2_frameCount_24 : decode cX2_frameCount 24 = .ok (.checkcast 29, 3) := by decide +kernel
theorem dX2_frameCount_27 : decode cX2_frameCount 27 = .ok (.getfield 48, 3) := by decide +kernel
theorem dX2_frameCount_30 : decode cX2_frameCount 30 = .ok (.iadd, 1) := by decide +kernel
theorem dX2_frameCount_31 : decode cX2_frameCount 31 = .ok (.istore_n 1, 1) := by decide +kernel
theorem dX2_frameCount_32 : decode cX2_frameCount 32 = .ok (.iinc 2 1, 3) := by decide +kernel
theorem dX2_frameCount_35 : decode cX2_frameCount 35 = .ok (.goto (-31), 3) := by decide +kernel
theorem dX2_frameCount_38 : decode cX2_frameCount 38 = .ok (.iload_n 1, 1) := by decide +kernel
theorem dX2_frameCount_39 : decode cX2_frameCount 39 = .ok (.ireturn, 1) := by decide +kernel
theorem dX2_canTake_0 : decode cX2_canTake 0 = .ok (.iconst 0, 1) := by decide +kernel
theorem dX2_canTake_1 : decode cX2_canTake 1 = .ok (.istore_n 3, 1) := by decide +kernel
theorem dX2_canTake_2 : decode cX2_canTake 2 = .ok (.iload_n 3, 1) := by decide +kernel
theorem dX2_canTake_3 : decode cX2_canTake 3 = .ok (.aload_n 0, 1) := by decide +kernel
theorem dX2_canTake_4 : decode cX2_canTake 4 = .ok (.getfield 10, 3) := by decide +kernel
theorem dX2_canTake_7 : decode cX2_canTake 7 = .ok (.invokevirtual 34, 3) := by decide +kernel
theorem dX2_canTake_10 : decode cX2_canTake 10 = .ok (.iconst 1, 1) := by decide +kernel
theorem dX2_canTake_11 : decode cX2_canTake 11 = .ok (.isub, 1) := by decide +kernel
theorem dX2_canTake_12 : decode cX2_canTake 12 = .ok (.if_icmp .ge 31, 3) := by decide +kernel
theorem dX2_canTake_15 : decode cX2_canTake 15 = .ok (.aload_n 0, 1) := by decide +kernel
theorem dX2_canTake_16 : decode cX2_canTake 16 = .ok (.getfield 10, 3) := by decide +kernel
theorem dX2_canTake_19 : decode cX2_canTake 19 = .ok (.iload_n 3, 1) := by decide +kernel
theorem dX2_canTake_20 : decode cX2_canTake 20 = .ok (.invokevirtual 44, 3) := by decide +kernel
theorem dX2_canTake_23 : decode cX2_canTake 23 = .ok (.checkcast 29, 3) := by decide +kernel
theorem dX2_canTake_26 : decode cX2_canTake 26 = .ok (.getfield 51, 3) := by decide +kernel
theorem dX2_canTake_29 : decode cX2_canTake 29 = .ok (.iload_n 1, 1) := by decide +kernel
theorem dX2_canTake_30 : decode cX2_canTake 30 = .ok (.iadd, 1) := by decide +kernel
theorem dX2_canTake_31 : decode cX2_canTake 31 = .ok (.iload_n 2, 1) := by decide +kernel
theorem dX2_canTake_32 : decode cX2_canTake 32 = .ok (.if_icmp .le 5, 3) := by decide +kernel
theorem dX2_canTake_35 : decode cX2_canTake 35 = .ok (.iconst 0, 1) := by decide +kernel
theorem dX2_canTake_36 : decode cX2_canTake 36 = .ok (.ireturn, 1) := by decide +kernel
theorem dX2_canTake_37 : decode cX2_canTake 37 = .ok (.iinc 3 1, 3) := by decide +kernel
theorem dX2_canTake_40 : decode cX2_canTake 40 = .ok (.goto (-38), 3) := by decide +kernel
theorem dX2_canTake_43 : decode cX2_canTake 43 = .ok (.iconst 1, 1) := by decide +kernel
theorem dX2_canTake_44 : decode cX2_canTake 44 = .ok (.ireturn, 1) := by decide +kernel
theorem dX2_addWear_0 : decode cX2_addWear 0 = .ok (.iconst 0, 1) := by decide +kernel
theorem dX2_addWear_1 : decode cX2_addWear 1 = .ok (.istore_n 2, 1) := by decide +kernel
theorem dX2_addWear_2 : decode cX2_addWear 2 = .ok (.iload_n 2, 1) := by decide +kernel
theorem dX2_addWear_3 : decode cX2_addWear 3 = .ok (.aload_n 0, 1) := by decide +kernel
theorem dX2_addWear_4 : decode cX2_addWear 4 = .ok (.getfield 10, 3) := by decide +kernel
theorem dX2_addWear_7 : decode cX2_addWear 7 = .ok (.invokevirtual 34, 3) := by decide +kernel
theorem dX2_addWear_10 : decode cX2_addWear 10 = .ok (.iconst 1, 1) := by decide +kernel
theorem dX2_addWear_11 : decode cX2_addWear 11 = .ok (.isub, 1) := by decide +kernel
theorem dX2_addWear_12 : decode cX2_addWear 12 = .ok (.if_icmp .ge 29, 3) := by decide +kernel
theorem dX2_addWear_15 : decode cX2_addWear 15 = .ok (.aload_n 0, 1) := by decide +kernel
theorem dX2_addWear_16 : decode cX2_addWear 16 = .ok (.getfield 10, 3) := by decide +kernel
theorem dX2_addWear_19 : decode cX2_addWear 19 = .ok (.iload_n 2, 1) := by decide +kernel
theorem dX2_addWear_20 : decode cX2_addWear 20 = .ok (.invokevirtual 44, 3) := by decide +kernel
theorem dX2_addWear_23 : decode cX2_addWear 23 = .ok (.checkcast 29, 3) := by decide +kernel
theorem dX2_addWear_26 : decode cX2_addWear 26 = .ok (.dup, 1) := by decide +kernel
theorem dX2_addWear_27 : decode cX2_addWear 27 = .ok (.getfield 51, 3) := by decide +kernel
theorem dX2_addWear_30 : decode cX2_addWear 30 = .ok (.iload_n 1, 1) := by decide +kernel
theorem dX2_addWear_31 : decode cX2_addWear 31 = .ok (.iadd, 1) := by decide +kernel
theorem dX2_addWear_32 : decode cX2_addWear 32 = .ok (.putfield 51, 3) := by decide +kernel
theorem dX2_addWear_35 : decode cX2_addWear 35 = .ok (.iinc 2 1, 3) := by decide +kernel
theorem dX2_addWear_38 : decode cX2_addWear 38 = .ok (.goto (-36), 3) := by decide +kernel
theorem dX2_addWear_41 : decode cX2_addWear 41 = .ok (.return_, 1) := by decide +kernel
theorem dX2_greatestWear_0 : decode cX2_greatestWear 0 = .ok (.iconst 0, 1) := by decide +kernel
theorem dX2_greatestWear_1 : decode cX2_greatestWear 1 = .ok (.istore_n 1, 1) := by decide +kernel
theorem dX2_greatestWear_2 : decode cX2_greatestWear 2 = .ok (.iconst 0, 1) := by decide +kernel
theorem dX2_greatestWear_3 : decode cX2_greatestWear 3 = .ok (.istore_n 2, 1) := by decide +kernel
theorem dX2_greatestWear_4 : decode cX2_greatestWear 4 = .ok (.iload_n 2, 1) := by decide +kernel
theorem dX2_greatestWear_5 : decode cX2_greatestWear 5 = .ok (.aload_n 0, 1) := by decide +kernel
theorem dX2_greatestWear_6 : decode cX2_greatestWear 6 = .ok (.getfield 10, 3) := by decide +kernel
theorem dX2_greatestWear_9 : decode cX2_greatestWear 9 = .ok (.invokevirtual 34, 3) := by decide +kernel
theorem dX2_greatestWear_12 : decode cX2_greatestWear 12 = .ok (.iconst 1, 1) := by decide +kernel
theorem dX2_greatestWear_13 : decode cX2_greatestWear 13 = .ok (.isub, 1) := by decide +kernel
theorem dX2_greatestWear_14 : decode cX2_greatestWear 14 = .ok (.if_icmp .ge 28, 3) := by decide +kernel
theorem dX2_greatestWear_17 : decode cX2_greatestWear 17 = .ok (.iload_n 1, 1) := by decide +kernel
theorem dX2_greatestWear_18 : decode cX2_greatestWear 18 = .ok (.aload_n 0, 1) := by decide +kernel
theorem dX2_greatestWear_19 : decode cX2_greatestWear 19 = .ok (.getfield 10, 3) := by decide +kernel
theorem dX2_greatestWear_22 : decode cX2_greatestWear 22 = .ok (.iload_n 2, 1) := by decide +kernel
theorem dX2_greatestWear_23 : decode cX2_greatestWear 23 = .ok (.invokevirtual 44, 3) := by decide +kernel
theorem dX2_greatestWear_26 : decode cX2_greatestWear 26 = .ok (.checkcast 29, 3) := by decide +kernel
theorem dX2_greatestWear_29 : decode cX2_greatestWear 29 = .ok (.getfield 51, 3) := by decide +kernel
theorem dX2_greatestWear_32 : decode cX2_greatestWear 32 = .ok (.invokestatic 38, 3) := by decide +kernel
theorem dX2_greatestWear_35 : decode cX2_greatestWear 35 = .ok (.istore_n 1, 1) := by decide +kernel
theorem dX2_greatestWear_36 : decode cX2_greatestWear 36 = .ok (.iinc 2 1, 3) := by decide +kernel
theorem dX2_greatestWear_39 : decode cX2_greatestWear 39 = .ok (.goto (-35), 3) := by decide +kernel
theorem dX2_greatestWear_42 : decode cX2_greatestWear 42 = .ok (.iload_n 1, 1) := by decide +kernel
theorem dX2_greatestWear_43 : decode cX2_greatestWear 43 = .ok (.ireturn, 1) := by decide +kernel
theorem dX2_wearSum_0 : decode cX2_wearSum 0 = .ok (.iconst 0, 1) := by decide +kernel
theorem dX2_wearSum_1 : decode cX2_wearSum 1 = .ok (.istore_n 1, 1) := by decide +kernel
theorem dX2_wearSum_2 : decode cX2_wearSum 2 = .ok (.iconst 0, 1) := by decide +kernel
theorem dX2_wearSum_3 : decode cX2_wearSum 3 = .ok (.istore_n 2, 1) := by decide +kernel
theorem dX2_wearSum_4 : decode cX2_wearSum 4 = .ok (.iload_n 2, 1) := by decide +kernel
theorem dX2_wearSum_5 : decode cX2_wearSum 5 = .ok (.aload_n 0, 1) := by decide +kernel
theorem dX2_wearSum_6 : decode cX2_wearSum 6 = .ok (.getfield 10, 3) := by decide +kernel
theorem dX2_wearSum_9 : decode cX2_wearSum 9 = .ok (.invokevirtual 34, 3) := by decide +kernel
theorem dX2_wearSum_12 : decode cX2_wearSum 12 = .ok (.iconst 1, 1) := by decide +kernel
theorem dX2_wearSum_13 : decode cX2_wearSum 13 = .ok (.isub, 1) := by decide +kernel
theorem dX2_wearSum_14 : decode cX2_wearSum 14 = .ok (.if_icmp .ge 26, 3) := by decide +kernel
theorem dX2_wearSum_17 : decode cX2_wearSum 17 = .ok (.iload_n 1, 1) := by decide +kernel
theorem dX2_wearSum_18 : decode cX2_wearSum 18 = .ok (.aload_n 0, 1) := by decide +kernel
theorem dX2_wearSum_19 : decode cX2_wearSum 19 = .ok (.getfield 10, 3) := by decide +kernel
theorem dX2_wearSum_22 : decode cX2_wearSum 22 = .ok (.iload_n 2, 1) := by decide +kernel
theorem dX2_wearSum_23 : decode cX2_wearSum 23 = .ok (.invokevirtual 44, 3) := by decide +kernel
theorem dX2_wearSum_26 : decode cX2_wearSum 26 = .ok (.checkcast 29, 3) := by decide +kernel
theorem dX2_wearSum_29 : decode cX2_wearSum 29 = .ok (.getfield 51, 3) := by decide +kernel
theorem dX2_wearSum_32 : decode cX2_wearSum 32 = .ok (.iadd, 1) := by decide +kernel
theorem dX2_wearSum_33 : decode cX2_wearSum 33 = .ok (.istore_n 1, 1) := by decide +kernel
theorem dX2_wearSum_34 : decode cX2_wearSum 34 = .ok (.iinc 2 1, 3) := by decide +kernel
theorem dX2_wearSum_37 : decode cX2_wearSum 37 = .ok (.goto (-33), 3) := by decide +kernel
theorem dX2_wearSum_40 : decode cX2_wearSum 40 = .ok (.iload_n 1, 1) := by decide +kernel
theorem dX2_wearSum_41 : decode cX2_wearSum 41 = .ok (.ireturn, 1) := by decide +kernel
theorem dX3_init_0 : decode cX3_init 0 = .ok (.aload_n 0, 1) := by decide +kernel
theorem dX3_init_1 : decode cX3_init 1 = .ok (.invokespecial 3, 3) := by decide +kernel
theorem dX3_init_4 : decode cX3_init 4 = .ok (.aload_n 0, 1) := by decide +kernel
theorem dX3_init_5 : decode cX3_init 5 = .ok (.iconst (-1), 1) := by decide +kernel
theorem dX3_init_6 : decode cX3_init 6 = .ok (.putfield 9, 3) := by decide +kernel
theorem dX3_init_9 : decode cX3_init 9 = .ok (.aload_n 0, 1) := by decide +kernel
theorem dX3_init_10 : decode cX3_init 10 = .ok (.aload_n 1, 1) := by decide +kernel
theorem dX3_init_11 : decode cX3_init 11 = .ok (.putfield 15, 3) := by decide +kernel
theorem dX3_init_14 : decode cX3_init 14 = .ok (.aload_n 0, 1) := by decide +kernel
theorem dX3_init_15 : decode cX3_init 15 = .ok (.iload_n 2, 1) := by decide +kernel
theorem dX3_init_16 : decode cX3_init 16 = .ok (.putfield 19, 3) := by decide +kernel
theorem dX3_init_19 : decode cX3_init 19 = .ok (.aload_n 0, 1) := by decide +kernel
theorem dX3_init_20 : decode cX3_init 20 = .ok (.iload_n 3, 1) := by decide +kernel
theorem dX3_init_21 : decode cX3_init 21 = .ok (.putfield 22, 3) := by decide +kernel
theorem dX3_init_24 : decode cX3_init 24 = .ok (.aload_n 0, 1) := by decide +kernel
theorem dX3_init_25 : decode cX3_init 25 = .ok (.iload 4, 2) := by decide +kernel
theorem dX3_init_27 : decode cX3_init 27 = .ok (.putfield 25, 3) := by decide +kernel
theorem dX3_init_30 : decode cX3_init 30 = .ok (.return_, 1) := by decide +kernel
theorem dX3_isMissing_0 : decode cX3_isMissing 0 = .ok (.aload_n 0, 1) := by decide +kernel
theorem dX3_isMissing_1 : decode cX3_isMissing 1 = .ok (.getfield 28, 3) := by decide +kernel
theorem dX3_isMissing_4 : decode cX3_isMissing 4 = .ok (.ifnonnull 7, 3) := by decide +kernel
theorem dX3_isMissing_7 : decode cX3_isMissing 7 = .ok (.iconst 1, 1) := by decide +kernel
theorem dX3_isMissing_8 : decode cX3_isMissing 8 = .ok (.goto 4, 3) := by decide +kernel
theorem dX3_isMissing_11 : decode cX3_isMissing 11 = .ok (.iconst 0, 1) := by decide +kernel
theorem dX3_isMissing_12 : decode cX3_isMissing 12 = .ok (.ireturn, 1) := by decide +kernel
theorem dX3_keptFrames_0 : decode cX3_keptFrames 0 = .ok (.aload_n 0, 1) := by decide +kernel
theorem dX3_keptFrames_1 : decode cX3_keptFrames 1 = .ok (.getfield 28, 3) := by decide +kernel
theorem dX3_keptFrames_4 : decode cX3_keptFrames 4 = .ok (.ifnonnull 7, 3) := by decide +kernel
theorem dX3_keptFrames_7 : decode cX3_keptFrames 7 = .ok (.iconst 0, 1) := by decide +kernel
theorem dX3_keptFrames_8 : decode cX3_keptFrames 8 = .ok (.goto 7, 3) := by decide +kernel
theorem dX3_keptFrames_11 : decode cX3_keptFrames 11 = .ok (.aload_n 0, 1) := by decide +kernel
theorem dX3_keptFrames_12 : decode cX3_keptFrames 12 = .ok (.getfield 22, 3) := by decide +kernel
theorem dX3_keptFrames_15 : decode cX3_keptFrames 15 = .ok (.ireturn, 1) := by decide +kernel
theorem dX3_takeScan_0 : decode cX3_takeScan 0 = .ok (.iload_n 1, 1) := by decide +kernel
theorem dX3_takeScan_1 : decode cX3_takeScan 1 = .ok (.aload_n 0, 1) := by decide +kernel
theorem dX3_takeScan_2 : decode cX3_takeScan 2 = .ok (.getfield 32, 3) := by decide +kernel
theorem dX3_takeScan_5 : decode cX3_takeScan 5 = .ok (.if_icmp .lt 13, 3) := by decide +kernel
theorem dX3_takeScan_8 : decode cX3_takeScan 8 = .ok (.aload_n 0, 1) := by decide +kernel
theorem dX3_takeScan_9 : decode cX3_takeScan 9 = .ok (.iload_n 1, 1) := by decide +kernel
theorem dX3_takeScan_10 : decode cX3_takeScan 10 = .ok (.putfield 32, 3) := by decide +kernel
theorem dX3_takeScan_13 : decode cX3_takeScan 13 = .ok (.aload_n 0, 1) := by decide +kernel
theorem dX3_takeScan_14 : decode cX3_takeScan 14 = .ok (.iload_n 2, 1) := by decide +kernel
theorem dX3_takeScan_15 : decode cX3_takeScan 15 = .ok (.putfield 35, 3) := by decide +kernel
theorem dX3_takeScan_18 : decode cX3_takeScan 18 = .ok (.return_, 1) := by decide +kernel
theorem dX3_currentGrade_0 : decode cX3_currentGrade 0 = .ok (.aload_n 0, 1) := by decide +kernel
theorem dX3_currentGrade_1 : decode cX3_currentGrade 1 = .ok (.getfield 9, 3) := by decide +kernel
theorem dX3_currentGrade_4 : decode cX3_currentGrade 4 = .ok (.iconst (-1), 1) := by decide +kernel
theorem dX3_currentGrade_5 : decode cX3_currentGrade 5 = .ok (.if_icmp .eq 8, 3) := by decide +kernel
theorem dX3_currentGrade_8 : decode cX3_currentGrade 8 = .ok (.aload_n 0, 1) := by decide +kernel
theorem dX3_currentGrade_9 : decode cX3_currentGrade 9 = .ok (.getfield 9, 3) := by decide +kernel
theorem dX3_currentGrade_12 : decode cX3_currentGrade 12 = .ok (.ireturn, 1) := by decide +kernel
theorem dX3_currentGrade_13 : decode cX3_currentGrade 13 = .ok (.aload_n 0, 1) := by decide +kernel
theorem dX3_currentGrade_14 : decode cX3_currentGrade 14 = .ok (.getfield 38, 3) := by decide +kernel
theorem dX3_currentGrade_17 : decode cX3_currentGrade 17 = .ok (.ifnonnull 7, 3) := by decide +kernel
theorem dX3_currentGrade_20 : decode cX3_currentGrade 20 = .ok (.iconst (-1), 1) := by decide +kernel
theorem dX3_currentGrade_21 : decode cX3_currentGrade 21 = .ok (.goto 10, 3) := by decide +kernel
theorem dX3_currentGrade_24 : decode cX3_currentGrade 24 = .ok (.aload_n 0, 1) := by decide +kernel
theorem dX3_currentGrade_25 : decode cX3_currentGrade 25 = .ok (.getfield 38, 3) := by decide +kernel
theorem dX3_currentGrade_28 : decode cX3_currentGrade 28 = .ok (.getfield 9, 3) := by decide +kernel
theorem dX3_currentGrade_31 : decode cX3_currentGrade 31 = .ok (.ireturn, 1) := by decide +kernel
theorem dX3_canHavePassedTo_0 : decode cX3_canHavePassedTo 0 = .ok (.aload_n 0, 1) := by decide +kernel
theorem dX3_canHavePassedTo_1 : decode cX3_canHavePassedTo 1 = .ok (.getfield 9, 3) := by decide +kernel
theorem dX3_canHavePassedTo_4 : decode cX3_canHavePassedTo 4 = .ok (.iconst (-1), 1) := by decide +kernel
theorem dX3_canHavePassedTo_5 : decode cX3_canHavePassedTo 5 = .ok (.if_icmp .eq 40, 3) := by decide +kernel
theorem dX3_canHavePassedTo_8 : decode cX3_canHavePassedTo 8 = .ok (.aload_n 1, 1) := by decide +kernel
theorem dX3_canHavePassedTo_9 : decode cX3_canHavePassedTo 9 = .ok (.invokevirtual 42, 3) := by decide +kernel
theorem dX3_canHavePassedTo_12 : decode cX3_canHavePassedTo 12 = .ok (.aload_n 0, 1) := by decide +kernel
theorem dX3_canHavePassedTo_13 : decode cX3_canHavePassedTo 13 = .ok (.getfield 9, 3) := by decide +kernel
theorem dX3_canHavePassedTo_16 : decode cX3_canHavePassedTo 16 = .ok (.if_icmp .ne 29, 3) := by decide +kernel
theorem dX3_canHavePassedTo_19 : decode cX3_canHavePassedTo 19 = .ok (.aload_n 0, 1) := by decide +kernel
theorem dX3_canHavePassedTo_20 : decode cX3_canHavePassedTo 20 = .ok (.getfield 15, 3) := by decide +kernel
theorem dX3_canHavePassedTo_23 : decode cX3_canHavePassedTo 23 = .ok (.aload_n 1, 1) := by decide +kernel
theorem dX3_canHavePassedTo_24 : decode cX3_canHavePassedTo 24 = .ok (.getfield 15, 3) := by decide +kernel
theorem dX3_canHavePassedTo_27 : decode cX3_canHavePassedTo 27 = .ok (.if_acmp .ne 18, 3) := by decide +kernel
theorem dX3_canHavePassedTo_30 : decode cX3_canHavePassedTo 30 = .ok (.aload_n 0, 1) := by decide +kernel
theorem dX3_canHavePassedTo_31 : decode cX3_canHavePassedTo 31 = .ok (.getfield 25, 3) := by decide +kernel
theorem dX3_canHavePassedTo_34 : decode cX3_canHavePassedTo 34 = .ok (.aload_n 1, 1) := by decide +kernel
theorem dX3_canHavePassedTo_35 : decode cX3_canHavePassedTo 35 = .ok (.getfield 25, 3) := by decide +kernel
theorem dX3_canHavePassedTo_38 : decode cX3_canHavePassedTo 38 = .ok (.if_icmp .ne 7, 3) := by decide +kernel
theorem dX3_canHavePassedTo_41 : decode cX3_canHavePassedTo 41 = .ok (.iconst 1, 1) := by decide +kernel
theorem dX3_canHavePassedTo_42 : decode cX3_canHavePassedTo 42 = .ok (.goto 4, 3) := by decide +kernel
theorem dX3_canHavePassedTo_45 : decode cX3_canHavePassedTo 45 = .ok (.iconst 0, 1) := by decide +kernel
theorem dX3_canHavePassedTo_46 : decode cX3_canHavePassedTo 46 = .ok (.ireturn, 1) := by decide +kernel
theorem dX4_init_0 : decode cX4_init 0 = .ok (.aload_n 0, 1) := by decide +kernel
theorem dX4_init_1 : decode cX4_init 1 = .ok (.invokespecial 3, 3) := by decide +kernel
theorem dX4_init_4 : decode cX4_init 4 = .ok (.aload_n 0, 1) := by decide +kernel
theorem dX4_init_5 : decode cX4_init 5 = .ok (.sipush 960, 3) := by decide +kernel
theorem dX4_init_8 : decode cX4_init 8 = .ok (.newarray .long, 2) := by decide +kernel
theorem dX4_init_10 : decode cX4_init 10 = .ok (.putfield 9, 3) := by decide +kernel
theorem dX4_init_13 : decode cX4_init 13 = .ok (.aload_n 0, 1) := by decide +kernel
theorem dX4_init_14 : decode cX4_init 14 = .ok (.aload_n 1, 1) := by decide +kernel
theorem dX4_init_15 : decode cX4_init 15 = .ok (.putfield 15, 3) := by decide +kernel
theorem dX4_init_18 : decode cX4_init 18 = .ok (.aload_n 0, 1) := by decide +kernel
theorem dX4_init_19 : decode cX4_init 19 = .ok (.iload_n 2, 1) := by decide +kernel
theorem dX4_init_20 : decode cX4_init 20 = .ok (.putfield 19, 3) := by decide +kernel
theorem dX4_init_23 : decode cX4_init 23 = .ok (.return_, 1) := by decide +kernel
theorem dX4_mark_0 : decode cX4_mark 0 = .ok (.iconst 0, 1) := by decide +kernel
theorem dX4_mark_1 : decode cX4_mark 1 = .ok (.istore 5, 2) := by decide +kernel
theorem dX4_mark_3 : decode cX4_mark 3 = .ok (.iconst 0, 1) := by decide +kernel
theorem dX4_mark_4 : decode cX4_mark 4 = .ok (.istore 6, 2) := by decide +kernel
theorem dX4_mark_6 : decode cX4_mark 6 = .ok (.iload 6, 2) := by decide +kernel
theorem dX4_mark_8 : decode cX4_mark 8 = .ok (.bipush 16, 2) := by decide +kernel
theorem dX4_mark_10 : decode cX4_mark 10 = .ok (.if_icmp .ge 108, 3) := by decide +kernel
theorem dX4_mark_13 : decode cX4_mark 13 = .ok (.aload_n 1, 1) := by decide +kernel
theorem dX4_mark_14 : decode cX4_mark 14 = .ok (.getfield 23, 3) := by decide +kernel
theorem dX4_mark_17 : decode cX4_mark 17 = .ok (.bipush 16, 2) := by decide +kernel
theorem dX4_mark_19 : decode cX4_mark 19 = .ok (.imul, 1) := by decide +kernel
theorem dX4_mark_20 : decode cX4_mark 20 = .ok (.iload 6, 2) := by decide +kernel
theorem dX4_mark_22 : decode cX4_mark 22 = .ok (.iadd, 1) := by decide +kernel
theorem dX4_mark_23 : decode cX4_mark 23 = .ok (.istore 7, 2) := by decide +kernel
theorem dX4_mark_25 : decode cX4_mark 25 = .ok (.iload_n 2, 1) := by decide +kernel
theorem dX4_mark_26 : decode cX4_mark 26 = .ok (.iload 6, 2) := by decide +kernel
theorem dX4_mark_28 : decode cX4_mark 28 = .ok (.bipush 64, 2) := by decide +kernel
theorem dX4_mark_30 : decode cX4_mark 30 = .ok (.imul, 1) := by decide +kernel
theorem dX4_mark_31 : decode cX4_mark 31 = .ok (.isub, 1) := by decide +kernel
theorem dX4_mark_32 : decode cX4_mark 32 = .ok (.iload_n 3, 1) := by decide +kernel
theorem dX4_mark_33 : decode cX4_mark 33 = .ok (.iload 6, 2) := by decide +kernel
theorem dX4_mark_35 : decode cX4_mark 35 = .ok (.bipush 64, 2) := by decide +kernel
theorem dX4_mark_37 : decode cX4_mark 37 = .ok (.imul, 1) := by decide +kernel
theorem dX4_mark_38 : decode cX4_mark 38 = .ok (.isub, 1) := by decide +kernel
theorem dX4_mark_39 : decode cX4_mark 39 = .ok (.invokestatic 28, 3) := by decide +kernel
theorem dX4_mark_42 : decode cX4_mark 42 = .ok (.lstore 8, 2) := by decide +kernel
theorem dX4_mark_44 : decode cX4_mark 44 = .ok (.iload 7, 2) := by decide +kernel
theorem dX4_mark_46 : decode cX4_mark 46 = .ok (.ifCond .lt 66, 3) := by decide +kernel
theorem dX4_mark_49 : decode cX4_mark 49 = .ok (.iload 7, 2) := by decide +kernel
theorem dX4_mark_51 : decode cX4_mark 51 = .ok (.aload_n 0, 1) := by decide +kernel
theorem dX4_mark_52 : decode cX4_mark 52 = .ok (.getfield 9, 3) := by decide +kernel
theorem dX4_mark_55 : decode cX4_mark 55 = .ok (.arraylength, 1) := by decide +kernel
theorem dX4_mark_56 : decode cX4_mark 56 = .ok (.if_icmp .ge 56, 3) := by decide +kernel
theorem dX4_mark_59 : decode cX4_mark 59 = .ok (.lload 8, 2) := by decide +kernel
theorem dX4_mark_61 : decode cX4_mark 61 = .ok (.iload 4, 2) := by decide +kernel
theorem dX4_mark_63 : decode cX4_mark 63 = .ok (.ifCond .eq 17, 3) := by decide +kernel
theorem dX4_mark_66 : decode cX4_mark 66 = .ok (.aload_n 0, 1) := by decide +kernel
theorem dX4_mark_67 : decode cX4_mark 67 = .ok (.getfield 9, 3) := by decide +kernel
theorem dX4_mark_70 : decode cX4_mark 70 = .ok (.iload 7, 2) := by decide +kernel
theorem dX4_mark_72 : decode cX4_mark 72 = .ok (.laload, 1) := by decide +kernel
theorem dX4_mark_73 : decode cX4_mark 73 = .ok (.ldc2_w 32, 3) := by decide +kernel
theorem dX4_mark_76 : decode cX4_mark 76 = .ok (.lxor, 1) := by decide +kernel
theorem dX4_mark_77 : decode cX4_mark 77 = .ok (.goto 10, 3) := by decide +kernel
theorem dX4_mark_80 : decode cX4_mark 80 = .ok (.aload_n 0, 1) := by decide +kernel
theorem dX4_mark_81 : decode cX4_mark 81 = .ok (.getfield 9, 3) := by decide +kernel
theorem dX4_mark_84 : decode cX4_mark 84 = .ok (.iload 7, 2) := by decide +kernel
theorem dX4_mark_86 : decode cX4_mark 86 = .ok (.laload, 1) := by decide +kernel
theorem dX4_mark_87 : decode cX4_mark 87 = .ok (.land, 1) := by decide +kernel
theorem dX4_mark_88 : decode cX4_mark 88 = .ok (.lstore 10, 2) := by decide +kernel
theorem dX4_mark_90 : decode cX4_mark 90 = .ok (.aload_n 0, 1) := by decide +kernel
theorem dX4_mark_91 : decode cX4_mark 91 = .ok (.getfield 9, 3) := by decide +kernel
theorem dX4_mark_94 : decode cX4_mark 94 = .ok (.iload 7, 2) := by decide +kernel
theorem dX4_mark_96 : decode cX4_mark 96 = .ok (.dup2, 1) := by decide +kernel
theorem dX4_mark_97 : decode cX4_mark 97 = .ok (.laload, 1) := by decide +kernel
theorem dX4_mark_98 : decode cX4_mark 98 = .ok (.lload 10, 2) := by decide +kernel
theorem dX4_mark_100 : decode cX4_mark 100 = .ok (.lxor, 1) := by decide +kernel
theorem dX4_mark_101 : decode cX4_mark 101 = .ok (.lastore, 1) := by decide +kernel
theorem dX4_mark_102 : decode cX4_mark 102 = .ok (.iload 5, 2) := by decide +kernel
theorem dX4_mark_104 : decode cX4_mark 104 = .ok (.lload 10, 2) := by decide +kernel
theorem dX4_mark_106 : decode cX4_mark 106 = .ok (.invokestatic 34, 3) := by decide +kernel
theorem dX4_mark_109 : decode cX4_mark 109 = .ok (.iadd, 1) := by decide +kernel
theorem dX4_mark_110 : decode cX4_mark 110 = .ok (.istore 5, 2) := by decide +kernel
theorem dX4_mark_112 : decode cX4_mark 112 = .ok (.iinc 6 1, 3) := by decide +kernel
theorem dX4_mark_115 : decode cX4_mark 115 = .ok (.goto (-109), 3) := by decide +kernel
theorem dX4_mark_118 : decode cX4_mark 118 = .ok (.iload 5, 2) := by decide +kernel
theorem dX4_mark_120 : decode cX4_mark 120 = .ok (.ireturn, 1) := by decide +kernel
theorem dX4_bitsBetween_0 : decode cX4_bitsBetween 0 = .ok (.iload_n 0, 1) := by decide +kernel
theorem dX4_bitsBetween_1 : decode cX4_bitsBetween 1 = .ok (.iconst 0, 1) := by decide +kernel
theorem dX4_bitsBetween_2 : decode cX4_bitsBetween 2 = .ok (.invokestatic 40, 3) := by decide +kernel
theorem dX4_bitsBetween_5 : decode cX4_bitsBetween 5 = .ok (.istore_n 2, 1) := by decide +kernel
theorem dX4_bitsBetween_6 : decode cX4_bitsBetween 6 = .ok (.iload_n 1, 1) := by decide +kernel
theorem dX4_bitsBetween_7 : decode cX4_bitsBetween 7 = .ok (.bipush 64, 2) := by decide +kernel
theorem dX4_bitsBetween_9 : decode cX4_bitsBetween 9 = .ok (.invokestatic 46, 3) := by decide +kernel
theorem dX4_bitsBetween_12 : decode cX4_bitsBetween 12 = .ok (.istore_n 3, 1) := by decide +kernel
theorem dX4_bitsBetween_13 : decode cX4_bitsBetween 13 = .ok (.iload_n 2, 1) := by decide +kernel
theorem dX4_bitsBetween_14 : decode cX4_bitsBetween 14 = .ok (.iload_n 3, 1) := by decide +kernel
theorem dX4_bitsBetween_15 : decode cX4_bitsBetween 15 = .ok (.if_icmp .lt 7, 3) := by decide +kernel
theorem dX4_bitsBetween_18 : decode cX4_bitsBetween 18 = .ok (.lconst 0, 1) := by decide +kernel
theorem dX4_bitsBetween_19 : decode cX4_bitsBetween 19 = .ok (.goto 17, 3) := by decide +kernel
theorem dX4_bitsBetween_22 : decode cX4_bitsBetween 22 = .ok (.ldc2_w 32, 3) := by decide +kernel
theorem dX4_bitsBetween_25 : decode cX4_bitsBetween 25 = .ok (.iload_n 2, 1) := by decide +kernel
theorem dX4_bitsBetween_26 : decode cX4_bitsBetween 26 = .ok (.lshl, 1) := by decide +kernel
theorem dX4_bitsBetween_27 : decode cX4_bitsBetween 27 = .ok (.ldc2_w 32, 3) := by decide +kernel
theorem dX4_bitsBetween_30 : decode cX4_bitsBetween 30 = .ok (.bipush 64, 2) := by decide +kernel
theorem dX4_bitsBetween_32 : decode cX4_bitsBetween 32 = .ok (.iload_n 3, 1) := by decide +kernel
theorem dX4_bitsBetween_33 : decode cX4_bitsBetween 33 = .ok (.isub, 1) := by decide +kernel
theorem dX4_bitsBetween_34 : decode cX4_bitsBetween 34 = .ok (.lushr, 1) := by decide +kernel
theorem dX4_bitsBetween_35 : decode cX4_bitsBetween 35 = .ok (.land, 1) := by decide +kernel
theorem dX4_bitsBetween_36 : decode cX4_bitsBetween 36 = .ok (.lreturn, 1) := by decide +kernel
theorem dX4_leftOutOf_0 : decode cX4_leftOutOf 0 = .ok (.iconst 0, 1) := by decide +kernel
theorem dX4_leftOutOf_1 : decode cX4_leftOutOf 1 = .ok (.istore_n 2, 1) := by decide +kernel
theorem dX4_leftOutOf_2 : decode cX4_leftOutOf 2 = .ok (.iconst 0, 1) := by decide +kernel
theorem dX4_leftOutOf_3 : decode cX4_leftOutOf 3 = .ok (.istore_n 3, 1) := by decide +kernel
theorem dX4_leftOutOf_4 : decode cX4_leftOutOf 4 = .ok (.iload_n 3, 1) := by decide +kernel
theorem dX4_leftOutOf_5 : decode cX4_leftOutOf 5 = .ok (.bipush 16, 2) := by decide +kernel
theorem dX4_leftOutOf_7 : decode cX4_leftOutOf 7 = .ok (.if_icmp .ge 48, 3) := by decide +kernel
theorem dX4_leftOutOf_10 : decode cX4_leftOutOf 10 = .ok (.aload_n 1, 1) := by decide +kernel
theorem dX4_leftOutOf_11 : decode cX4_leftOutOf 11 = .ok (.getfield 23, 3) := by decide +kernel
theorem dX4_leftOutOf_14 : decode cX4_leftOutOf 14 = .ok (.bipush 16, 2) := by decide +kernel
theorem dX4_leftOutOf_16 : decode cX4_leftOutOf 16 = .ok (.imul, 1) := by decide +kernel
theorem dX4_leftOutOf_17 : decode cX4_leftOutOf 17 = .ok (.iload_n 3, 1) := by decide +kernel
theorem dX4_leftOutOf_18 : decode cX4_leftOutOf 18 = .ok (.iadd, 1) := by decide +kernel
theorem dX4_leftOutOf_19 : decode cX4_leftOutOf 19 = .ok (.istore 4, 2) := by decide +kernel
theorem dX4_leftOutOf_21 : decode cX4_leftOutOf 21 = .ok (.iload 4, 2) := by decide +kernel
theorem dX4_leftOutOf_23 : decode cX4_leftOutOf 23 = .ok (.ifCond .lt 26, 3) := by decide +kernel
theorem dX4_leftOutOf_26 : decode cX4_leftOutOf 26 = .ok (.iload 4, 2) := by decide +kernel
theorem dX4_leftOutOf_28 : decode cX4_leftOutOf 28 = .ok (.aload_n 0, 1) := by decide +kernel
theorem dX4_leftOutOf_29 : decode cX4_leftOutOf 29 = .ok (.getfield 9, 3) := by decide +kernel
theorem dX4_leftOutOf_32 : decode cX4_leftOutOf 32 = .ok (.arraylength, 1) := by decide +kernel
theorem dX4_leftOutOf_33 : decode cX4_leftOutOf 33 = .ok (.if_icmp .ge 16, 3) := by decide +kernel
theorem dX4_leftOutOf_36 : decode cX4_leftOutOf 36 = .ok (.iload_n 2, 1) := by decide +kernel
theorem dX4_leftOutOf_37 : decode cX4_leftOutOf 37 = .ok (.aload_n 0, 1) := by decide +kernel
theorem dX4_leftOutOf_38 : decode cX4_leftOutOf 38 = .ok (.getfield 9, 3) := by decide +kernel
theorem dX4_leftOutOf_41 : decode cX4_leftOutOf 41 = .ok (.iload 4, 2) := by decide +kernel
theorem dX4_leftOutOf_43 : decode cX4_leftOutOf 43 = .ok (.laload, 1) := by decide +kernel
theorem dX4_leftOutOf_44 : decode cX4_leftOutOf 44 = .ok (.invokestatic 34, 3) := by decide +kernel
theorem dX4_leftOutOf_47 : decode cX4_leftOutOf 47 = .ok (.iadd, 1) := by decide +kernel
theorem dX4_leftOutOf_48 : decode cX4_leftOutOf 48 = .ok (.istore_n 2, 1) := by decide +kernel
theorem dX4_leftOutOf_49 : decode cX4_leftOutOf 49 = .ok (.iinc 3 1, 3) := by decide +kernel
theorem dX4_leftOutOf_52 : decode cX4_leftOutOf 52 = .ok (.goto (-48), 3) := by decide +kernel
theorem dX4_leftOutOf_55 : decode cX4_leftOutOf 55 = .ok (.iload_n 2, 1) := by decide +kernel
theorem dX4_leftOutOf_56 : decode cX4_leftOutOf 56 = .ok (.ireturn, 1) := by decide +kernel
theorem dX4_isLeftOut_0 : decode cX4_isLeftOut 0 = .ok (.aload_n 1, 1) := by decide +kernel
theorem dX4_isLeftOut_1 : decode cX4_isLeftOut 1 = .ok (.getfield 23, 3) := by decide +kernel
theorem dX4_isLeftOut_4 : decode cX4_isLeftOut 4 = .ok (.bipush 16, 2) := by decide +kernel
theorem dX4_isLeftOut_6 : decode cX4_isLeftOut 6 = .ok (.imul, 1) := by decide +kernel
theorem dX4_isLeftOut_7 : decode cX4_isLeftOut 7 = .ok (.iload_n 2, 1) := by decide +kernel
theorem dX4_isLeftOut_8 : decode cX4_isLeftOut 8 = .ok (.bipush 64, 2) := by decide +kernel
theorem dX4_isLeftOut_10 : decode cX4_isLeftOut 10 = .ok (.idiv, 1) := by decide +kernel
theorem dX4_isLeftOut_11 : decode cX4_isLeftOut 11 = .ok (.iadd, 1) := by decide +kernel
theorem dX4_isLeftOut_12 : decode cX4_isLeftOut 12 = .ok (.istore_n 3, 1) := by decide +kernel
theorem dX4_isLeftOut_13 : decode cX4_isLeftOut 13 = .ok (.iload_n 3, 1) := by decide +kernel
theorem dX4_isLeftOut_14 : decode cX4_isLeftOut 14 = .ok (.ifCond .lt 34, 3) := by decide +kernel
theorem dX4_isLeftOut_17 : decode cX4_isLeftOut 17 = .ok (.iload_n 3, 1) := by decide +kernel
theorem dX4_isLeftOut_18 : decode cX4_isLeftOut 18 = .ok (.aload_n 0, 1) := by decide +kernel
theorem dX4_isLeftOut_19 : decode cX4_isLeftOut 19 = .ok (.getfield 9, 3) := by decide +kernel
theorem dX4_isLeftOut_22 : decode cX4_isLeftOut 22 = .ok (.arraylength, 1) := by decide +kernel
theorem dX4_isLeftOut_23 : decode cX4_isLeftOut 23 = .ok (.if_icmp .ge 25, 3) := by decide +kernel
theorem dX4_isLeftOut_26 : decode cX4_isLeftOut 26 = .ok (.aload_n 0, 1) := by decide +kernel
theorem dX4_isLeftOut_27 : decode cX4_isLeftOut 27 = .ok (.getfield 9, 3) := by decide +kernel
theorem dX4_isLeftOut_30 : decode cX4_isLeftOut 30 = .ok (.iload_n 3, 1) := by decide +kernel
theorem dX4_isLeftOut_31 : decode cX4_isLeftOut 31 = .ok (.laload, 1) := by decide +kernel
theorem dX4_isLeftOut_32 : decode cX4_isLeftOut 32 = .ok (.iload_n 2, 1) := by decide +kernel
theorem dX4_isLeftOut_33 : decode cX4_isLeftOut 33 = .ok (.bipush 64, 2) := by decide +kernel
theorem dX4_isLeftOut_35 : decode cX4_isLeftOut 35 = .ok (.irem, 1) := by decide +kernel
theorem dX4_isLeftOut_36 : decode cX4_isLeftOut 36 = .ok (.lushr, 1) := by decide +kernel
theorem dX4_isLeftOut_37 : decode cX4_isLeftOut 37 = .ok (.lconst 1, 1) := by decide +kernel
theorem dX4_isLeftOut_38 : decode cX4_isLeftOut 38 = .ok (.land, 1) := by decide +kernel
theorem dX4_isLeftOut_39 : decode cX4_isLeftOut 39 = .ok (.lconst 0, 1) := by decide +kernel
theorem dX4_isLeftOut_40 : decode cX4_isLeftOut 40 = .ok (.lcmp, 1) := by decide +kernel
theorem dX4_isLeftOut_41 : decode cX4_isLeftOut 41 = .ok (.ifCond .eq 7, 3) := by decide +kernel
theorem dX4_isLeftOut_44 : decode cX4_isLeftOut 44 = .ok (.iconst 1, 1) := by decide +kernel
theorem dX4_isLeftOut_45 : decode cX4_isLeftOut 45 = .ok (.goto 4, 3) := by decide +kernel
theorem dX4_isLeftOut_48 : decode cX4_isLeftOut 48 = .ok (.iconst 0, 1) := by decide +kernel
theorem dX4_isLeftOut_49 : decode cX4_isLeftOut 49 = .ok (.ireturn, 1) := by decide +kernel
theorem dX4_lengthByShots_0 : decode cX4_lengthByShots 0 = .ok (.iconst 0, 1) := by decide +kernel
theorem dX4_lengthByShots_1 : decode cX4_lengthByShots 1 = .ok (.istore_n 1, 1) := by decide +kernel
theorem dX4_lengthByShots_2 : decode cX4_lengthByShots 2 = .ok (.iconst 0, 1) := by decide +kernel
theorem dX4_lengthByShots_3 : decode cX4_lengthByShots 3 = .ok (.istore_n 2, 1) := by decide +kernel
theorem dX4_lengthByShots_4 : decode cX4_lengthByShots 4 = .ok (.iload_n 2, 1) := by decide +kernel
theorem dX4_lengthByShots_5 : decode cX4_lengthByShots 5 = .ok (.aload_n 0, 1) := by decide +kernel
theorem dX4_lengthByShots_6 : decode cX4_lengthByShots 6 = .ok (.getfield 15, 3) := by decide +kernel
theorem dX4_lengthByShots_9 : decode cX4_lengthByShots 9 = .ok (.getfield 49, 3) := by decide +kernel
theorem dX4_lengthByShots_12 : decode cX4_lengthByShots 12 = .ok (.invokevirtual 55, 3) := by decide +kernel
theorem dX4_lengthByShots_15 : decode cX4_lengthByShots 15 = .ok (.if_icmp .ge 37, 3) := by decide +kernel
theorem dX4_lengthByShots_18 : decode cX4_lengthByShots 18 = .ok (.aload_n 0, 1) := by decide +kernel
theorem dX4_lengthByShots_19 : decode cX4_lengthByShots 19 = .ok (.getfield 15, 3) := by decide +kernel
theorem dX4_lengthByShots_22 : decode cX4_lengthByShots 22 = .ok (.getfield 49, 3) := by decide +kernel
theorem dX4_lengthByShots_25 : decode cX4_lengthByShots 25 = .ok (.iload_n 2, 1) := by decide +kernel
theorem dX4_lengthByShots_26 : decode cX4_lengthByShots 26 = .ok (.invokevirtual 61, 3) := by decide +kernel
theorem dX4_lengthByShots_29 : decode cX4_lengthByShots 29 = .ok (.checkcast 24, 3) := by decide +kernel
theorem dX4_lengthByShots_32 : decode cX4_lengthByShots 32 = .ok (.astore_n 3, 1) := by decide +kernel
theorem dX4_lengthByShots_33 : decode cX4_lengthByShots 33 = .ok (.iload_n 1, 1) := by decide +kernel
theorem dX4_lengthByShots_34 : decode cX4_lengthByShots 34 = .ok (.aload_n 3, 1) := by decide +kernel
theorem dX4_lengthByShots_35 : decode cX4_lengthByShots 35 = .ok (.invokevirtual 65, 3) := by decide +kernel
theorem dX4_lengthByShots_38 : decode cX4_lengthByShots 38 = .ok (.aload_n 0, 1) := by decide +kernel
theorem dX4_lengthByShots_39 : decode cX4_lengthByShots 39 = .ok (.aload_n 3, 1) := by decide +kernel
theorem dX4_lengthByShots_40 : decode cX4_lengthByShots 40 = .ok (.invokevirtual 68, 3) := by decide +kernel
theorem dX4_lengthByShots_43 : decode cX4_lengthByShots 43 = .ok (.isub, 1) := by decide +kernel
theorem dX4_lengthByShots_44 : decode cX4_lengthByShots 44 = .ok (.iadd, 1) := by decide +kernel
theorem dX4_lengthByShots_45 : decode cX4_lengthByShots 45 = .ok (.istore_n 1, 1) := by decide +kernel
theorem dX4_lengthByShots_46 : decode cX4_lengthByShots 46 = .ok (.iinc 2 1, 3) := by decide +kernel
theorem dX4_lengthByShots_49 : decode cX4_lengthByShots 49 = .ok (.goto (-45), 3) := by decide +kernel
theorem dX4_lengthByShots_52 : decode cX4_lengthByShots 52 = .ok (.iload_n 1, 1) := by decide +kernel
theorem dX4_lengthByShots_53 : decode cX4_lengthByShots 53 = .ok (.ireturn, 1) := by decide +kernel
theorem dX4_lengthByFrames_0 : decode cX4_lengthByFrames 0 = .ok (.iconst 0, 1) := by decide +kernel
theorem dX4_lengthByFrames_1 : decode cX4_lengthByFrames 1 = .ok (.istore_n 1, 1) := by decide +kernel
theorem dX4_lengthByFrames_2 : decode cX4_lengthByFrames 2 = .ok (.iconst 0, 1) := by decide +kernel
theorem dX4_lengthByFrames_3 : decode cX4_lengthByFrames 3 = .ok (.istore_n 2, 1) := by decide +kernel
theorem dX4_lengthByFrames_4 : decode cX4_lengthByFrames 4 = .ok (.iload_n 2, 1) := by decide +kernel
theorem dX4_lengthByFrames_5 : decode cX4_lengthByFrames 5 = .ok (.aload_n 0, 1) := by decide +kernel
theorem dX4_lengthByFrames_6 : decode cX4_lengthByFrames 6 = .ok (.getfield 15, 3) := by decide +kernel
theorem dX4_lengthByFrames_9 : decode cX4_lengthByFrames 9 = .ok (.getfield 49, 3) := by decide +kernel
theorem dX4_lengthByFrames_12 : decode cX4_lengthByFrames 12 = .ok (.invokevirtual 55, 3) := by decide +kernel
theorem dX4_lengthByFrames_15 : decode cX4_lengthByFrames 15 = .ok (.if_icmp .ge 59, 3) := by decide +kernel
theorem dX4_lengthByFrames_18 : decode cX4_lengthByFrames 18 = .ok (.aload_n 0, 1) := by decide +kernel
theorem dX4_lengthByFrames_19 : decode cX4_lengthByFrames 19 = .ok (.getfield 15, 3) := by decide +kernel
theorem dX4_lengthByFrames_22 : decode cX4_lengthByFrames 22 = .ok (.getfield 49, 3) := by decide +kernel
theorem dX4_lengthByFrames_25 : decode cX4_lengthByFrames 25 = .ok (.iload_n 2, 1) := by decide +kernel
theorem dX4_lengthByFrames_26 : decode cX4_lengthByFrames 26 = .ok (.invokevirtual 61, 3) := by decide +kernel
theorem dX4_lengthByFrames_29 : decode cX4_lengthByFrames 29 = .ok (.checkcast 24, 3) := by decide +kernel
theorem dX4_lengthByFrames_32 : decode cX4_lengthByFrames 32 = .ok (.astore_n 3, 1) := by decide +kernel
theorem dX4_lengthByFrames_33 : decode cX4_lengthByFrames 33 = .ok (.aload_n 3, 1) := by decide +kernel
theorem dX4_lengthByFrames_34 : decode cX4_lengthByFrames 34 = .ok (.invokevirtual 65, 3) := by decide +kernel
theorem dX4_lengthByFrames_37 : decode cX4_lengthByFrames 37 = .ok (.istore 4, 2) := by decide +kernel
theorem dX4_lengthByFrames_39 : decode cX4_lengthByFrames 39 = .ok (.iconst 0, 1) := by decide +kernel
theorem dX4_lengthByFrames_40 : decode cX4_lengthByFrames 40 = .ok (.istore 5, 2) := by decide +kernel
theorem dX4_lengthByFrames_42 : decode cX4_lengthByFrames 42 = .ok (.iload 5, 2) := by decide +kernel
theorem dX4_lengthByFrames_44 : decode cX4_lengthByFrames 44 = .ok (.iload 4, 2) := by decide +kernel
theorem dX4_lengthByFrames_46 : decode cX4_lengthByFrames 46 = .ok (.if_icmp .ge 22, 3) := by decide +kernel
theorem dX4_lengthByFrames_49 : decode cX4_lengthByFrames 49 = .ok (.aload_n 0, 1) := by decide +kernel
theorem dX4_lengthByFrames_50 : decode cX4_lengthByFrames 50 = .ok (.aload_n 3, 1) := by decide +kernel
theorem dX4_lengthByFrames_51 : decode cX4_lengthByFrames 51 = .ok (.iload 5, 2) := by decide +kernel
theorem dX4_lengthByFrames_53 : decode cX4_lengthByFrames 53 = .ok (.invokevirtual 72, 3) := by decide +kernel
theorem dX4_lengthByFrames_56 : decode cX4_lengthByFrames 56 = .ok (.ifCond .ne 6, 3) := by decide +kernel
theorem dX4_lengthByFrames_59 : decode cX4_lengthByFrames 59 = .ok (.iinc 1 1, 3) := by decide +kernel
theorem dX4_lengthByFrames_62 : decode cX4_lengthByFrames 62 = .ok (.iinc 5 1, 3) := by decide +kernel
theorem dX4_lengthByFrames_65 : decode cX4_lengthByFrames 65 = .ok (.goto (-23), 3) := by decide +kernel
theorem dX4_lengthByFrames_68 : decode cX4_lengthByFrames 68 = .ok (.iinc 2 1, 3) := by decide +kernel
theorem dX4_lengthByFrames_71 : decode cX4_lengthByFrames 71 = .ok (.goto (-67), 3) := by decide +kernel
theorem dX4_lengthByFrames_74 : decode cX4_lengthByFrames 74 = .ok (.iload_n 1, 1) := by decide +kernel
theorem dX4_lengthByFrames_75 : decode cX4_lengthByFrames 75 = .ok (.ireturn, 1) := by decide +kernel
theorem dX6_init_0 : decode cX6_init 0 = .ok (.aload_n 0, 1) := by decide +kernel
theorem dX6_init_1 : decode cX6_init 1 = .ok (.invokespecial 1, 3) := by decide +kernel
theorem dX6_init_4 : decode cX6_init 4 = .ok (.aload_n 0, 1) := by decide +kernel
theorem dX6_init_5 : decode cX6_init 5 = .ok (.sipush 360, 3) := by decide +kernel
theorem dX6_init_8 : decode cX6_init 8 = .ok (.newarray .int, 2) := by decide +kernel
theorem dX6_init_10 : decode cX6_init 10 = .ok (.putfield 7, 3) := by decide +kernel
theorem dX6_init_13 : decode cX6_init 13 = .ok (.aload_n 0, 1) := by decide +kernel
theorem dX6_init_14 : decode cX6_init 14 = .ok (.bipush 6, 2) := by decide +kernel
theorem dX6_init_16 : decode cX6_init 16 = .ok (.newarray .int, 2) := by decide +kernel
theorem dX6_init_18 : decode cX6_init 18 = .ok (.putfield 13, 3) := by decide +kernel
theorem dX6_init_21 : decode cX6_init 21 = .ok (.aload_n 0, 1) := by decide +kernel
theorem dX6_init_22 : decode cX6_init 22 = .ok (.bipush 60, 2) := by decide +kernel
theorem dX6_init_24 : decode cX6_init 24 = .ok (.newarray .int, 2) := by decide +kernel
theorem dX6_init_26 : decode cX6_init 26 = .ok (.putfield 16, 3) := by decide +kernel
theorem dX6_init_29 : decode cX6_init 29 = .ok (.aload_n 0, 1) := by decide +kernel
theorem dX6_init_30 : decode cX6_init 30 = .ok (.bipush 60, 2) := by decide +kernel
theorem dX6_init_32 : decode cX6_init 32 = .ok (.newarray .int, 2) := by decide +kernel
theorem dX6_init_34 : decode cX6_init 34 = .ok (.putfield 19, 3) := by decide +kernel
theorem dX6_init_37 : decode cX6_init 37 = .ok (.aload_n 0, 1) := by decide +kernel
theorem dX6_init_38 : decode cX6_init 38 = .ok (.bipush 60, 2) := by decide +kernel
theorem dX6_init_40 : decode cX6_init 40 = .ok (.newarray .int, 2) := by decide +kernel
theorem dX6_init_42 : decode cX6_init 42 = .ok (.putfield 22, 3) := by decide +kernel
theorem dX6_init_45 : decode cX6_init 45 = .ok (.aload_n 0, 1) := by decide +kernel
theorem dX6_init_46 : decode cX6_init 46 = .ok (.bipush 60, 2) := by decide +kernel
theorem dX6_init_48 : decode cX6_init 48 = .ok (.newarray .int, 2) := by decide +kernel
theorem dX6_init_50 : decode cX6_init 50 = .ok (.putfield 25, 3) := by decide +kernel
theorem dX6_init_53 : decode cX6_init 53 = .ok (.aload_n 0, 1) := by decide +kernel
theorem dX6_init_54 : decode cX6_init 54 = .ok (.bipush 60, 2) := by decide +kernel
theorem dX6_init_56 : decode cX6_init 56 = .ok (.newarray .int, 2) := by decide +kernel
theorem dX6_init_58 : decode cX6_init 58 = .ok (.putfield 28, 3) := by decide +kernel
theorem dX6_init_61 : decode cX6_init 61 = .ok (.aload_n 0, 1) := by decide +kernel
theorem dX6_init_62 : decode cX6_init 62 = .ok (.bipush 60, 2) := by decide +kernel
theorem dX6_init_64 : decode cX6_init 64 = .ok (.newarray .int, 2) := by decide +kernel
theorem dX6_init_66 : decode cX6_init 66 = .ok (.putfield 31, 3) := by decide +kernel
theorem dX6_init_69 : decode cX6_init 69 = .ok (.aload_n 0, 1) := by decide +kernel
theorem dX6_init_70 : decode cX6_init 70 = .ok (.bipush 60, 2) := by decide +kernel
theorem dX6_init_72 : decode cX6_init 72 = .ok (.newarray .int, 2) := by decide +kernel
theorem dX6_init_74 : decode cX6_init 74 = .ok (.putfield 34, 3) := by decide +kernel
theorem dX6_init_77 : decode cX6_init 77 = .ok (.aload_n 0, 1) := by decide +kernel
theorem dX6_init_78 : decode cX6_init 78 = .ok (.bipush 60, 2) := by decide +kernel
theorem dX6_init_80 : decode cX6_init 80 = .ok (.newarray .int, 2) := by decide +kernel
theorem dX6_init_82 : decode cX6_init 82 = .ok (.putfield 37, 3) := by decide +kernel
theorem dX6_init_85 : decode cX6_init 85 = .ok (.aload_n 0, 1) := by decide +kernel
theorem dX6_init_86 : decode cX6_init 86 = .ok (.bipush 24, 2) := by decide +kernel
theorem dX6_init_88 : decode cX6_init 88 = .ok (.newarray .int, 2) := by decide +kernel
theorem dX6_init_90 : decode cX6_init 90 = .ok (.putfield 40, 3) := by decide +kernel
theorem dX6_init_93 : decode cX6_init 93 = .ok (.aload_n 0, 1) := by decide +kernel
theorem dX6_init_94 : decode cX6_init 94 = .ok (.sipush 1440, 3) := by decide +kernel
theorem dX6_init_97 : decode cX6_init 97 = .ok (.newarray .int, 2) := by decide +kernel
theorem dX6_init_99 : decode cX6_init 99 = .ok (.putfield 43, 3) := by decide +kernel
theorem dX6_init_102 : decode cX6_init 102 = .ok (.aload_n 0, 1) := by decide +kernel
theorem dX6_init_103 : decode cX6_init 103 = .ok (.sipush 1440, 3) := by decide +kernel
theorem dX6_init_106 : decode cX6_init 106 = .ok (.newarray .int, 2) := by decide +kernel
theorem dX6_init_108 : decode cX6_init 108 = .ok (.putfield 46, 3) := by decide +kernel
theorem dX6_init_111 : decode cX6_init 111 = .ok (.aload_n 0, 1) := by decide +kernel
theorem dX6_init_112 : decode cX6_init 112 = .ok (.bipush 24, 2) := by decide +kernel
theorem dX6_init_114 : decode cX6_init 114 = .ok (.newarray .int, 2) := by decide +kernel
theorem dX6_init_116 : decode cX6_init 116 = .ok (.putfield 49, 3) := by decide +kernel
theorem dX6_init_119 : decode cX6_init 119 = .ok (.aload_n 0, 1) := by decide +kernel
theorem dX6_init_120 : decode cX6_init 120 = .ok (.bipush 10, 2) := by decide +kernel
theorem dX6_init_122 : decode cX6_init 122 = .ok (.putfield 52, 3) := by decide +kernel
theorem dX6_init_125 : decode cX6_init 125 = .ok (.aload_n 0, 1) := by decide +kernel
theorem dX6_init_126 : decode cX6_init 126 = .ok (.bipush 10, 2) := by decide +kernel
theorem dX6_init_128 : decode cX6_init 128 = .ok (.newarray .int, 2) := by decide +kernel
theorem dX6_init_130 : decode cX6_init 130 = .ok (.putfield 56, 3) := by decide +kernel
theorem dX6_init_133 : decode cX6_init 133 = .ok (.aload_n 0, 1) := by decide +kernel
theorem dX6_init_134 : decode cX6_init 134 = .ok (.bipush 10, 2) := by decide +kernel
theorem dX6_init_136 : decode cX6_init 136 = .ok (.newarray .int, 2) := by decide +kernel
theorem dX6_init_138 : decode cX6_init 138 = .ok (.putfield 59, 3) := by decide +kernel
theorem dX6_init_141 : decode cX6_init 141 = .ok (.aload_n 0, 1) := by decide +kernel
theorem dX6_init_142 : decode cX6_init 142 = .ok (.sipush 19200, 3) := by decide +kernel
theorem dX6_init_145 : decode cX6_init 145 = .ok (.newarray .int, 2) := by decide +kernel
theorem dX6_init_147 : decode cX6_init 147 = .ok (.putfield 62, 3) := by decide +kernel
theorem dX6_init_150 : decode cX6_init 150 = .ok (.aload_n 0, 1) := by decide +kernel
theorem dX6_init_151 : decode cX6_init 151 = .ok (.bipush 20, 2) := by decide +kernel
theorem dX6_init_153 : decode cX6_init 153 = .ok (.newarray .int, 2) := by decide +kernel
theorem dX6_init_155 : decode cX6_init 155 = .ok (.putfield 65, 3) := by decide +kernel
theorem dX6_init_158 : decode cX6_init 158 = .ok (.aload_n 0, 1) := by decide +kernel
theorem dX6_init_159 : decode cX6_init 159 = .ok (.bipush 20, 2) := by decide +kernel
theorem dX6_init_161 : decode cX6_init 161 = .ok (.newarray .int, 2) := by decide +kernel
theorem dX6_init_163 : decode cX6_init 163 = .ok (.putfield 68, 3) := by decide +kernel
theorem dX6_init_166 : decode cX6_init 166 = .ok (.aload_n 0, 1) := by decide +kernel
theorem dX6_init_167 : decode cX6_init 167 = .ok (.bipush 20, 2) := by decide +kernel
theorem dX6_init_169 : decode cX6_init 169 = .ok (.newarray .int, 2) := by decide +kernel
theorem dX6_init_171 : decode cX6_init 171 = .ok (.putfield 71, 3) := by decide +kernel
theorem dX6_init_174 : decode cX6_init 174 = .ok (.aload_n 0, 1) := by decide +kernel
theorem dX6_init_175 : decode cX6_init 175 = .ok (.bipush 20, 2) := by decide +kernel
theorem dX6_init_177 : decode cX6_init 177 = .ok (.newarray .int, 2) := by decide +kernel
theorem dX6_init_179 : decode cX6_init 179 = .ok (.putfield 74, 3) := by decide +kernel
theorem dX6_init_182 : decode cX6_init 182 = .ok (.aload_n 0, 1) := by decide +kernel
theorem dX6_init_183 : decode cX6_init 183 = .ok (.bipush 20, 2) := by decide +kernel
theorem dX6_init_185 : decode cX6_init 185 = .ok (.newarray .boolean, 2) := by decide +kernel
theorem dX6_init_187 : decode cX6_init 187 = .ok (.putfield 77, 3) := by decide +kernel
theorem dX6_init_190 : decode cX6_init 190 = .ok (.return_, 1) := by decide +kernel
theorem dX6_thrown_0 : decode cX6_thrown 0 = .ok (.aload_n 0, 1) := by decide +kernel
theorem dX6_thrown_1 : decode cX6_thrown 1 = .ok (.getfield 81, 3) := by decide +kernel
theorem dX6_thrown_4 : decode cX6_thrown 4 = .ok (.ireturn, 1) := by decide +kernel
theorem dX6_in_0 : decode cX6_in 0 = .ok (.iload_n 0, 1) := by decide +kernel
theorem dX6_in_1 : decode cX6_in 1 = .ok (.iload_n 1, 1) := by decide +kernel
theorem dX6_in_2 : decode cX6_in 2 = .ok (.if_icmp .lt 12, 3) := by decide +kernel
theorem dX6_in_5 : decode cX6_in 5 = .ok (.iload_n 0, 1) := by decide +kernel
theorem dX6_in_6 : decode cX6_in 6 = .ok (.iload_n 2, 1) := by decide +kernel
theorem dX6_in_7 : decode cX6_in 7 = .ok (.if_icmp .gt 7, 3) := by decide +kernel
theorem dX6_in_10 : decode cX6_in 10 = .ok (.iconst 1, 1) := by decide +kernel
theorem dX6_in_11 : decode cX6_in 11 = .ok (.goto 4, 3) := by decide +kernel
theorem dX6_in_14 : decode cX6_in 14 = .ok (.iconst 0, 1) := by decide +kernel
theorem dX6_in_15 : decode cX6_in 15 = .ok (.ireturn, 1) := by decide +kernel
theorem dX6_goesOn_0 : decode cX6_goesOn 0 = .ok (.aload_n 0, 1) := by decide +kernel
theorem dX6_goesOn_1 : decode cX6_goesOn 1 = .ok (.iload_n 1, 1) := by decide +kernel
theorem dX6_goesOn_2 : decode cX6_goesOn 2 = .ok (.putfield 81, 3) := by decide +kernel
theorem dX6_goesOn_5 : decode cX6_goesOn 5 = .ok (.iload_n 1, 1) := by decide +kernel
theorem dX6_goesOn_6 : decode cX6_goesOn 6 = .ok (.ifCond .ne 7, 3) := by decide +kernel
theorem dX6_goesOn_9 : decode cX6_goesOn 9 = .ok (.iconst 1, 1) := by decide +kernel
theorem dX6_goesOn_10 : decode cX6_goesOn 10 = .ok (.goto 4, 3) := by decide +kernel
theorem dX6_goesOn_13 : decode cX6_goesOn 13 = .ok (.iconst 0, 1) := by decide +kernel
theorem dX6_goesOn_14 : decode cX6_goesOn 14 = .ok (.ireturn, 1) := by decide +kernel
theorem dX6_isFilm_0 : decode cX6_isFilm 0 = .ok (.iload_n 1, 1) := by decide +kernel
theorem dX6_isFilm_1 : decode cX6_isFilm 1 = .ok (.iconst 0, 1) := by decide +kernel
theorem dX6_isFilm_2 : decode cX6_isFilm 2 = .ok (.aload_n 0, 1) := by decide +kernel
theorem dX6_isFilm_3 : decode cX6_isFilm 3 = .ok (.getfield 84, 3) := by decide +kernel
theorem dX6_isFilm_6 : decode cX6_isFilm 6 = .ok (.iconst 1, 1) := by decide +kernel
theorem dX6_isFilm_7 : decode cX6_isFilm 7 = .ok (.isub, 1) := by decide +kernel
theorem dX6_isFilm_8 : decode cX6_isFilm 8 = .ok (.invokestatic 87, 3) := by decide +kernel
theorem dX6_isFilm_11 : decode cX6_isFilm 11 = .ok (.ireturn, 1) := by decide +kernel
theorem dX6_isShot_0 : decode cX6_isShot 0 = .ok (.iload_n 1, 1) := by decide +kernel
theorem dX6_isShot_1 : decode cX6_isShot 1 = .ok (.iconst 0, 1) := by decide +kernel
theorem dX6_isShot_2 : decode cX6_isShot 2 = .ok (.aload_n 0, 1) := by decide +kernel
theorem dX6_isShot_3 : decode cX6_isShot 3 = .ok (.getfield 91, 3) := by decide +kernel
theorem dX6_isShot_6 : decode cX6_isShot 6 = .ok (.iconst 1, 1) := by decide +kernel
theorem dX6_isShot_7 : decode cX6_isShot 7 = .ok (.isub, 1) := by decide +kernel
theorem dX6_isShot_8 : decode cX6_isShot 8 = .ok (.invokestatic 87, 3) := by decide +kernel
theorem dX6_isShot_11 : decode cX6_isShot 11 = .ok (.ireturn, 1) := by decide +kernel
theorem dX6_isReel_0 : decode cX6_isReel 0 = .ok (.iload_n 1, 1) := by decide +kernel
theorem dX6_isReel_1 : decode cX6_isReel 1 = .ok (.iconst 0, 1) := by decide +kernel
theorem dX6_isReel_2 : decode cX6_isReel 2 = .ok (.aload_n 0, 1) := by decide +kernel
theorem dX6_isReel_3 : decode cX6_isReel 3 = .ok (.getfield 94, 3) := by decide +kernel
theorem dX6_isReel_6 : decode cX6_isReel 6 = .ok (.iconst 1, 1) := by decide +kernel
theorem dX6_isReel_7 : decode cX6_isReel 7 = .ok (.isub, 1) := by decide +kernel
theorem dX6_isReel_8 : decode cX6_isReel 8 = .ok (.invokestatic 87, 3) := by decide +kernel
theorem dX6_isReel_11 : decode cX6_isReel 11 = .ok (.ireturn, 1) := by decide +kernel
theorem dX6_isVersion_0 : decode cX6_isVersion 0 = .ok (.iload_n 1, 1) := by decide +kernel
theorem dX6_isVersion_1 : decode cX6_isVersion 1 = .ok (.iconst 0, 1) := by decide +kernel
theorem dX6_isVersion_2 : decode cX6_isVersion 2 = .ok (.aload_n 0, 1) := by decide +kernel
theorem dX6_isVersion_3 : decode cX6_isVersion 3 = .ok (.getfield 97, 3) := by decide +kernel
theorem dX6_isVersion_6 : decode cX6_isVersion 6 = .ok (.iconst 1, 1) := by decide +kernel
theorem dX6_isVersion_7 : decode cX6_isVersion 7 = .ok (.isub, 1) := by decide +kernel
theorem dX6_isVersion_8 : decode cX6_isVersion 8 = .ok (.invokestatic 87, 3) := by decide +kernel
theorem dX6_isVersion_11 : decode cX6_isVersion 11 = .ok (.ireturn, 1) := by decide +kernel
theorem dX6_isLent_0 : decode cX6_isLent 0 = .ok (.iconst 0, 1) := by decide +kernel
theorem dX6_isLent_1 : decode cX6_isLent 1 = .ok (.istore_n 2, 1) := by decide +kernel
theorem dX6_isLent_2 : decode cX6_isLent 2 = .ok (.iconst 0, 1) := by decide +kernel
theorem dX6_isLent_3 : decode cX6_isLent 3 = .ok (.istore_n 3, 1) := by decide +kernel
theorem dX6_isLent_4 : decode cX6_isLent 4 = .ok (.iload_n 3, 1) := by decide +kernel
theorem dX6_isLent_5 : decode cX6_isLent 5 = .ok (.aload_n 0, 1) := by decide +kernel
theorem dX6_isLent_6 : decode cX6_isLent 6 = .ok (.getfield 100, 3) := by decide +kernel
theorem dX6_isLent_9 : decode cX6_isLent 9 = .ok (.if_icmp .ge 43, 3) := by decide +kernel
theorem dX6_isLent_12 : decode cX6_isLent 12 = .ok (.iload_n 2, 1) := by decide +kernel
theorem dX6_isLent_13 : decode cX6_isLent 13 = .ok (.ifCond .ne 27, 3) := by decide +kernel
theorem dX6_isLent_16 : decode cX6_isLent 16 = .ok (.aload_n 0, 1) := by decide +kernel
theorem dX6_isLent_17 : decode cX6_isLent 17 = .ok (.getfield 77, 3) := by decide +kernel
theorem dX6_isLent_20 : decode cX6_isLent 20 = .ok (.iload_n 3, 1) := by decide +kernel
theorem dX6_isLent_21 : decode cX6_isLent 21 = .ok (.baload, 1) := by decide +kernel
theorem dX6_isLent_22 : decode cX6_isLent 22 = .ok (.ifCond .ne 22, 3) := by decide +kernel
theorem dX6_isLent_25 : decode cX6_isLent 25 = .ok (.aload_n 0, 1) := by decide +kernel
theorem dX6_isLent_26 : decode cX6_isLent 26 = .ok (.getfield 56, 3) := by decide +kernel
theorem dX6_isLent_29 : decode cX6_isLent 29 = .ok (.aload_n 0, 1) := by decide +kernel
theorem dX6_isLent_30 : decode cX6_isLent 30 = .ok (.getfield 65, 3) := by decide +kernel
theorem dX6_isLent_33 : decode cX6_isLent 33 = .ok (.iload_n 3, 1) := by decide +kernel
theorem dX6_isLent_34 : decode cX6_isLent 34 = .ok (.iaload, 1) := by decide +kernel
theorem dX6_isLent_35 : decode cX6_isLent 35 = .ok (.iaload, 1) := by decide +kernel
theorem dX6_isLent_36 : decode cX6_isLent 36 = .ok (.iload_n 1, 1) := by decide +kernel
theorem dX6_isLent_37 : decode cX6_isLent 37 = .ok (.if_icmp .ne 7, 3) := by decide +kernel
theorem dX6_isLent_40 : decode cX6_isLent 40 = .ok (.iconst 1, 1) := by decide +kernel
theorem dX6_isLent_41 : decode cX6_isLent 41 = .ok (.goto 4, 3) := by decide +kernel
theorem dX6_isLent_44 : decode cX6_isLent 44 = .ok (.iconst 0, 1) := by decide +kernel
theorem dX6_isLent_45 : decode cX6_isLent 45 = .ok (.istore_n 2, 1) := by decide +kernel
theorem dX6_isLent_46 : decode cX6_isLent 46 = .ok (.iinc 3 1, 3) := by decide +kernel
theorem dX6_isLent_49 : decode cX6_isLent 49 = .ok (.goto (-45), 3) := by decide +kernel
theorem dX6_isLent_52 : decode cX6_isLent 52 = .ok (.iload_n 2, 1) := by decide +kernel
theorem dX6_isLent_53 : decode cX6_isLent 53 = .ok (.ireturn, 1) := by decide +kernel
theorem dX6_addFilm_0 : decode cX6_addFilm 0 = .ok (.aload_n 0, 1) := by decide +kernel
theorem dX6_addFilm_1 : decode cX6_addFilm 1 = .ok (.aload_n 0, 1) := by decide +kernel
theorem dX6_addFilm_2 : decode cX6_addFilm 2 = .ok (.getfield 84, 3) := by decide +kernel
theorem dX6_addFilm_5 : decode cX6_addFilm 5 = .ok (.bipush 6, 2) := by decide +kernel
theorem dX6_addFilm_7 : decode cX6_addFilm 7 = .ok (.if_icmp .ne 7, 3) := by decide +kernel
theorem dX6_addFilm_10 : decode cX6_addFilm 10 = .ok (.iconst 1, 1) := by decide +kernel
theorem dX6_addFilm_11 : decode cX6_addFilm 11 = .ok (.goto 4, 3) := by decide +kernel
theorem dX6_addFilm_14 : decode cX6_addFilm 14 = .ok (.iconst 0, 1) := by decide +kernel
theorem dX6_addFilm_15 : decode cX6_addFilm 15 = .ok (.invokevirtual 103, 3) := by decide +kernel
theorem dX6_addFilm_18 : decode cX6_addFilm 18 = .ok (.ifCond .ne 5, 3) := by decide +kernel
theorem dX6_addFilm_21 : decode cX6_addFilm 21 = .ok (.iconst 0, 1) := by decide +kernel
theorem dX6_addFilm_22 : decode cX6_addFilm 22 = .ok (.ireturn, 1) := by decide +kernel
theorem dX6_addFilm_23 : decode cX6_addFilm 23 = .ok (.aload_n 0, 1) := by decide +kernel
theorem dX6_addFilm_24 : decode cX6_addFilm 24 = .ok (.dup, 1) := by decide +kernel
theorem dX6_addFilm_25 : decode cX6_addFilm 25 = .ok (.getfield 84, 3) := by decide +kernel
theorem dX6_addFilm_28 : decode cX6_addFilm 28 = .ok (.iconst 1, 1) := by decide +kernel
theorem dX6_addFilm_29 : decode cX6_addFilm 29 = .ok (.iadd, 1) := by decide +kernel
theorem dX6_addFilm_30 : decode cX6_addFilm 30 = .ok (.putfield 84, 3) := by decide +kernel
theorem dX6_addFilm_33 : decode cX6_addFilm 33 = .ok (.aload_n 0, 1) := by decide +kernel
theorem dX6_addFilm_34 : decode cX6_addFilm 34 = .ok (.getfield 84, 3) := by decide +kernel
theorem dX6_addFilm_37 : decode cX6_addFilm 37 = .ok (.iconst 1, 1) := by decide +kernel
theorem dX6_addFilm_38 : decode cX6_addFilm 38 = .ok (.isub, 1) := by decide +kernel
theorem dX6_addFilm_39 : decode cX6_addFilm 39 = .ok (.ireturn, 1) := by decide +kernel
theorem dX6_makes_0 : decode cX6_makes 0 = .ok (.aload_n 0, 1) := by decide +kernel
theorem dX6_makes_1 : decode cX6_makes 1 = .ok (.getfield 13, 3) := by decide +kernel
theorem dX6_makes_4 : decode cX6_makes 4 = .ok (.iload_n 1, 1) := by decide +kernel
theorem dX6_makes_5 : decode cX6_makes 5 = .ok (.iaload, 1) := by decide +kernel
theorem dX6_makes_6 : decode cX6_makes 6 = .ok (.istore 5, 2) := by decide +kernel
theorem dX6_makes_8 : decode cX6_makes 8 = .ok (.iload 5, 2) := by decide +kernel
theorem dX6_makes_10 : decode cX6_makes 10 = .ok (.iload_n 2, 1) := by decide +kernel
theorem dX6_makes_11 : decode cX6_makes 11 = .ok (.if_icmp .le 35, 3) := by decide +kernel
theorem dX6_makes_14 : decode cX6_makes 14 = .ok (.aload_n 0, 1) := by decide +kernel
theorem dX6_makes_15 : decode cX6_makes 15 = .ok (.getfield 7, 3) := by decide +kernel
theorem dX6_makes_18 : decode cX6_makes 18 = .ok (.bipush 60, 2) := by decide +kernel
theorem dX6_makes_20 : decode cX6_makes 20 = .ok (.iload_n 1, 1) := by decide +kernel
theorem dX6_makes_21 : decode cX6_makes 21 = .ok (.imul, 1) := by decide +kernel
theorem dX6_makes_22 : decode cX6_makes 22 = .ok (.iload 5, 2) := by decide +kernel
theorem dX6_makes_24 : decode cX6_makes 24 = .ok (.iadd, 1) := by decide +kernel
theorem dX6_makes_25 : decode cX6_makes 25 = .ok (.aload_n 0, 1) := by decide +kernel
theorem dX6_makes_26 : decode cX6_makes 26 = .ok (.getfield 7, 3) := by decide +kernel
theorem dX6_makes_29 : decode cX6_makes 29 = .ok (.bipush 60, 2) := by decide +kernel
theorem dX6_makes_31 : decode cX6_makes 31 = .ok (.iload_n 1, 1) := by decide +kernel
theorem dX6_makes_32 : decode cX6_makes 32 = .ok (.imul, 1) := by decide +kernel
theorem dX6_makes_33 : decode cX6_makes 33 = .ok (.iload 5, 2) := by decide +kernel
theorem dX6_makes_35 : decode cX6_makes 35 = .ok (.iadd, 1) := by decide +kernel
theorem dX6_makes_36 : decode cX6_makes 36 = .ok (.iconst 1, 1) := by decide +kernel
theorem dX6_makes_37 : decode cX6_makes 37 = .ok (.isub, 1) := by decide +kernel
theorem dX6_makes_38 : decode cX6_makes 38 = .ok (.iaload, 1) := by decide +kernel
theorem dX6_makes_39 : decode cX6_makes 39 = .ok (.iastore, 1) := by decide +kernel
theorem dX6_makes_40 : decode cX6_makes 40 = .ok (.iinc 5 (-1), 3) := by decide +kernel
theorem dX6_makes_43 : decode cX6_makes 43 = .ok (.goto (-35), 3) := by decide +kernel
theorem dX6_makes_46 : decode cX6_makes 46 = .ok (.aload_n 0, 1) := by decide +kernel
theorem dX6_makes_47 : decode cX6_makes 47 = .ok (.getfield 7, 3) := by decide +kernel
theorem dX6_makes_50 : decode cX6_makes 50 = .ok (.bipush 60, 2) := by decide +kernel
theorem dX6_makes_52 : decode cX6_makes 52 = .ok (.iload_n 1, 1) := by decide +kernel
theorem dX6_makes_53 : decode cX6_makes 53 = .ok (.imul, 1) := by decide +kernel
theorem dX6_makes_54 : decode cX6_makes 54 = .ok (.iload_n 2, 1) := by decide +kernel
theorem dX6_makes_55 : decode cX6_makes 55 = .ok (.iadd, 1) := by decide +kernel
theorem dX6_makes_56 : decode cX6_makes 56 = .ok (.aload_n 0, 1) := by decide +kernel
theorem dX6_makes_57 : decode cX6_makes 57 = .ok (.getfield 91, 3) := by decide +kernel
theorem dX6_makes_60 : decode cX6_makes 60 = .ok (.iastore, 1) := by decide +kernel
theorem dX6_makes_61 : decode cX6_makes 61 = .ok (.aload_n 0, 1) := by decide +kernel
theorem dX6_makes_62 : decode cX6_makes 62 = .ok (.getfield 13, 3) := by decide +kernel
theorem dX6_makes_65 : decode cX6_makes 65 = .ok (.iload_n 1, 1) := by decide +kernel
theorem dX6_makes_66 : decode cX6_makes 66 = .ok (.dup2, 1) := by decide +kernel
theorem dX6_makes_67 : decode cX6_makes 67 = .ok (.iaload, 1) := by decide +kernel
theorem dX6_makes_68 : decode cX6_makes 68 = .ok (.iconst 1, 1) := by decide +kernel
theorem dX6_makes_69 : decode cX6_makes 69 = .ok (.iadd, 1) := by decide +kernel
theorem dX6_makes_70 : decode cX6_makes 70 = .ok (.iastore, 1) := by decide +kernel
theorem dX6_makes_71 : decode cX6_makes 71 = .ok (.aload_n 0, 1) := by decide +kernel
theorem dX6_makes_72 : decode cX6_makes 72 = .ok (.getfield 16, 3) := by decide +kernel
theorem dX6_makes_75 : decode cX6_makes 75 = .ok (.aload_n 0, 1) := by decide +kernel
theorem dX6_makes_76 : decode cX6_makes 76 = .ok (.getfield 91, 3) := by decide +kernel
theorem dX6_makes_79 : decode cX6_makes 79 = .ok (.iload_n 1, 1) := by decide +kernel
theorem dX6_makes_80 : decode cX6_makes 80 = .ok (.iastore, 1) := by decide +kernel
theorem dX6_makes_81 : decode cX6_makes 81 = .ok (.aload_n 0, 1) := by decide +kernel
theorem dX6_makes_82 : decode cX6_makes 82 = .ok (.getfield 19, 3) := by decide +kernel
theorem dX6_makes_85 : decode cX6_makes 85 = .ok (.aload_n 0, 1) := by decide +kernel
theorem dX6_makes_86 : decode cX6_makes 86 = .ok (.getfield 91, 3) := by decide +kernel
theorem dX6_makes_89 : decode cX6_makes 89 = .ok (.iload_n 3, 1) := by decide +kernel
theorem dX6_makes_90 : decode cX6_makes 90 = .ok (.iastore, 1) := by decide +kernel
theorem dX6_makes_91 : decode cX6_makes 91 = .ok (.aload_n 0, 1) := by decide +kernel
theorem dX6_makes_92 : decode cX6_makes 92 = .ok (.getfield 22, 3) := by decide +kernel
theorem dX6_makes_95 : decode cX6_makes 95 = .ok (.aload_n 0, 1) := by decide +kernel
theorem dX6_makes_96 : decode cX6_makes 96 = .ok (.getfield 91, 3) := by decide +kernel
theorem dX6_makes_99 : decode cX6_makes 99 = .ok (.iload 4, 2) := by decide +kernel
theorem dX6_makes_101 : decode cX6_makes 101 = .ok (.iastore, 1) := by decide +kernel
theorem dX6_makes_102 : decode cX6_makes 102 = .ok (.aload_n 0, 1) := by decide +kernel
theorem dX6_makes_103 : decode cX6_makes 103 = .ok (.getfield 25, 3) := by decide +kernel
theorem dX6_makes_106 : decode cX6_makes 106 = .ok (.aload_n 0, 1) := by decide +kernel
theorem dX6_makes_107 : decode cX6_makes 107 = .ok (.getfield 91, 3) := by decide +kernel
theorem dX6_makes_110 : decode cX6_makes 110 = .ok (.iconst (-1), 1) := by decide +kernel
theorem dX6_makes_111 : decode cX6_makes 111 = .ok (.iastore, 1) := by decide +kernel
theorem dX6_makes_112 : decode cX6_makes 112 = .ok (.aload_n 0, 1) := by decide +kernel
theorem dX6_makes_113 : decode cX6_makes 113 = .ok (.getfield 34, 3) := by decide +kernel
theorem dX6_makes_116 : decode cX6_makes 116 = .ok (.aload_n 0, 1) := by decide +kernel
theorem dX6_makes_117 : decode cX6_makes 117 = .ok (.getfield 91, 3) := by decide +kernel
theorem dX6_makes_120 : decode cX6_makes 120 = .ok (.iconst (-1), 1) := by decide +kernel
theorem dX6_makes_121 : decode cX6_makes 121 = .ok (.iastore, 1) := by decide +kernel
theorem dX6_makes_122 : decode cX6_makes 122 = .ok (.aload_n 0, 1) := by decide +kernel
theorem dX6_makes_123 : decode cX6_makes 123 = .ok (.getfield 37, 3) := by decide +kernel
theorem dX6_makes_126 : decode cX6_makes 126 = .ok (.aload_n 0, 1) := by decide +kernel
theorem dX6_makes_127 : decode cX6_makes 127 = .ok (.getfield 91, 3) := by decide +kernel
theorem dX6_makes_130 : decode cX6_makes 130 = .ok (.iconst (-1), 1) := by decide +kernel
theorem dX6_makes_131 : decode cX6_makes 131 = .ok (.iastore, 1) := by decide +kernel
theorem dX6_makes_132 : decode cX6_makes 132 = .ok (.aload_n 0, 1) := by decide +kernel
theorem dX6_makes_133 : decode cX6_makes 133 = .ok (.dup, 1) := by decide +kernel
theorem dX6_makes_134 : decode cX6_makes 134 = .ok (.getfield 91, 3) := by decide +kernel
theorem dX6_makes_137 : decode cX6_makes 137 = .ok (.iconst 1, 1) := by decide +kernel
theorem dX6_makes_138 : decode cX6_makes 138 = .ok (.iadd, 1) := by decide +kernel
theorem dX6_makes_139 : decode cX6_makes 139 = .ok (.putfield 91, 3) := by decide +kernel
theorem dX6_makes_142 : decode cX6_makes 142 = .ok (.aload_n 0, 1) := by decide +kernel
theorem dX6_makes_143 : decode cX6_makes 143 = .ok (.getfield 91, 3) := by decide +kernel
theorem dX6_makes_146 : decode cX6_makes 146 = .ok (.iconst 1, 1) := by decide +kernel
theorem dX6_makes_147 : decode cX6_makes 147 = .ok (.isub, 1) := by decide +kernel
theorem dX6_makes_148 : decode cX6_makes 148 = .ok (.ireturn, 1) := by decide +kernel
theorem dX6_areFine_0 : decode cX6_areFine 0 = .ok (.iload_n 0, 1) := by decide +kernel
theorem dX6_areFine_1 : decode cX6_areFine 1 = .ok (.iconst 1, 1) := by decide +kernel
theorem dX6_areFine_2 : decode cX6_areFine 2 = .ok (.sipush 999, 3) := by decide +kernel
theorem dX6_areFine_5 : decode cX6_areFine 5 = .ok (.invokestatic 87, 3) := by decide +kernel
theorem dX6_areFine_8 : decode cX6_areFine 8 = .ok (.ifCond .eq 17, 3) := by decide +kernel
theorem dX6_areFine_11 : decode cX6_areFine 11 = .ok (.iload_n 1, 1) := by decide +kernel
theorem dX6_areFine_12 : decode cX6_areFine 12 = .ok (.iconst 0, 1) := by decide +kernel
theorem dX6_areFine_13 : decode cX6_areFine 13 = .ok (.bipush 9, 2) := by decide +kernel
theorem dX6_areFine_15 : decode cX6_areFine 15 = .ok (.invokestatic 87, 3) := by decide +kernel
theorem dX6_areFine_18 : decode cX6_areFine 18 = .ok (.ifCond .eq 7, 3) := by decide +kernel
theorem dX6_areFine_21 : decode cX6_areFine 21 = .ok (.iconst 1, 1) := by decide +kernel
theorem dX6_areFine_22 : decode cX6_areFine 22 = .ok (.goto 4, 3) := by decide +kernel
theorem dX6_areFine_25 : decode cX6_areFine 25 = .ok (.iconst 0, 1) := by decide +kernel
theorem dX6_areFine_26 : decode cX6_areFine 26 = .ok (.ireturn, 1) := by decide +kernel
theorem dX6_addShot_0 : decode cX6_addShot 0 = .ok (.aload_n 0, 1) := by decide +kernel
theorem dX6_addShot_1 : decode cX6_addShot 1 = .ok (.iload_n 1, 1) := by decide +kernel
theorem dX6_addShot_2 : decode cX6_addShot 2 = .ok (.invokevirtual 107, 3) := by decide +kernel
theorem dX6_addShot_5 : decode cX6_addShot 5 = .ok (.istore 4, 2) := by decide +kernel
theorem dX6_addShot_7 : decode cX6_addShot 7 = .ok (.aload_n 0, 1) := by decide +kernel
theorem dX6_addShot_8 : decode cX6_addShot 8 = .ok (.iload 4, 2) := by decide +kernel
theorem dX6_addShot_10 : decode cX6_addShot 10 = .ok (.ifCond .ne 7, 3) := by decide +kernel
theorem dX6_addShot_13 : decode cX6_addShot 13 = .ok (.iconst 1, 1) := by decide +kernel
theorem dX6_addShot_14 : decode cX6_addShot 14 = .ok (.goto 29, 3) := by decide +kernel
theorem dX6_addShot_17 : decode cX6_addShot 17 = .ok (.iload_n 2, 1) := by decide +kernel
theorem dX6_addShot_18 : decode cX6_addShot 18 = .ok (.iload_n 3, 1) := by decide +kernel
theorem dX6_addShot_19 : decode cX6_addShot 19 = .ok (.invokestatic 110, 3) := by decide +kernel
theorem dX6_addShot_22 : decode cX6_addShot 22 = .ok (.ifCond .ne 7, 3) := by decide +kernel
theorem dX6_addShot_25 : decode cX6_addShot 25 = .ok (.iconst 2, 1) := by decide +kernel
theorem dX6_addShot_26 : decode cX6_addShot 26 = .ok (.goto 17, 3) := by decide +kernel
theorem dX6_addShot_29 : decode cX6_addShot 29 = .ok (.aload_n 0, 1) := by decide +kernel
theorem dX6_addShot_30 : decode cX6_addShot 30 = .ok (.getfield 91, 3) := by decide +kernel
theorem dX6_addShot_33 : decode cX6_addShot 33 = .ok (.bipush 60, 2) := by decide +kernel
theorem dX6_addShot_35 : decode cX6_addShot 35 = .ok (.if_icmp .ne 7, 3) := by decide +kernel
theorem dX6_addShot_38 : decode cX6_addShot 38 = .ok (.iconst 3, 1) := by decide +kernel
theorem dX6_addShot_39 : decode cX6_addShot 39 = .ok (.goto 4, 3) := by decide +kernel
theorem dX6_addShot_42 : decode cX6_addShot 42 = .ok (.iconst 0, 1) := by decide +kernel
theorem dX6_addShot_43 : decode cX6_addShot 43 = .ok (.invokevirtual 103, 3) := by decide +kernel
theorem dX6_addShot_46 : decode cX6_addShot 46 = .ok (.ifCond .ne 5, 3) := by decide +kernel
theorem dX6_addShot_49 : decode cX6_addShot 49 = .ok (.iconst 0, 1) := by decide +kernel
theorem dX6_addShot_50 : decode cX6_addShot 50 = .ok (.ireturn, 1) := by decide +kernel
theorem dX6_addShot_51 : decode cX6_addShot 51 = .ok (.aload_n 0, 1) := by decide +kernel
theorem dX6_addShot_52 : decode cX6_addShot 52 = .ok (.iload_n 1, 1) := by decide +kernel
theorem dX6_addShot_53 : decode cX6_addShot 53 = .ok (.aload_n 0, 1) := by decide +kernel
theorem dX6_addShot_54 : decode cX6_addShot 54 = .ok (.getfield 13, 3) := by decide +kernel
theorem dX6_addShot_57 : decode cX6_addShot 57 = .ok (.iload_n 1, 1) := by decide +kernel
theorem dX6_addShot_58 : decode cX6_addShot 58 = .ok (.iaload, 1) := by decide +kernel
theorem dX6_addShot_59 : decode cX6_addShot 59 = .ok (.iload_n 2, 1) := by decide +kernel
theorem dX6_addShot_60 : decode cX6_addShot 60 = .ok (.iload_n 3, 1) := by decide +kernel
theorem dX6_addShot_61 : decode cX6_addShot 61 = .ok (.invokevirtual 114, 3) := by decide +kernel
theorem dX6_addShot_64 : decode cX6_addShot 64 = .ok (.ireturn, 1) := by decide +kernel
theorem dX6_addReel_0 : decode cX6_addReel 0 = .ok (.aload_n 0, 1) := by decide +kernel
theorem dX6_addReel_1 : decode cX6_addReel 1 = .ok (.aload_n 0, 1) := by decide +kernel
theorem dX6_addReel_2 : decode cX6_addReel 2 = .ok (.iload_n 1, 1) := by decide +kernel
theorem dX6_addReel_3 : decode cX6_addReel 3 = .ok (.invokevirtual 107, 3) := by decide +kernel
theorem dX6_addReel_6 : decode cX6_addReel 6 = .ok (.ifCond .ne 7, 3) := by decide +kernel
theorem dX6_addReel_9 : decode cX6_addReel 9 = .ok (.iconst 1, 1) := by decide +kernel
theorem dX6_addReel_10 : decode cX6_addReel 10 = .ok (.goto 17, 3) := by decide +kernel
theorem dX6_addReel_13 : decode cX6_addReel 13 = .ok (.aload_n 0, 1) := by decide +kernel
theorem dX6_addReel_14 : decode cX6_addReel 14 = .ok (.getfield 94, 3) := by decide +kernel
theorem dX6_addReel_17 : decode cX6_addReel 17 = .ok (.bipush 24, 2) := by decide +kernel
theorem dX6_addReel_19 : decode cX6_addReel 19 = .ok (.if_icmp .ne 7, 3) := by decide +kernel
theorem dX6_addReel_22 : decode cX6_addReel 22 = .ok (.iconst 2, 1) := by decide +kernel
theorem dX6_addReel_23 : decode cX6_addReel 23 = .ok (.goto 4, 3) := by decide +kernel
theorem dX6_addReel_26 : decode cX6_addReel 26 = .ok (.iconst 0, 1) := by decide +kernel
theorem dX6_addReel_27 : decode cX6_addReel 27 = .ok (.invokevirtual 103, 3) := by decide +kernel
theorem dX6_addReel_30 : decode cX6_addReel 30 = .ok (.ifCond .ne 5, 3) := by decide +kernel
theorem dX6_addReel_33 : decode cX6_addReel 33 = .ok (.iconst 0, 1) := by decide +kernel
theorem dX6_addReel_34 : decode cX6_addReel 34 = .ok (.ireturn, 1) := by decide +kernel
theorem dX6_addReel_35 : decode cX6_addReel 35 = .ok (.aload_n 0, 1) := by decide +kernel
theorem dX6_addReel_36 : decode cX6_addReel 36 = .ok (.getfield 40, 3) := by decide +kernel
theorem dX6_addReel_39 : decode cX6_addReel 39 = .ok (.aload_n 0, 1) := by decide +kernel
theorem dX6_addReel_40 : decode cX6_addReel 40 = .ok (.getfield 94, 3) := by decide +kernel
theorem dX6_addReel_43 : decode cX6_addReel 43 = .ok (.iload_n 1, 1) := by decide +kernel
theorem dX6_addReel_44 : decode cX6_addReel 44 = .ok (.iastore, 1) := by decide +kernel
theorem dX6_addReel_45 : decode cX6_addReel 45 = .ok (.aload_n 0, 1) := by decide +kernel
theorem dX6_addReel_46 : decode cX6_addReel 46 = .ok (.dup, 1) := by decide +kernel
theorem dX6_addReel_47 : decode cX6_addReel 47 = .ok (.getfield 94, 3) := by decide +kernel
theorem dX6_addReel_50 : decode cX6_addReel 50 = .ok (.iconst 1, 1) := by decide +kernel
theorem dX6_addReel_51 : decode cX6_addReel 51 = .ok (.iadd, 1) := by decide +kernel
theorem dX6_addReel_52 : decode cX6_addReel 52 = .ok (.putfield 94, 3) := by decide +kernel
theorem dX6_addReel_55 : decode cX6_addReel 55 = .ok (.aload_n 0, 1) := by decide +kernel
theorem dX6_addReel_56 : decode cX6_addReel 56 = .ok (.getfield 94, 3) := by decide +kernel
theorem dX6_addReel_59 : decode cX6_addReel 59 = .ok (.iconst 1, 1) := by decide +kernel
theorem dX6_addReel_60 : decode cX6_addReel 60 = .ok (.isub, 1) := by decide +kernel
theorem dX6_addReel_61 : decode cX6_addReel 61 = .ok (.ireturn, 1) := by decide +kernel
theorem dX6_placeOf_0 : decode cX6_placeOf 0 = .ok (.iconst 0, 1) := by decide +kernel
theorem dX6_placeOf_1 : decode cX6_placeOf 1 = .ok (.istore_n 2, 1) := by decide +kernel
theorem dX6_placeOf_2 : decode cX6_placeOf 2 = .ok (.aload_n 0, 1) := by decide +kernel
theorem dX6_placeOf_3 : decode cX6_placeOf 3 = .ok (.getfield 7, 3) := by decide +kernel
theorem dX6_placeOf_6 : decode cX6_placeOf 6 = .ok (.bipush 60, 2) := by decide +kernel
theorem dX6_placeOf_8 : decode cX6_placeOf 8 = .ok (.aload_n 0, 1) := by decide +kernel
theorem dX6_placeOf_9 : decode cX6_placeOf 9 = .ok (.getfield 16, 3) := by decide +kernel
theorem dX6_placeOf_12 : decode cX6_placeOf 12 = .ok (.iload_n 1, 1) := by decide +kernel
theorem dX6_placeOf_13 : decode cX6_placeOf 13 = .ok (.iaload, 1) := by decide +kernel
theorem dX6_placeOf_14 : decode cX6_placeOf 14 = .ok (.imul, 1) := by decide +kernel
theorem dX6_placeOf_15 : decode cX6_placeOf 15 = .ok (.iload_n 2, 1) := by decide +kernel
theorem dX6_placeOf_16 : decode cX6_placeOf 16 = .ok (.iadd, 1) := by decide +kernel
theorem dX6_placeOf_17 : decode cX6_placeOf 17 = .ok (.iaload, 1) := by decide +kernel
theorem dX6_placeOf_18 : decode cX6_placeOf 18 = .ok (.iload_n 1, 1) := by decide +kernel
theorem dX6_placeOf_19 : decode cX6_placeOf 19 = .ok (.if_icmp .eq 9, 3) := by decide +kernel
theorem dX6_placeOf_22 : decode cX6_placeOf 22 = .ok (.iinc 2 1, 3) := by decide +kernel
theorem dX6_placeOf_25 : decode cX6_placeOf 25 = .ok (.goto (-23), 3) := by decide +kernel
theorem dX6_placeOf_28 : decode cX6_placeOf 28 = .ok (.iload_n 2, 1) := by decide +kernel
theorem dX6_placeOf_29 : decode cX6_placeOf 29 = .ok (.ireturn, 1) := by decide +kernel
theorem dX6_lastOf_0 : decode cX6_lastOf 0 = .ok (.aload_n 0, 1) := by decide +kernel
theorem dX6_lastOf_1 : decode cX6_lastOf 1 = .ok (.getfield 43, 3) := by decide +kernel
theorem dX6_lastOf_4 : decode cX6_lastOf 4 = .ok (.bipush 60, 2) := by decide +kernel
theorem dX6_lastOf_6 : decode cX6_lastOf 6 = .ok (.iload_n 1, 1) := by decide +kernel
theorem dX6_lastOf_7 : decode cX6_lastOf 7 = .ok (.imul, 1) := by decide +kernel
theorem dX6_lastOf_8 : decode cX6_lastOf 8 = .ok (.aload_n 0, 1) := by decide +kernel
theorem dX6_lastOf_9 : decode cX6_lastOf 9 = .ok (.getfield 49, 3) := by decide +kernel
theorem dX6_lastOf_12 : decode cX6_lastOf 12 = .ok (.iload_n 1, 1) := by decide +kernel
theorem dX6_lastOf_13 : decode cX6_lastOf 13 = .ok (.iaload, 1) := by decide +kernel
theorem dX6_lastOf_14 : decode cX6_lastOf 14 = .ok (.iadd, 1) := by decide +kernel
theorem dX6_lastOf_15 : decode cX6_lastOf 15 = .ok (.iconst 1, 1) := by decide +kernel
theorem dX6_lastOf_16 : decode cX6_lastOf 16 = .ok (.isub, 1) := by decide +kernel
theorem dX6_lastOf_17 : decode cX6_lastOf 17 = .ok (.iaload, 1) := by decide +kernel
theorem dX6_lastOf_18 : decode cX6_lastOf 18 = .ok (.ireturn, 1) := by decide +kernel
theorem dX6_adds_0 : decode cX6_adds 0 = .ok (.aload_n 0, 1) := by decide +kernel
theorem dX6_adds_1 : decode cX6_adds 1 = .ok (.getfield 49, 3) := by decide +kernel
theorem dX6_adds_4 : decode cX6_adds 4 = .ok (.iload_n 1, 1) := by decide +kernel
theorem dX6_adds_5 : decode cX6_adds 5 = .ok (.iaload, 1) := by decide +kernel
theorem dX6_adds_6 : decode cX6_adds 6 = .ok (.ifCond .le 22, 3) := by decide +kernel
theorem dX6_adds_9 : decode cX6_adds 9 = .ok (.aload_n 0, 1) := by decide +kernel
theorem dX6_adds_10 : decode cX6_adds 10 = .ok (.getfield 46, 3) := by decide +kernel
theorem dX6_adds_13 : decode cX6_adds 13 = .ok (.bipush 60, 2) := by decide +kernel
theorem dX6_adds_15 : decode cX6_adds 15 = .ok (.iload_n 1, 1) := by decide +kernel
theorem dX6_adds_16 : decode cX6_adds 16 = .ok (.imul, 1) := by decide +kernel
theorem dX6_adds_17 : decode cX6_adds 17 = .ok (.aload_n 0, 1) := by decide +kernel
theorem dX6_adds_18 : decode cX6_adds 18 = .ok (.getfield 49, 3) := by decide +kernel
theorem dX6_adds_21 : decode cX6_adds 21 = .ok (.iload_n 1, 1) := by decide +kernel
theorem dX6_adds_22 : decode cX6_adds 22 = .ok (.iaload, 1) := by decide +kernel
theorem dX6_adds_23 : decode cX6_adds 23 = .ok (.iadd, 1) := by decide +kernel
theorem dX6_adds_24 : decode cX6_adds 24 = .ok (.iconst 1, 1) := by decide +kernel
theorem dX6_adds_25 : decode cX6_adds 25 = .ok (.isub, 1) := by decide +kernel
theorem dX6_adds_26 : decode cX6_adds 26 = .ok (.iload_n 3, 1) := by decide +kernel
theorem dX6_adds_27 : decode cX6_adds 27 = .ok (.iastore, 1) := by decide +kernel
theorem dX6_adds_28 : decode cX6_adds 28 = .ok (.aload_n 0, 1) := by decide +kernel
theorem dX6_adds_29 : decode cX6_adds 29 = .ok (.getfield 43, 3) := by decide +kernel
theorem dX6_adds_32 : decode cX6_adds 32 = .ok (.bipush 60, 2) := by decide +kernel
theorem dX6_adds_34 : decode cX6_adds 34 = .ok (.iload_n 1, 1) := by decide +kernel
theorem dX6_adds_35 : decode cX6_adds 35 = .ok (.imul, 1) := by decide +kernel
theorem dX6_adds_36 : decode cX6_adds 36 = .ok (.aload_n 0, 1) := by decide +kernel
theorem dX6_adds_37 : decode cX6_adds 37 = .ok (.getfield 49, 3) := by decide +kernel
theorem dX6_adds_40 : decode cX6_adds 40 = .ok (.iload_n 1, 1) := by decide +kernel
theorem dX6_adds_41 : decode cX6_adds 41 = .ok (.iaload, 1) := by decide +kernel
theorem dX6_adds_42 : decode cX6_adds 42 = .ok (.iadd, 1) := by decide +kernel
theorem dX6_adds_43 : decode cX6_adds 43 = .ok (.iload_n 2, 1) := by decide +kernel
theorem dX6_adds_44 : decode cX6_adds 44 = .ok (.iastore, 1) := by decide +kernel
theorem dX6_adds_45 : decode cX6_adds 45 = .ok (.aload_n 0, 1) := by decide +kernel
theorem dX6_adds_46 : decode cX6_adds 46 = .ok (.getfield 49, 3) := by decide +kernel
theorem dX6_adds_49 : decode cX6_adds 49 = .ok (.iload_n 1, 1) := by decide +kernel
theorem dX6_adds_50 : decode cX6_adds 50 = .ok (.dup2, 1) := by decide +kernel
theorem dX6_adds_51 : decode cX6_adds 51 = .ok (.iaload, 1) := by decide +kernel
theorem dX6_adds_52 : decode cX6_adds 52 = .ok (.iconst 1, 1) := by decide +kernel
theorem dX6_adds_53 : decode cX6_adds 53 = .ok (.iadd, 1) := by decide +kernel
theorem dX6_adds_54 : decode cX6_adds 54 = .ok (.iastore, 1) := by decide +kernel
theorem dX6_adds_55 : decode cX6_adds 55 = .ok (.aload_n 0, 1) := by decide +kernel
theorem dX6_adds_56 : decode cX6_adds 56 = .ok (.getfield 25, 3) := by decide +kernel
theorem dX6_adds_59 : decode cX6_adds 59 = .ok (.iload_n 2, 1) := by decide +kernel
theorem dX6_adds_60 : decode cX6_adds 60 = .ok (.iload_n 1, 1) := by decide +kernel
theorem dX6_adds_61 : decode cX6_adds 61 = .ok (.iastore, 1) := by decide +kernel
theorem dX6_adds_62 : decode cX6_adds 62 = .ok (.return_, 1) := by decide +kernel
theorem dX6_put_0 : decode cX6_put 0 = .ok (.aload_n 0, 1) := by decide +kernel
theorem dX6_put_1 : decode cX6_put 1 = .ok (.iload_n 1, 1) := by decide +kernel
theorem dX6_put_2 : decode cX6_put 2 = .ok (.invokevirtual 118, 3) := by decide +kernel
theorem dX6_put_5 : decode cX6_put 5 = .ok (.ifCond .eq 15, 3) := by decide +kernel
theorem dX6_put_8 : decode cX6_put 8 = .ok (.aload_n 0, 1) := by decide +kernel
theorem dX6_put_9 : decode cX6_put 9 = .ok (.iload_n 2, 1) := by decide +kernel
theorem dX6_put_10 : decode cX6_put 10 = .ok (.invokevirtual 121, 3) := by decide +kernel
theorem dX6_put_13 : decode cX6_put 13 = .ok (.ifCond .eq 7, 3) := by decide +kernel
theorem dX6_put_16 : decode cX6_put 16 = .ok (.iconst 1, 1) := by decide +kernel
theorem dX6_put_17 : decode cX6_put 17 = .ok (.goto 4, 3) := by decide +kernel
theorem dX6_put_20 : decode cX6_put 20 = .ok (.iconst 0, 1) := by decide +kernel
theorem dX6_put_21 : decode cX6_put 21 = .ok (.istore_n 3, 1) := by decide +kernel
theorem dX6_put_22 : decode cX6_put 22 = .ok (.iload_n 3, 1) := by decide +kernel
theorem dX6_put_23 : decode cX6_put 23 = .ok (.ifCond .eq 22, 3) := by decide +kernel
theorem dX6_put_26 : decode cX6_put 26 = .ok (.aload_n 0, 1) := by decide +kernel
theorem dX6_put_27 : decode cX6_put 27 = .ok (.getfield 16, 3) := by decide +kernel
theorem dX6_put_30 : decode cX6_put 30 = .ok (.iload_n 2, 1) := by decide +kernel
theorem dX6_put_31 : decode cX6_put 31 = .ok (.iaload, 1) := by decide +kernel
theorem dX6_put_32 : decode cX6_put 32 = .ok (.aload_n 0, 1) := by decide +kernel
theorem dX6_put_33 : decode cX6_put 33 = .ok (.getfield 40, 3) := by decide +kernel
theorem dX6_put_36 : decode cX6_put 36 = .ok (.iload_n 1, 1) := by decide +kernel
theorem dX6_put_37 : decode cX6_put 37 = .ok (.iaload, 1) := by decide +kernel
theorem dX6_put_38 : decode cX6_put 38 = .ok (.if_icmp .ne 7, 3) := by decide +kernel
theorem dX6_put_41 : decode cX6_put 41 = .ok (.iconst 1, 1) := by decide +kernel
theorem dX6_put_42 : decode cX6_put 42 = .ok (.goto 4, 3) := by decide +kernel
theorem dX6_put_45 : decode cX6_put 45 = .ok (.iconst 0, 1) := by decide +kernel
theorem dX6_put_46 : decode cX6_put 46 = .ok (.istore 4, 2) := by decide +kernel
theorem dX6_put_48 : decode cX6_put 48 = .ok (.iload 4, 2) := by decide +kernel
theorem dX6_put_50 : decode cX6_put 50 = .ok (.ifCond .eq 56, 3) := by decide +kernel
theorem dX6_put_53 : decode cX6_put 53 = .ok (.aload_n 0, 1) := by decide +kernel
theorem dX6_put_54 : decode cX6_put 54 = .ok (.getfield 25, 3) := by decide +kernel
theorem dX6_put_57 : decode cX6_put 57 = .ok (.iload_n 2, 1) := by decide +kernel
theorem dX6_put_58 : decode cX6_put 58 = .ok (.iaload, 1) := by decide +kernel
theorem dX6_put_59 : decode cX6_put 59 = .ok (.iconst (-1), 1) := by decide +kernel
theorem dX6_put_60 : decode cX6_put 60 = .ok (.if_icmp .ne 42, 3) := by decide +kernel
theorem dX6_put_63 : decode cX6_put 63 = .ok (.aload_n 0, 1) := by decide +kernel
theorem dX6_put_64 : decode cX6_put 64 = .ok (.getfield 49, 3) := by decide +kernel
theorem dX6_put_67 : decode cX6_put 67 = .ok (.iload_n 1, 1) := by decide +kernel
theorem dX6_put_68 : decode cX6_put 68 = .ok (.iaload, 1) := by decide +kernel
theorem dX6_put_69 : decode cX6_put 69 = .ok (.ifCond .le 20, 3) := by decide +kernel
theorem dX6_put_72 : decode cX6_put 72 = .ok (.aload_n 0, 1) := by decide +kernel
theorem dX6_put_73 : decode cX6_put 73 = .ok (.iload_n 2, 1) := by decide +kernel
theorem dX6_put_74 : decode cX6_put 74 = .ok (.invokevirtual 124, 3) := by decide +kernel
theorem dX6_put_77 : decode cX6_put 77 = .ok (.aload_n 0, 1) := by decide +kernel
theorem dX6_put_78 : decode cX6_put 78 = .ok (.aload_n 0, 1) := by decide +kernel
theorem dX6_put_79 : decode cX6_put 79 = .ok (.iload_n 1, 1) := by decide +kernel
theorem dX6_put_80 : decode cX6_put 80 = .ok (.invokevirtual 128, 3) := by decide +kernel
theorem dX6_put_83 : decode cX6_put 83 = .ok (.invokevirtual 124, 3) := by decide +kernel
theorem dX6_put_86 : decode cX6_put 86 = .ok (.if_icmp .lt 16, 3) := by decide +kernel
theorem dX6_put_89 : decode cX6_put 89 = .ok (.aload_n 0, 1) := by decide +kernel
theorem dX6_put_90 : decode cX6_put 90 = .ok (.aload_n 0, 1) := by decide +kernel
theorem dX6_put_91 : decode cX6_put 91 = .ok (.getfield 16, 3) := by decide +kernel
theorem dX6_put_94 : decode cX6_put 94 = .ok (.iload_n 2, 1) := by decide +kernel
theorem dX6_put_95 : decode cX6_put 95 = .ok (.iaload, 1) := by decide +kernel
theorem dX6_put_96 : decode cX6_put 96 = .ok (.invokevirtual 131, 3) := by decide +kernel
theorem dX6_put_99 : decode cX6_put 99 = .ok (.ifCond .eq 7, 3) := by decide +kernel
theorem dX6_put_102 : decode cX6_put 102 = .ok (.iconst 1, 1) := by decide +kernel
theorem dX6_put_103 : decode cX6_put 103 = .ok (.goto 4, 3) := by decide +kernel
theorem dX6_put_106 : decode cX6_put 106 = .ok (.iconst 0, 1) := by decide +kernel
theorem dX6_put_107 : decode cX6_put 107 = .ok (.istore 5, 2) := by decide +kernel
theorem dX6_put_109 : decode cX6_put 109 = .ok (.aload_n 0, 1) := by decide +kernel
theorem dX6_put_110 : decode cX6_put 110 = .ok (.iload_n 3, 1) := by decide +kernel
theorem dX6_put_111 : decode cX6_put 111 = .ok (.ifCond .ne 7, 3) := by decide +kernel
theorem dX6_put_114 : decode cX6_put 114 = .ok (.iconst 1, 1) := by decide +kernel
theorem dX6_put_115 : decode cX6_put 115 = .ok (.goto 22, 3) := by decide +kernel
theorem dX6_put_118 : decode cX6_put 118 = .ok (.iload 4, 2) := by decide +kernel
theorem dX6_put_120 : decode cX6_put 120 = .ok (.ifCond .ne 7, 3) := by decide +kernel
theorem dX6_put_123 : decode cX6_put 123 = .ok (.iconst 2, 1) := by decide +kernel
theorem dX6_put_124 : decode cX6_put 124 = .ok (.goto 13, 3) := by decide +kernel
theorem dX6_put_127 : decode cX6_put 127 = .ok (.iload 5, 2) := by decide +kernel
theorem dX6_put_129 : decode cX6_put 129 = .ok (.ifCond .eq 7, 3) := by decide +kernel
theorem dX6_put_132 : decode cX6_put 132 = .ok (.iconst 3, 1) := by decide +kernel
theorem dX6_put_133 : decode cX6_put 133 = .ok (.goto 4, 3) := by decide +kernel
theorem dX6_put_136 : decode cX6_put 136 = .ok (.iconst 0, 1) := by decide +kernel
theorem dX6_put_137 : decode cX6_put 137 = .ok (.invokevirtual 103, 3) := by decide +kernel
theorem dX6_put_140 : decode cX6_put 140 = .ok (.ifCond .ne 5, 3) := by decide +kernel
theorem dX6_put_143 : decode cX6_put 143 = .ok (.iconst 0, 1) := by decide +kernel
theorem dX6_put_144 : decode cX6_put 144 = .ok (.ireturn, 1) := by decide +kernel
theorem dX6_put_145 : decode cX6_put 145 = .ok (.aload_n 0, 1) := by decide +kernel
theorem dX6_put_146 : decode cX6_put 146 = .ok (.iload_n 1, 1) := by decide +kernel
theorem dX6_put_147 : decode cX6_put 147 = .ok (.iload_n 2, 1) := by decide +kernel
theorem dX6_put_148 : decode cX6_put 148 = .ok (.iconst 0, 1) := by decide +kernel
theorem dX6_put_149 : decode cX6_put 149 = .ok (.invokevirtual 134, 3) := by decide +kernel
theorem dX6_put_152 : decode cX6_put 152 = .ok (.aload_n 0, 1) := by decide +kernel
theorem dX6_put_153 : decode cX6_put 153 = .ok (.getfield 49, 3) := by decide +kernel
theorem dX6_put_156 : decode cX6_put 156 = .ok (.iload_n 1, 1) := by decide +kernel
theorem dX6_put_157 : decode cX6_put 157 = .ok (.iaload, 1) := by decide +kernel
theorem dX6_put_158 : decode cX6_put 158 = .ok (.ireturn, 1) := by decide +kernel
theorem dX6_found_0 : decode cX6_found 0 = .ok (.aload_n 0, 1) := by decide +kernel
theorem dX6_found_1 : decode cX6_found 1 = .ok (.iload_n 1, 1) := by decide +kernel
theorem dX6_found_2 : decode cX6_found 2 = .ok (.invokevirtual 107, 3) := by decide +kernel
theorem dX6_found_5 : decode cX6_found 5 = .ok (.ifCond .eq 21, 3) := by decide +kernel
theorem dX6_found_8 : decode cX6_found 8 = .ok (.iload_n 2, 1) := by decide +kernel
theorem dX6_found_9 : decode cX6_found 9 = .ok (.iconst 0, 1) := by decide +kernel
theorem dX6_found_10 : decode cX6_found 10 = .ok (.aload_n 0, 1) := by decide +kernel
theorem dX6_found_11 : decode cX6_found 11 = .ok (.getfield 13, 3) := by decide +kernel
theorem dX6_found_14 : decode cX6_found 14 = .ok (.iload_n 1, 1) := by decide +kernel
theorem dX6_found_15 : decode cX6_found 15 = .ok (.iaload, 1) := by decide +kernel
theorem dX6_found_16 : decode cX6_found 16 = .ok (.invokestatic 87, 3) := by decide +kernel
theorem dX6_found_19 : decode cX6_found 19 = .ok (.ifCond .eq 7, 3) := by decide +kernel
theorem dX6_found_22 : decode cX6_found 22 = .ok (.iconst 1, 1) := by decide +kernel
theorem dX6_found_23 : decode cX6_found 23 = .ok (.goto 4, 3) := by decide +kernel
theorem dX6_found_26 : decode cX6_found 26 = .ok (.iconst 0, 1) := by decide +kernel
theorem dX6_found_27 : decode cX6_found 27 = .ok (.istore 5, 2) := by decide +kernel
theorem dX6_found_29 : decode cX6_found 29 = .ok (.iload_n 3, 1) := by decide +kernel
theorem dX6_found_30 : decode cX6_found 30 = .ok (.iload 4, 2) := by decide +kernel
theorem dX6_found_32 : decode cX6_found 32 = .ok (.invokestatic 110, 3) := by decide +kernel
theorem dX6_found_35 : decode cX6_found 35 = .ok (.istore 6, 2) := by decide +kernel
theorem dX6_found_37 : decode cX6_found 37 = .ok (.aload_n 0, 1) := by decide +kernel
theorem dX6_found_38 : decode cX6_found 38 = .ok (.iload 5, 2) := by decide +kernel
theorem dX6_found_40 : decode cX6_found 40 = .ok (.ifCond .ne 7, 3) := by decide +kernel
theorem dX6_found_43 : decode cX6_found 43 = .ok (.iconst 1, 1) := by decide +kernel
theorem dX6_found_44 : decode cX6_found 44 = .ok (.goto 47, 3) := by decide +kernel
theorem dX6_found_47 : decode cX6_found 47 = .ok (.iload 6, 2) := by decide +kernel
theorem dX6_found_49 : decode cX6_found 49 = .ok (.ifCond .ne 7, 3) := by decide +kernel
theorem dX6_found_52 : decode cX6_found 52 = .ok (.iconst 2, 1) := by decide +kernel
theorem dX6_found_53 : decode cX6_found 53 = .ok (.goto 38, 3) := by decide +kernel
theorem dX6_found_56 : decode cX6_found 56 = .ok (.aload_n 0, 1) := by decide +kernel
theorem dX6_found_57 : decode cX6_found 57 = .ok (.iload_n 1, 1) := by decide +kernel
theorem dX6_found_58 : decode cX6_found 58 = .ok (.invokevirtual 131, 3) := by decide +kernel
theorem dX6_found_61 : decode cX6_found 61 = .ok (.ifCond .eq 7, 3) := by decide +kernel
theorem dX6_found_64 : decode cX6_found 64 = .ok (.iconst 3, 1) := by decide +kernel
theorem dX6_found_65 : decode cX6_found 65 = .ok (.goto 26, 3) := by decide +kernel
theorem dX6_found_68 : decode cX6_found 68 = .ok (.aload_n 0, 1) := by decide +kernel
theorem dX6_found_69 : decode cX6_found 69 = .ok (.getfield 91, 3) := by decide +kernel
theorem dX6_found_72 : decode cX6_found 72 = .ok (.bipush 60, 2) := by decide +kernel
theorem dX6_found_74 : decode cX6_found 74 = .ok (.if_icmp .eq 12, 3) := by decide +kernel
theorem dX6_found_77 : decode cX6_found 77 = .ok (.aload_n 0, 1) := by decide +kernel
theorem dX6_found_78 : decode cX6_found 78 = .ok (.getfield 94, 3) := by decide +kernel
theorem dX6_found_81 : decode cX6_found 81 = .ok (.bipush 24, 2) := by decide +kernel
theorem dX6_found_83 : decode cX6_found 83 = .ok (.if_icmp .ne 7, 3) := by decide +kernel
theorem dX6_found_86 : decode cX6_found 86 = .ok (.iconst 4, 1) := by decide +kernel
theorem dX6_found_87 : decode cX6_found 87 = .ok (.goto 4, 3) := by decide +kernel
theorem dX6_found_90 : decode cX6_found 90 = .ok (.iconst 0, 1) := by decide +kernel
theorem dX6_found_91 : decode cX6_found 91 = .ok (.invokevirtual 103, 3) := by decide +kernel
theorem dX6_found_94 : decode cX6_found 94 = .ok (.ifCond .ne 5, 3) := by decide +kernel
theorem dX6_found_97 : decode cX6_found 97 = .ok (.iconst 0, 1) := by decide +kernel
theorem dX6_found_98 : decode cX6_found 98 = .ok (.ireturn, 1) := by decide +kernel
theorem dX6_found_99 : decode cX6_found 99 = .ok (.aload_n 0, 1) := by decide +kernel
theorem dX6_found_100 : decode cX6_found 100 = .ok (.iload_n 1, 1) := by decide +kernel
theorem dX6_found_101 : decode cX6_found 101 = .ok (.iload_n 2, 1) := by decide +kernel
theorem dX6_found_102 : decode cX6_found 102 = .ok (.iload_n 3, 1) := by decide +kernel
theorem dX6_found_103 : decode cX6_found 103 = .ok (.iload 4, 2) := by decide +kernel
theorem dX6_found_105 : decode cX6_found 105 = .ok (.invokevirtual 114, 3) := by decide +kernel
theorem dX6_found_108 : decode cX6_found 108 = .ok (.istore 7, 2) := by decide +kernel
theorem dX6_found_110 : decode cX6_found 110 = .ok (.aload_n 0, 1) := by decide +kernel
theorem dX6_found_111 : decode cX6_found 111 = .ok (.getfield 40, 3) := by decide +kernel
theorem dX6_found_114 : decode cX6_found 114 = .ok (.aload_n 0, 1) := by decide +kernel
theorem dX6_found_115 : decode cX6_found 115 = .ok (.getfield 94, 3) := by decide +kernel
theorem dX6_found_118 : decode cX6_found 118 = .ok (.iload_n 1, 1) := by decide +kernel
theorem dX6_found_119 : decode cX6_found 119 = .ok (.iastore, 1) := by decide +kernel
theorem dX6_found_120 : decode cX6_found 120 = .ok (.aload_n 0, 1) := by decide +kernel
theorem dX6_found_121 : decode cX6_found 121 = .ok (.dup, 1) := by decide +kernel
theorem dX6_found_122 : decode cX6_found 122 = .ok (.getfield 94, 3) := by decide +kernel
theorem dX6_found_125 : decode cX6_found 125 = .ok (.iconst 1, 1) := by decide +kernel
theorem dX6_found_126 : decode cX6_found 126 = .ok (.iadd, 1) := by decide +kernel
theorem dX6_found_127 : decode cX6_found 127 = .ok (.putfield 94, 3) := by decide +kernel
theorem dX6_found_130 : decode cX6_found 130 = .ok (.aload_n 0, 1) := by decide +kernel
theorem dX6_found_131 : decode cX6_found 131 = .ok (.aload_n 0, 1) := by decide +kernel
theorem dX6_found_132 : decode cX6_found 132 = .ok (.getfield 94, 3) := by decide +kernel
theorem dX6_found_135 : decode cX6_found 135 = .ok (.iconst 1, 1) := by decide +kernel
theorem dX6_found_136 : decode cX6_found 136 = .ok (.isub, 1) := by decide +kernel
theorem dX6_found_137 : decode cX6_found 137 = .ok (.iload 7, 2) := by decide +kernel
theorem dX6_found_139 : decode cX6_found 139 = .ok (.iconst 0, 1) := by decide +kernel
theorem dX6_found_140 : decode cX6_found 140 = .ok (.invokevirtual 134, 3) := by decide +kernel
theorem dX6_found_143 : decode cX6_found 143 = .ok (.aload_n 0, 1) := by decide +kernel
theorem dX6_found_144 : decode cX6_found 144 = .ok (.getfield 94, 3) := by decide +kernel
theorem dX6_found_147 : decode cX6_found 147 = .ok (.iconst 1, 1) := by decide +kernel
theorem dX6_found_148 : decode cX6_found 148 = .ok (.isub, 1) := by decide +kernel
theorem dX6_found_149 : decode cX6_found 149 = .ok (.ireturn, 1) := by decide +kernel
theorem dX6_join_0 : decode cX6_join 0 = .ok (.aload_n 0, 1) := by decide +kernel
theorem dX6_join_1 : decode cX6_join 1 = .ok (.iload_n 1, 1) := by decide +kernel
theorem dX6_join_2 : decode cX6_join 2 = .ok (.invokevirtual 118, 3) := by decide +kernel
theorem dX6_join_5 : decode cX6_join 5 = .ok (.ifCond .eq 15, 3) := by decide +kernel
theorem dX6_join_8 : decode cX6_join 8 = .ok (.aload_n 0, 1) := by decide +kernel
theorem dX6_join_9 : decode cX6_join 9 = .ok (.iload_n 2, 1) := by decide +kernel
theorem dX6_join_10 : decode cX6_join 10 = .ok (.invokevirtual 118, 3) := by decide +kernel
theorem dX6_join_13 : decode cX6_join 13 = .ok (.ifCond .eq 7, 3) := by decide +kernel
theorem dX6_join_16 : decode cX6_join 16 = .ok (.iconst 1, 1) := by decide +kernel
theorem dX6_join_17 : decode cX6_join 17 = .ok (.goto 4, 3) := by decide +kernel
theorem dX6_join_20 : decode cX6_join 20 = .ok (.iconst 0, 1) := by decide +kernel
theorem dX6_join_21 : decode cX6_join 21 = .ok (.istore_n 3, 1) := by decide +kernel
theorem dX6_join_22 : decode cX6_join 22 = .ok (.iload_n 3, 1) := by decide +kernel
theorem dX6_join_23 : decode cX6_join 23 = .ok (.ifCond .eq 27, 3) := by decide +kernel
theorem dX6_join_26 : decode cX6_join 26 = .ok (.iload_n 1, 1) := by decide +kernel
theorem dX6_join_27 : decode cX6_join 27 = .ok (.iload_n 2, 1) := by decide +kernel
theorem dX6_join_28 : decode cX6_join 28 = .ok (.if_icmp .eq 22, 3) := by decide +kernel
theorem dX6_join_31 : decode cX6_join 31 = .ok (.aload_n 0, 1) := by decide +kernel
theorem dX6_join_32 : decode cX6_join 32 = .ok (.getfield 40, 3) := by decide +kernel
theorem dX6_join_35 : decode cX6_join 35 = .ok (.iload_n 1, 1) := by decide +kernel
theorem dX6_join_36 : decode cX6_join 36 = .ok (.iaload, 1) := by decide +kernel
theorem dX6_join_37 : decode cX6_join 37 = .ok (.aload_n 0, 1) := by decide +kernel
theorem dX6_join_38 : decode cX6_join 38 = .ok (.getfield 40, 3) := by decide +kernel
theorem dX6_join_41 : decode cX6_join 41 = .ok (.iload_n 2, 1) := by decide +kernel
theorem dX6_join_42 : decode cX6_join 42 = .ok (.iaload, 1) := by decide +kernel
theorem dX6_join_43 : decode cX6_join 43 = .ok (.if_icmp .ne 7, 3) := by decide +kernel
theorem dX6_join_46 : decode cX6_join 46 = .ok (.iconst 1, 1) := by decide +kernel
theorem dX6_join_47 : decode cX6_join 47 = .ok (.goto 4, 3) := by decide +kernel
theorem dX6_join_50 : decode cX6_join 50 = .ok (.iconst 0, 1) := by decide +kernel
theorem dX6_join_51 : decode cX6_join 51 = .ok (.istore 4, 2) := by decide +kernel
theorem dX6_join_53 : decode cX6_join 53 = .ok (.iload 4, 2) := by decide +kernel
theorem dX6_join_55 : decode cX6_join 55 = .ok (.ifCond .eq 25, 3) := by decide +kernel
theorem dX6_join_58 : decode cX6_join 58 = .ok (.aload_n 0, 1) := by decide +kernel
theorem dX6_join_59 : decode cX6_join 59 = .ok (.getfield 49, 3) := by decide +kernel
theorem dX6_join_62 : decode cX6_join 62 = .ok (.iload_n 1, 1) := by decide +kernel
theorem dX6_join_63 : decode cX6_join 63 = .ok (.iaload, 1) := by decide +kernel
theorem dX6_join_64 : decode cX6_join 64 = .ok (.ifCond .eq 12, 3) := by decide +kernel
theorem dX6_join_67 : decode cX6_join 67 = .ok (.aload_n 0, 1) := by decide +kernel
theorem dX6_join_68 : decode cX6_join 68 = .ok (.getfield 49, 3) := by decide +kernel
theorem dX6_join_71 : decode cX6_join 71 = .ok (.iload_n 2, 1) := by decide +kernel
theorem dX6_join_72 : decode cX6_join 72 = .ok (.iaload, 1) := by decide +kernel
theorem dX6_join_73 : decode cX6_join 73 = .ok (.ifCond .ne 7, 3) := by decide +kernel
theorem dX6_join_76 : decode cX6_join 76 = .ok (.iconst 1, 1) := by decide +kernel
theorem dX6_join_77 : decode cX6_join 77 = .ok (.goto 4, 3) := by decide +kernel
theorem dX6_join_80 : decode cX6_join 80 = .ok (.iconst 0, 1) := by decide +kernel
theorem dX6_join_81 : decode cX6_join 81 = .ok (.istore 5, 2) := by decide +kernel
theorem dX6_join_83 : decode cX6_join 83 = .ok (.iload 4, 2) := by decide +kernel
theorem dX6_join_85 : decode cX6_join 85 = .ok (.ifCond .eq 50, 3) := by decide +kernel
theorem dX6_join_88 : decode cX6_join 88 = .ok (.iload 5, 2) := by decide +kernel
theorem dX6_join_90 : decode cX6_join 90 = .ok (.ifCond .ne 41, 3) := by decide +kernel
theorem dX6_join_93 : decode cX6_join 93 = .ok (.aload_n 0, 1) := by decide +kernel
theorem dX6_join_94 : decode cX6_join 94 = .ok (.aload_n 0, 1) := by decide +kernel
theorem dX6_join_95 : decode cX6_join 95 = .ok (.iload_n 1, 1) := by decide +kernel
theorem dX6_join_96 : decode cX6_join 96 = .ok (.invokevirtual 128, 3) := by decide +kernel
theorem dX6_join_99 : decode cX6_join 99 = .ok (.invokevirtual 124, 3) := by decide +kernel
theorem dX6_join_102 : decode cX6_join 102 = .ok (.aload_n 0, 1) := by decide +kernel
theorem dX6_join_103 : decode cX6_join 103 = .ok (.aload_n 0, 1) := by decide +kernel
theorem dX6_join_104 : decode cX6_join 104 = .ok (.getfield 43, 3) := by decide +kernel
theorem dX6_join_107 : decode cX6_join 107 = .ok (.bipush 60, 2) := by decide +kernel
theorem dX6_join_109 : decode cX6_join 109 = .ok (.iload_n 2, 1) := by decide +kernel
theorem dX6_join_110 : decode cX6_join 110 = .ok (.imul, 1) := by decide +kernel
theorem dX6_join_111 : decode cX6_join 111 = .ok (.iaload, 1) := by decide +kernel
theorem dX6_join_112 : decode cX6_join 112 = .ok (.invokevirtual 124, 3) := by decide +kernel
theorem dX6_join_115 : decode cX6_join 115 = .ok (.if_icmp .gt 16, 3) := by decide +kernel
theorem dX6_join_118 : decode cX6_join 118 = .ok (.aload_n 0, 1) := by decide +kernel
theorem dX6_join_119 : decode cX6_join 119 = .ok (.aload_n 0, 1) := by decide +kernel
theorem dX6_join_120 : decode cX6_join 120 = .ok (.getfield 40, 3) := by decide +kernel
theorem dX6_join_123 : decode cX6_join 123 = .ok (.iload_n 1, 1) := by decide +kernel
theorem dX6_join_124 : decode cX6_join 124 = .ok (.iaload, 1) := by decide +kernel
theorem dX6_join_125 : decode cX6_join 125 = .ok (.invokevirtual 131, 3) := by decide +kernel
theorem dX6_join_128 : decode cX6_join 128 = .ok (.ifCond .eq 7, 3) := by decide +kernel
theorem dX6_join_131 : decode cX6_join 131 = .ok (.iconst 1, 1) := by decide +kernel
theorem dX6_join_132 : decode cX6_join 132 = .ok (.goto 4, 3) := by decide +kernel
theorem dX6_join_135 : decode cX6_join 135 = .ok (.iconst 0, 1) := by decide +kernel
theorem dX6_join_136 : decode cX6_join 136 = .ok (.istore 6, 2) := by decide +kernel
theorem dX6_join_138 : decode cX6_join 138 = .ok (.aload_n 0, 1) := by decide +kernel
theorem dX6_join_139 : decode cX6_join 139 = .ok (.iload_n 3, 1) := by decide +kernel
theorem dX6_join_140 : decode cX6_join 140 = .ok (.ifCond .ne 7, 3) := by decide +kernel
theorem dX6_join_143 : decode cX6_join 143 = .ok (.iconst 1, 1) := by decide +kernel
theorem dX6_join_144 : decode cX6_join 144 = .ok (.goto 22, 3) := by decide +kernel
theorem dX6_join_147 : decode cX6_join 147 = .ok (.iload 4, 2) := by decide +kernel
theorem dX6_join_149 : decode cX6_join 149 = .ok (.ifCond .ne 7, 3) := by decide +kernel
theorem dX6_join_152 : decode cX6_join 152 = .ok (.iconst 2, 1) := by decide +kernel
theorem dX6_join_153 : decode cX6_join 153 = .ok (.goto 13, 3) := by decide +kernel
theorem dX6_join_156 : decode cX6_join 156 = .ok (.iload 6, 2) := by decide +kernel
theorem dX6_join_158 : decode cX6_join 158 = .ok (.ifCond .eq 7, 3) := by decide +kernel
theorem dX6_join_161 : decode cX6_join 161 = .ok (.iconst 3, 1) := by decide +kernel
theorem dX6_join_162 : decode cX6_join 162 = .ok (.goto 4, 3) := by decide +kernel
theorem dX6_join_165 : decode cX6_join 165 = .ok (.iconst 0, 1) := by decide +kernel
theorem dX6_join_166 : decode cX6_join 166 = .ok (.invokevirtual 103, 3) := by decide +kernel
theorem dX6_join_169 : decode cX6_join 169 = .ok (.ifCond .ne 5, 3) := by decide +kernel
theorem dX6_join_172 : decode cX6_join 172 = .ok (.iconst 0, 1) := by decide +kernel
theorem dX6_join_173 : decode cX6_join 173 = .ok (.ireturn, 1) := by decide +kernel
theorem dX6_join_174 : decode cX6_join 174 = .ok (.aload_n 0, 1) := by decide +kernel
theorem dX6_join_175 : decode cX6_join 175 = .ok (.getfield 49, 3) := by decide +kernel
theorem dX6_join_178 : decode cX6_join 178 = .ok (.iload_n 2, 1) := by decide +kernel
theorem dX6_join_179 : decode cX6_join 179 = .ok (.iaload, 1) := by decide +kernel
theorem dX6_join_180 : decode cX6_join 180 = .ok (.istore 7, 2) := by decide +kernel
theorem dX6_join_182 : decode cX6_join 182 = .ok (.aload_n 0, 1) := by decide +kernel
theorem dX6_join_183 : decode cX6_join 183 = .ok (.getfield 49, 3) := by decide +kernel
theorem dX6_join_186 : decode cX6_join 186 = .ok (.iload_n 2, 1) := by decide +kernel
theorem dX6_join_187 : decode cX6_join 187 = .ok (.iconst 0, 1) := by decide +kernel
theorem dX6_join_188 : decode cX6_join 188 = .ok (.iastore, 1) := by decide +kernel
theorem dX6_join_189 : decode cX6_join 189 = .ok (.iconst 0, 1) := by decide +kernel
theorem dX6_join_190 : decode cX6_join 190 = .ok (.istore 8, 2) := by decide +kernel
theorem dX6_join_192 : decode cX6_join 192 = .ok (.iload 8, 2) := by decide +kernel
theorem dX6_join_194 : decode cX6_join 194 = .ok (.iload 7, 2) := by decide +kernel
theorem dX6_join_196 : decode cX6_join 196 = .ok (.if_icmp .ge 49, 3) := by decide +kernel
theorem dX6_join_199 : decode cX6_join 199 = .ok (.aload_n 0, 1) := by decide +kernel
theorem dX6_join_200 : decode cX6_join 200 = .ok (.iload_n 1, 1) := by decide +kernel
theorem dX6_join_201 : decode cX6_join 201 = .ok (.aload_n 0, 1) := by decide +kernel
theorem dX6_join_202 : decode cX6_join 202 = .ok (.getfield 43, 3) := by decide +kernel
theorem dX6_join_205 : decode cX6_join 205 = .ok (.bipush 60, 2) := by decide +kernel
theorem dX6_join_207 : decode cX6_join 207 = .ok (.iload_n 2, 1) := by decide +kernel
theorem dX6_join_208 : decode cX6_join 208 = .ok (.imul, 1) := by decide +kernel
theorem dX6_join_209 : decode cX6_join 209 = .ok (.iload 8, 2) := by decide +kernel
theorem dX6_join_211 : decode cX6_join 211 = .ok (.iadd, 1) := by decide +kernel
theorem dX6_join_212 : decode cX6_join 212 = .ok (.iaload, 1) := by decide +kernel
theorem dX6_join_213 : decode cX6_join 213 = .ok (.iload 8, 2) := by decide +kernel
theorem dX6_join_215 : decode cX6_join 215 = .ok (.ifCond .ne 7, 3) := by decide +kernel
theorem dX6_join_218 : decode cX6_join 218 = .ok (.iconst 0, 1) := by decide +kernel
theorem dX6_join_219 : decode cX6_join 219 = .ok (.goto 17, 3) := by decide +kernel
theorem dX6_join_222 : decode cX6_join 222 = .ok (.aload_n 0, 1) := by decide +kernel
theorem dX6_join_223 : decode cX6_join 223 = .ok (.getfield 46, 3) := by decide +kernel
theorem dX6_join_226 : decode cX6_join 226 = .ok (.bipush 60, 2) := by decide +kernel
theorem dX6_join_228 : decode cX6_join 228 = .ok (.iload_n 2, 1) := by decide +kernel
theorem dX6_join_229 : decode cX6_join 229 = .ok (.imul, 1) := by decide +kernel
theorem dX6_join_230 : decode cX6_join 230 = .ok (.iload 8, 2) := by decide +kernel
theorem dX6_join_232 : decode cX6_join 232 = .ok (.iadd, 1) := by decide +kernel
theorem dX6_join_233 : decode cX6_join 233 = .ok (.iconst 1, 1) := by decide +kernel
theorem dX6_join_234 : decode cX6_join 234 = .ok (.isub, 1) := by decide +kernel
theorem dX6_join_235 : decode cX6_join 235 = .ok (.iaload, 1) := by decide +kernel
theorem dX6_join_236 : decode cX6_join 236 = .ok (.invokevirtual 134, 3) := by decide +kernel
theorem dX6_join_239 : decode cX6_join 239 = .ok (.iinc 8 1, 3) := by decide +kernel
theorem dX6_join_242 : decode cX6_join 242 = .ok (.goto (-50), 3) := by decide +kernel
theorem dX6_join_245 : decode cX6_join 245 = .ok (.aload_n 0, 1) := by decide +kernel
theorem dX6_join_246 : decode cX6_join 246 = .ok (.getfield 49, 3) := by decide +kernel
theorem dX6_join_249 : decode cX6_join 249 = .ok (.iload_n 1, 1) := by decide +kernel
theorem dX6_join_250 : decode cX6_join 250 = .ok (.iaload, 1) := by decide +kernel
theorem dX6_join_251 : decode cX6_join 251 = .ok (.ireturn, 1) := by decide +kernel
theorem dX6_shots_0 : decode cX6_shots 0 = .ok (.aload_n 0, 1) := by decide +kernel
theorem dX6_shots_1 : decode cX6_shots 1 = .ok (.aload_n 0, 1) := by decide +kernel
theorem dX6_shots_2 : decode cX6_shots 2 = .ok (.iload_n 1, 1) := by decide +kernel
theorem dX6_shots_3 : decode cX6_shots 3 = .ok (.invokevirtual 107, 3) := by decide +kernel
theorem dX6_shots_6 : decode cX6_shots 6 = .ok (.ifCond .eq 7, 3) := by decide +kernel
theorem dX6_shots_9 : decode cX6_shots 9 = .ok (.iconst 0, 1) := by decide +kernel
theorem dX6_shots_10 : decode cX6_shots 10 = .ok (.goto 4, 3) := by decide +kernel
theorem dX6_shots_13 : decode cX6_shots 13 = .ok (.iconst 1, 1) := by decide +kernel
theorem dX6_shots_14 : decode cX6_shots 14 = .ok (.invokevirtual 103, 3) := by decide +kernel
theorem dX6_shots_17 : decode cX6_shots 17 = .ok (.ifCond .eq 12, 3) := by decide +kernel
theorem dX6_shots_20 : decode cX6_shots 20 = .ok (.aload_n 0, 1) := by decide +kernel
theorem dX6_shots_21 : decode cX6_shots 21 = .ok (.getfield 13, 3) := by decide +kernel
theorem dX6_shots_24 : decode cX6_shots 24 = .ok (.iload_n 1, 1) := by decide +kernel
theorem dX6_shots_25 : decode cX6_shots 25 = .ok (.iaload, 1) := by decide +kernel
theorem dX6_shots_26 : decode cX6_shots 26 = .ok (.goto 4, 3) := by decide +kernel
theorem dX6_shots_29 : decode cX6_shots 29 = .ok (.iconst 0, 1) := by decide +kernel
theorem dX6_shots_30 : decode cX6_shots 30 = .ok (.ireturn, 1) := by decide +kernel
theorem dX6_shotOf_0 : decode cX6_shotOf 0 = .ok (.aload_n 0, 1) := by decide +kernel
theorem dX6_shotOf_1 : decode cX6_shotOf 1 = .ok (.iload_n 1, 1) := by decide +kernel
theorem dX6_shotOf_2 : decode cX6_shotOf 2 = .ok (.invokevirtual 107, 3) := by decide +kernel
theorem dX6_shotOf_5 : decode cX6_shotOf 5 = .ok (.ifCond .eq 23, 3) := by decide +kernel
theorem dX6_shotOf_8 : decode cX6_shotOf 8 = .ok (.iload_n 2, 1) := by decide +kernel
theorem dX6_shotOf_9 : decode cX6_shotOf 9 = .ok (.iconst 0, 1) := by decide +kernel
theorem dX6_shotOf_10 : decode cX6_shotOf 10 = .ok (.aload_n 0, 1) := by decide +kernel
theorem dX6_shotOf_11 : decode cX6_shotOf 11 = .ok (.getfield 13, 3) := by decide +kernel
theorem dX6_shotOf_14 : decode cX6_shotOf 14 = .ok (.iload_n 1, 1) := by decide +kernel
theorem dX6_shotOf_15 : decode cX6_shotOf 15 = .ok (.iaload, 1) := by decide +kernel
theorem dX6_shotOf_16 : decode cX6_shotOf 16 = .ok (.iconst 1, 1) := by decide +kernel
theorem dX6_shotOf_17 : decode cX6_shotOf 17 = .ok (.isub, 1) := by decide +kernel
theorem dX6_shotOf_18 : decode cX6_shotOf 18 = .ok (.invokestatic 87, 3) := by decide +kernel
theorem dX6_shotOf_21 : decode cX6_shotOf 21 = .ok (.ifCond .eq 7, 3) := by decide +kernel
theorem dX6_shotOf_24 : decode cX6_shotOf 24 = .ok (.iconst 1, 1) := by decide +kernel
theorem dX6_shotOf_25 : decode cX6_shotOf 25 = .ok (.goto 4, 3) := by decide +kernel
theorem dX6_shotOf_28 : decode cX6_shotOf 28 = .ok (.iconst 0, 1) := by decide +kernel
theorem dX6_shotOf_29 : decode cX6_shotOf 29 = .ok (.istore_n 3, 1) := by decide +kernel
theorem dX6_shotOf_30 : decode cX6_shotOf 30 = .ok (.aload_n 0, 1) := by decide +kernel
theorem dX6_shotOf_31 : decode cX6_shotOf 31 = .ok (.iload_n 3, 1) := by decide +kernel
theorem dX6_shotOf_32 : decode cX6_shotOf 32 = .ok (.ifCond .eq 7, 3) := by decide +kernel
theorem dX6_shotOf_35 : decode cX6_shotOf 35 = .ok (.iconst 0, 1) := by decide +kernel
theorem dX6_shotOf_36 : decode cX6_shotOf 36 = .ok (.goto 4, 3) := by decide +kernel
theorem dX6_shotOf_39 : decode cX6_shotOf 39 = .ok (.iconst 1, 1) := by decide +kernel
theorem dX6_shotOf_40 : decode cX6_shotOf 40 = .ok (.invokevirtual 103, 3) := by decide +kernel
theorem dX6_shotOf_43 : decode cX6_shotOf 43 = .ok (.ifCond .eq 17, 3) := by decide +kernel
theorem dX6_shotOf_46 : decode cX6_shotOf 46 = .ok (.aload_n 0, 1) := by decide +kernel
theorem dX6_shotOf_47 : decode cX6_shotOf 47 = .ok (.getfield 7, 3) := by decide +kernel
theorem dX6_shotOf_50 : decode cX6_shotOf 50 = .ok (.bipush 60, 2) := by decide +kernel
theorem dX6_shotOf_52 : decode cX6_shotOf 52 = .ok (.iload_n 1, 1) := by decide +kernel
theorem dX6_shotOf_53 : decode cX6_shotOf 53 = .ok (.imul, 1) := by decide +kernel
theorem dX6_shotOf_54 : decode cX6_shotOf 54 = .ok (.iload_n 2, 1) := by decide +kernel
theorem dX6_shotOf_55 : decode cX6_shotOf 55 = .ok (.iadd, 1) := by decide +kernel
theorem dX6_shotOf_56 : decode cX6_shotOf 56 = .ok (.iaload, 1) := by decide +kernel
theorem dX6_shotOf_57 : decode cX6_shotOf 57 = .ok (.goto 4, 3) := by decide +kernel
theorem dX6_shotOf_60 : decode cX6_shotOf 60 = .ok (.iconst 0, 1) := by decide +kernel
theorem dX6_shotOf_61 : decode cX6_shotOf 61 = .ok (.ireturn, 1) := by decide +kernel
theorem dX6_lengthOf_0 : decode cX6_lengthOf 0 = .ok (.aload_n 0, 1) := by decide +kernel
theorem dX6_lengthOf_1 : decode cX6_lengthOf 1 = .ok (.aload_n 0, 1) := by decide +kernel
theorem dX6_lengthOf_2 : decode cX6_lengthOf 2 = .ok (.iload_n 1, 1) := by decide +kernel
theorem dX6_lengthOf_3 : decode cX6_lengthOf 3 = .ok (.invokevirtual 121, 3) := by decide +kernel
theorem dX6_lengthOf_6 : decode cX6_lengthOf 6 = .ok (.ifCond .eq 7, 3) := by decide +kernel
theorem dX6_lengthOf_9 : decode cX6_lengthOf 9 = .ok (.iconst 0, 1) := by decide +kernel
theorem dX6_lengthOf_10 : decode cX6_lengthOf 10 = .ok (.goto 4, 3) := by decide +kernel
theorem dX6_lengthOf_13 : decode cX6_lengthOf 13 = .ok (.iconst 1, 1) := by decide +kernel
theorem dX6_lengthOf_14 : decode cX6_lengthOf 14 = .ok (.invokevirtual 103, 3) := by decide +kernel
theorem dX6_lengthOf_17 : decode cX6_lengthOf 17 = .ok (.ifCond .eq 12, 3) := by decide +kernel
theorem dX6_lengthOf_20 : decode cX6_lengthOf 20 = .ok (.aload_n 0, 1) := by decide +kernel
theorem dX6_lengthOf_21 : decode cX6_lengthOf 21 = .ok (.getfield 19, 3) := by decide +kernel
theorem dX6_lengthOf_24 : decode cX6_lengthOf 24 = .ok (.iload_n 1, 1) := by decide +kernel
theorem dX6_lengthOf_25 : decode cX6_lengthOf 25 = .ok (.iaload, 1) := by decide +kernel
theorem dX6_lengthOf_26 : decode cX6_lengthOf 26 = .ok (.goto 4, 3) := by decide +kernel
theorem dX6_lengthOf_29 : decode cX6_lengthOf 29 = .ok (.iconst 0, 1) := by decide +kernel
theorem dX6_lengthOf_30 : decode cX6_lengthOf 30 = .ok (.ireturn, 1) := by decide +kernel
theorem dX6_framesAhead_0 : decode cX6_framesAhead 0 = .ok (.iconst 0, 1) := by decide +kernel
theorem dX6_framesAhead_1 : decode cX6_framesAhead 1 = .ok (.istore_n 3, 1) := by decide +kernel
theorem dX6_framesAhead_2 : decode cX6_framesAhead 2 = .ok (.iconst 0, 1) := by decide +kernel
theorem dX6_framesAhead_3 : decode cX6_framesAhead 3 = .ok (.istore 4, 2) := by decide +kernel
theorem dX6_framesAhead_5 : decode cX6_framesAhead 5 = .ok (.iload 4, 2) := by decide +kernel
theorem dX6_framesAhead_7 : decode cX6_framesAhead 7 = .ok (.iload_n 2, 1) := by decide +kernel
theorem dX6_framesAhead_8 : decode cX6_framesAhead 8 = .ok (.if_icmp .ge 48, 3) := by decide +kernel
theorem dX6_framesAhead_11 : decode cX6_framesAhead 11 = .ok (.aload_n 0, 1) := by decide +kernel
theorem dX6_framesAhead_12 : decode cX6_framesAhead 12 = .ok (.getfield 7, 3) := by decide +kernel
theorem dX6_framesAhead_15 : decode cX6_framesAhead 15 = .ok (.bipush 60, 2) := by decide +kernel
theorem dX6_framesAhead_17 : decode cX6_framesAhead 17 = .ok (.iload_n 1, 1) := by decide +kernel
theorem dX6_framesAhead_18 : decode cX6_framesAhead 18 = .ok (.imul, 1) := by decide +kernel
theorem dX6_framesAhead_19 : decode cX6_framesAhead 19 = .ok (.iload 4, 2) := by decide +kernel
theorem dX6_framesAhead_21 : decode cX6_framesAhead 21 = .ok (.iadd, 1) := by decide +kernel
theorem dX6_framesAhead_22 : decode cX6_framesAhead 22 = .ok (.iaload, 1) := by decide +kernel
theorem dX6_framesAhead_23 : decode cX6_framesAhead 23 = .ok (.istore 5, 2) := by decide +kernel
theorem dX6_framesAhead_25 : decode cX6_framesAhead 25 = .ok (.iload_n 3, 1) := by decide +kernel
theorem dX6_framesAhead_26 : decode cX6_framesAhead 26 = .ok (.aload_n 0, 1) := by decide +kernel
theorem dX6_framesAhead_27 : decode cX6_framesAhead 27 = .ok (.getfield 25, 3) := by decide +kernel
theorem dX6_framesAhead_30 : decode cX6_framesAhead 30 = .ok (.iload 5, 2) := by decide +kernel
theorem dX6_framesAhead_32 : decode cX6_framesAhead 32 = .ok (.iaload, 1) := by decide +kernel
theorem dX6_framesAhead_33 : decode cX6_framesAhead 33 = .ok (.iconst (-1), 1) := by decide +kernel
theorem dX6_framesAhead_34 : decode cX6_framesAhead 34 = .ok (.if_icmp .ne 7, 3) := by decide +kernel
theorem dX6_framesAhead_37 : decode cX6_framesAhead 37 = .ok (.iconst 0, 1) := by decide +kernel
theorem dX6_framesAhead_38 : decode cX6_framesAhead 38 = .ok (.goto 10, 3) := by decide +kernel
theorem dX6_framesAhead_41 : decode cX6_framesAhead 41 = .ok (.aload_n 0, 1) := by decide +kernel
theorem dX6_framesAhead_42 : decode cX6_framesAhead 42 = .ok (.getfield 19, 3) := by decide +kernel
theorem dX6_framesAhead_45 : decode cX6_framesAhead 45 = .ok (.iload 5, 2) := by decide +kernel
theorem dX6_framesAhead_47 : decode cX6_framesAhead 47 = .ok (.iaload, 1) := by decide +kernel
theorem dX6_framesAhead_48 : decode cX6_framesAhead 48 = .ok (.iadd, 1) := by decide +kernel
theorem dX6_framesAhead_49 : decode cX6_framesAhead 49 = .ok (.istore_n 3, 1) := by decide +kernel
theorem dX6_framesAhead_50 : decode cX6_framesAhead 50 = .ok (.iinc 4 1, 3) := by decide +kernel
theorem dX6_framesAhead_53 : decode cX6_framesAhead 53 = .ok (.goto (-48), 3) := by decide +kernel
theorem dX6_framesAhead_56 : decode cX6_framesAhead 56 = .ok (.iload_n 3, 1) := by decide +kernel
theorem dX6_framesAhead_57 : decode cX6_framesAhead 57 = .ok (.ireturn, 1) := by decide +kernel
theorem dX6_frameOf_0 : decode cX6_frameOf 0 = .ok (.aload_n 0, 1) := by decide +kernel
theorem dX6_frameOf_1 : decode cX6_frameOf 1 = .ok (.iload_n 1, 1) := by decide +kernel
theorem dX6_frameOf_2 : decode cX6_frameOf 2 = .ok (.invokevirtual 121, 3) := by decide +kernel
theorem dX6_frameOf_5 : decode cX6_frameOf 5 = .ok (.istore_n 2, 1) := by decide +kernel
theorem dX6_frameOf_6 : decode cX6_frameOf 6 = .ok (.aload_n 0, 1) := by decide +kernel
theorem dX6_frameOf_7 : decode cX6_frameOf 7 = .ok (.iload_n 2, 1) := by decide +kernel
theorem dX6_frameOf_8 : decode cX6_frameOf 8 = .ok (.ifCond .ne 7, 3) := by decide +kernel
theorem dX6_frameOf_11 : decode cX6_frameOf 11 = .ok (.iconst 1, 1) := by decide +kernel
theorem dX6_frameOf_12 : decode cX6_frameOf 12 = .ok (.goto 18, 3) := by decide +kernel
theorem dX6_frameOf_15 : decode cX6_frameOf 15 = .ok (.aload_n 0, 1) := by decide +kernel
theorem dX6_frameOf_16 : decode cX6_frameOf 16 = .ok (.getfield 25, 3) := by decide +kernel
theorem dX6_frameOf_19 : decode cX6_frameOf 19 = .ok (.iload_n 1, 1) := by decide +kernel
theorem dX6_frameOf_20 : decode cX6_frameOf 20 = .ok (.iaload, 1) := by decide +kernel
theorem dX6_frameOf_21 : decode cX6_frameOf 21 = .ok (.iconst (-1), 1) := by decide +kernel
theorem dX6_frameOf_22 : decode cX6_frameOf 22 = .ok (.if_icmp .ne 7, 3) := by decide +kernel
theorem dX6_frameOf_25 : decode cX6_frameOf 25 = .ok (.iconst 2, 1) := by decide +kernel
theorem dX6_frameOf_26 : decode cX6_frameOf 26 = .ok (.goto 4, 3) := by decide +kernel
theorem dX6_frameOf_29 : decode cX6_frameOf 29 = .ok (.iconst 0, 1) := by decide +kernel
theorem dX6_frameOf_30 : decode cX6_frameOf 30 = .ok (.invokevirtual 103, 3) := by decide +kernel
theorem dX6_frameOf_33 : decode cX6_frameOf 33 = .ok (.ifCond .eq 21, 3) := by decide +kernel
theorem dX6_frameOf_36 : decode cX6_frameOf 36 = .ok (.aload_n 0, 1) := by decide +kernel
theorem dX6_frameOf_37 : decode cX6_frameOf 37 = .ok (.aload_n 0, 1) := by decide +kernel
theorem dX6_frameOf_38 : decode cX6_frameOf 38 = .ok (.getfield 16, 3) := by decide +kernel
theorem dX6_frameOf_41 : decode cX6_frameOf 41 = .ok (.iload_n 1, 1) := by decide +kernel
theorem dX6_frameOf_42 : decode cX6_frameOf 42 = .ok (.iaload, 1) := by decide +kernel
theorem dX6_frameOf_43 : decode cX6_frameOf 43 = .ok (.aload_n 0, 1) := by decide +kernel
theorem dX6_frameOf_44 : decode cX6_frameOf 44 = .ok (.iload_n 1, 1) := by decide +kernel
theorem dX6_frameOf_45 : decode cX6_frameOf 45 = .ok (.invokevirtual 124, 3) := by decide +kernel
theorem dX6_frameOf_48 : decode cX6_frameOf 48 = .ok (.invokevirtual 138, 3) := by decide +kernel
theorem dX6_frameOf_51 : decode cX6_frameOf 51 = .ok (.goto 4, 3) := by decide +kernel
theorem dX6_frameOf_54 : decode cX6_frameOf 54 = .ok (.iconst 0, 1) := by decide +kernel
theorem dX6_frameOf_55 : decode cX6_frameOf 55 = .ok (.ireturn, 1) := by decide +kernel
theorem dX6_shotWith_0 : decode cX6_shotWith 0 = .ok (.iload_n 2, 1) := by decide +kernel
theorem dX6_shotWith_1 : decode cX6_shotWith 1 = .ok (.istore_n 3, 1) := by decide +kernel
theorem dX6_shotWith_2 : decode cX6_shotWith 2 = .ok (.iconst (-1), 1) := by decide +kernel
theorem dX6_shotWith_3 : decode cX6_shotWith 3 = .ok (.istore 4, 2) := by decide +kernel
theorem dX6_shotWith_5 : decode cX6_shotWith 5 = .ok (.iconst 0, 1) := by decide +kernel
theorem dX6_shotWith_6 : decode cX6_shotWith 6 = .ok (.istore 5, 2) := by decide +kernel
theorem dX6_shotWith_8 : decode cX6_shotWith 8 = .ok (.iload 5, 2) := by decide +kernel
theorem dX6_shotWith_10 : decode cX6_shotWith 10 = .ok (.aload_n 0, 1) := by decide +kernel
theorem dX6_shotWith_11 : decode cX6_shotWith 11 = .ok (.getfield 13, 3) := by decide +kernel
theorem dX6_shotWith_14 : decode cX6_shotWith 14 = .ok (.iload_n 1, 1) := by decide +kernel
theorem dX6_shotWith_15 : decode cX6_shotWith 15 = .ok (.iaload, 1) := by decide +kernel
theorem dX6_shotWith_16 : decode cX6_shotWith 16 = .ok (.if_icmp .ge 72, 3) := by decide +kernel
theorem dX6_shotWith_19 : decode cX6_shotWith 19 = .ok (.iload_n 2, 1) := by decide +kernel
theorem dX6_shotWith_20 : decode cX6_shotWith 20 = .ok (.ifCond .lt 68, 3) := by decide +kernel
theorem dX6_shotWith_23 : decode cX6_shotWith 23 = .ok (.aload_n 0, 1) := by decide +kernel
theorem dX6_shotWith_24 : decode cX6_shotWith 24 = .ok (.getfield 7, 3) := by decide +kernel
theorem dX6_shotWith_27 : decode cX6_shotWith 27 = .ok (.bipush 60, 2) := by decide +kernel
theorem dX6_shotWith_29 : decode cX6_shotWith 29 = .ok (.iload_n 1, 1) := by decide +kernel
theorem dX6_shotWith_30 : decode cX6_shotWith 30 = .ok (.imul, 1) := by decide +kernel
theorem dX6_shotWith_31 : decode cX6_shotWith 31 = .ok (.iload 5, 2) := by decide +kernel
theorem dX6_shotWith_33 : decode cX6_shotWith 33 = .ok (.iadd, 1) := by decide +kernel
theorem dX6_shotWith_34 : decode cX6_shotWith 34 = .ok (.iaload, 1) := by decide +kernel
theorem dX6_shotWith_35 : decode cX6_shotWith 35 = .ok (.istore 6, 2) := by decide +kernel
theorem dX6_shotWith_37 : decode cX6_shotWith 37 = .ok (.aload_n 0, 1) := by decide +kernel
theorem dX6_shotWith_38 : decode cX6_shotWith 38 = .ok (.getfield 25, 3) := by decide +kernel
theorem dX6_shotWith_41 : decode cX6_shotWith 41 = .ok (.iload 6, 2) := by decide +kernel
theorem dX6_shotWith_43 : decode cX6_shotWith 43 = .ok (.iaload, 1) := by decide +kernel
theorem dX6_shotWith_44 : decode cX6_shotWith 44 = .ok (.iconst (-1), 1) := by decide +kernel
theorem dX6_shotWith_45 : decode cX6_shotWith 45 = .ok (.if_icmp .eq 37, 3) := by decide +kernel
theorem dX6_shotWith_48 : decode cX6_shotWith 48 = .ok (.iload_n 3, 1) := by decide +kernel
theorem dX6_shotWith_49 : decode cX6_shotWith 49 = .ok (.ifCond .lt 19, 3) := by decide +kernel
theorem dX6_shotWith_52 : decode cX6_shotWith 52 = .ok (.iload_n 3, 1) := by decide +kernel
theorem dX6_shotWith_53 : decode cX6_shotWith 53 = .ok (.aload_n 0, 1) := by decide +kernel
theorem dX6_shotWith_54 : decode cX6_shotWith 54 = .ok (.getfield 19, 3) := by decide +kernel
theorem dX6_shotWith_57 : decode cX6_shotWith 57 = .ok (.iload 6, 2) := by decide +kernel
theorem dX6_shotWith_59 : decode cX6_shotWith 59 = .ok (.iaload, 1) := by decide +kernel
theorem dX6_shotWith_60 : decode cX6_shotWith 60 = .ok (.if_icmp .ge 8, 3) := by decide +kernel
theorem dX6_shotWith_63 : decode cX6_shotWith 63 = .ok (.iload 6, 2) := by decide +kernel
theorem dX6_shotWith_65 : decode cX6_shotWith 65 = .ok (.goto 5, 3) := by decide +kernel
theorem dX6_shotWith_68 : decode cX6_shotWith 68 = .ok (.iload 4, 2) := by decide +kernel
theorem dX6_shotWith_70 : decode cX6_shotWith 70 = .ok (.istore 4, 2) := by decide +kernel
theorem dX6_shotWith_72 : decode cX6_shotWith 72 = .ok (.iload_n 3, 1) := by decide +kernel
theorem dX6_shotWith_73 : decode cX6_shotWith 73 = .ok (.aload_n 0, 1) := by decide +kernel
theorem dX6_shotWith_74 : decode cX6_shotWith 74 = .ok (.getfield 19, 3) := by decide +kernel
theorem dX6_shotWith_77 : decode cX6_shotWith 77 = .ok (.iload 6, 2) := by decide +kernel
theorem dX6_shotWith_79 : decode cX6_shotWith 79 = .ok (.iaload, 1) := by decide +kernel
theorem dX6_shotWith_80 : decode cX6_shotWith 80 = .ok (.isub, 1) := by decide +kernel
theorem dX6_shotWith_81 : decode cX6_shotWith 81 = .ok (.istore_n 3, 1) := by decide +kernel
theorem dX6_shotWith_82 : decode cX6_shotWith 82 = .ok (.iinc 5 1, 3) := by decide +kernel
theorem dX6_shotWith_85 : decode cX6_shotWith 85 = .ok (.goto (-77), 3) := by decide +kernel
theorem dX6_shotWith_88 : decode cX6_shotWith 88 = .ok (.iload 4, 2) := by decide +kernel
theorem dX6_shotWith_90 : decode cX6_shotWith 90 = .ok (.ireturn, 1) := by decide +kernel
theorem dX6_shotAt_0 : decode cX6_shotAt 0 = .ok (.aload_n 0, 1) := by decide +kernel
theorem dX6_shotAt_1 : decode cX6_shotAt 1 = .ok (.iload_n 1, 1) := by decide +kernel
theorem dX6_shotAt_2 : decode cX6_shotAt 2 = .ok (.invokevirtual 107, 3) := by decide +kernel
theorem dX6_shotAt_5 : decode cX6_shotAt 5 = .ok (.istore_n 3, 1) := by decide +kernel
theorem dX6_shotAt_6 : decode cX6_shotAt 6 = .ok (.iload_n 3, 1) := by decide +kernel
theorem dX6_shotAt_7 : decode cX6_shotAt 7 = .ok (.ifCond .eq 12, 3) := by decide +kernel
theorem dX6_shotAt_10 : decode cX6_shotAt 10 = .ok (.aload_n 0, 1) := by decide +kernel
theorem dX6_shotAt_11 : decode cX6_shotAt 11 = .ok (.iload_n 1, 1) := by decide +kernel
theorem dX6_shotAt_12 : decode cX6_shotAt 12 = .ok (.iload_n 2, 1) := by decide +kernel
theorem dX6_shotAt_13 : decode cX6_shotAt 13 = .ok (.invokevirtual 142, 3) := by decide +kernel
theorem dX6_shotAt_16 : decode cX6_shotAt 16 = .ok (.goto 4, 3) := by decide +kernel
theorem dX6_shotAt_19 : decode cX6_shotAt 19 = .ok (.iconst (-1), 1) := by decide +kernel
theorem dX6_shotAt_20 : decode cX6_shotAt 20 = .ok (.istore 4, 2) := by decide +kernel
theorem dX6_shotAt_22 : decode cX6_shotAt 22 = .ok (.aload_n 0, 1) := by decide +kernel
theorem dX6_shotAt_23 : decode cX6_shotAt 23 = .ok (.iload_n 3, 1) := by decide +kernel
theorem dX6_shotAt_24 : decode cX6_shotAt 24 = .ok (.ifCond .ne 7, 3) := by decide +kernel
theorem dX6_shotAt_27 : decode cX6_shotAt 27 = .ok (.iconst 1, 1) := by decide +kernel
theorem dX6_shotAt_28 : decode cX6_shotAt 28 = .ok (.goto 14, 3) := by decide +kernel
theorem dX6_shotAt_31 : decode cX6_shotAt 31 = .ok (.iload 4, 2) := by decide +kernel
theorem dX6_shotAt_33 : decode cX6_shotAt 33 = .ok (.iconst (-1), 1) := by decide +kernel
theorem dX6_shotAt_34 : decode cX6_shotAt 34 = .ok (.if_icmp .ne 7, 3) := by decide +kernel
theorem dX6_shotAt_37 : decode cX6_shotAt 37 = .ok (.iconst 2, 1) := by decide +kernel
theorem dX6_shotAt_38 : decode cX6_shotAt 38 = .ok (.goto 4, 3) := by decide +kernel
theorem dX6_shotAt_41 : decode cX6_shotAt 41 = .ok (.iconst 0, 1) := by decide +kernel
theorem dX6_shotAt_42 : decode cX6_shotAt 42 = .ok (.invokevirtual 103, 3) := by decide +kernel
theorem dX6_shotAt_45 : decode cX6_shotAt 45 = .ok (.ifCond .eq 8, 3) := by decide +kernel
theorem dX6_shotAt_48 : decode cX6_shotAt 48 = .ok (.iload 4, 2) := by decide +kernel
theorem dX6_shotAt_50 : decode cX6_shotAt 50 = .ok (.goto 4, 3) := by decide +kernel
theorem dX6_shotAt_53 : decode cX6_shotAt 53 = .ok (.iconst 0, 1) := by decide +kernel
theorem dX6_shotAt_54 : decode cX6_shotAt 54 = .ok (.ireturn, 1) := by decide +kernel
theorem dX6_reelOf_0 : decode cX6_reelOf 0 = .ok (.aload_n 0, 1) := by decide +kernel
theorem dX6_reelOf_1 : decode cX6_reelOf 1 = .ok (.aload_n 0, 1) := by decide +kernel
theorem dX6_reelOf_2 : decode cX6_reelOf 2 = .ok (.iload_n 1, 1) := by decide +kernel
theorem dX6_reelOf_3 : decode cX6_reelOf 3 = .ok (.invokevirtual 121, 3) := by decide +kernel
theorem dX6_reelOf_6 : decode cX6_reelOf 6 = .ok (.ifCond .eq 7, 3) := by decide +kernel
theorem dX6_reelOf_9 : decode cX6_reelOf 9 = .ok (.iconst 0, 1) := by decide +kernel
theorem dX6_reelOf_10 : decode cX6_reelOf 10 = .ok (.goto 4, 3) := by decide +kernel
theorem dX6_reelOf_13 : decode cX6_reelOf 13 = .ok (.iconst 1, 1) := by decide +kernel
theorem dX6_reelOf_14 : decode cX6_reelOf 14 = .ok (.invokevirtual 103, 3) := by decide +kernel
theorem dX6_reelOf_17 : decode cX6_reelOf 17 = .ok (.ifCond .eq 12, 3) := by decide +kernel
theorem dX6_reelOf_20 : decode cX6_reelOf 20 = .ok (.aload_n 0, 1) := by decide +kernel
theorem dX6_reelOf_21 : decode cX6_reelOf 21 = .ok (.getfield 25, 3) := by decide +kernel
theorem dX6_reelOf_24 : decode cX6_reelOf 24 = .ok (.iload_n 1, 1) := by decide +kernel
theorem dX6_reelOf_25 : decode cX6_reelOf 25 = .ok (.iaload, 1) := by decide +kernel
theorem dX6_reelOf_26 : decode cX6_reelOf 26 = .ok (.goto 4, 3) := by decide +kernel
theorem dX6_reelOf_29 : decode cX6_reelOf 29 = .ok (.iconst 0, 1) := by decide +kernel
theorem dX6_reelOf_30 : decode cX6_reelOf 30 = .ok (.ireturn, 1) := by decide +kernel
theorem dX6_greatest_0 : decode cX6_greatest 0 = .ok (.iconst 0, 1) := by decide +kernel
theorem dX6_greatest_1 : decode cX6_greatest 1 = .ok (.istore_n 2, 1) := by decide +kernel
theorem dX6_greatest_2 : decode cX6_greatest 2 = .ok (.iconst 0, 1) := by decide +kernel
theorem dX6_greatest_3 : decode cX6_greatest 3 = .ok (.istore_n 3, 1) := by decide +kernel
theorem dX6_greatest_4 : decode cX6_greatest 4 = .ok (.iload_n 3, 1) := by decide +kernel
theorem dX6_greatest_5 : decode cX6_greatest 5 = .ok (.iconst 1, 1) := by decide +kernel
theorem dX6_greatest_6 : decode cX6_greatest 6 = .ok (.iadd, 1) := by decide +kernel
theorem dX6_greatest_7 : decode cX6_greatest 7 = .ok (.aload_n 0, 1) := by decide +kernel
theorem dX6_greatest_8 : decode cX6_greatest 8 = .ok (.getfield 49, 3) := by decide +kernel
theorem dX6_greatest_11 : decode cX6_greatest 11 = .ok (.iload_n 1, 1) := by decide +kernel
theorem dX6_greatest_12 : decode cX6_greatest 12 = .ok (.iaload, 1) := by decide +kernel
theorem dX6_greatest_13 : decode cX6_greatest 13 = .ok (.if_icmp .ge 40, 3) := by decide +kernel
theorem dX6_greatest_16 : decode cX6_greatest 16 = .ok (.aload_n 0, 1) := by decide +kernel
theorem dX6_greatest_17 : decode cX6_greatest 17 = .ok (.getfield 46, 3) := by decide +kernel
theorem dX6_greatest_20 : decode cX6_greatest 20 = .ok (.bipush 60, 2) := by decide +kernel
theorem dX6_greatest_22 : decode cX6_greatest 22 = .ok (.iload_n 1, 1) := by decide +kernel
theorem dX6_greatest_23 : decode cX6_greatest 23 = .ok (.imul, 1) := by decide +kernel
theorem dX6_greatest_24 : decode cX6_greatest 24 = .ok (.iload_n 3, 1) := by decide +kernel
theorem dX6_greatest_25 : decode cX6_greatest 25 = .ok (.iadd, 1) := by decide +kernel
theorem dX6_greatest_26 : decode cX6_greatest 26 = .ok (.iaload, 1) := by decide +kernel
theorem dX6_greatest_27 : decode cX6_greatest 27 = .ok (.iload_n 2, 1) := by decide +kernel
theorem dX6_greatest_28 : decode cX6_greatest 28 = .ok (.if_icmp .le 17, 3) := by decide +kernel
theorem dX6_greatest_31 : decode cX6_greatest 31 = .ok (.aload_n 0, 1) := by decide +kernel
theorem dX6_greatest_32 : decode cX6_greatest 32 = .ok (.getfield 46, 3) := by decide +kernel
theorem dX6_greatest_35 : decode cX6_greatest 35 = .ok (.bipush 60, 2) := by decide +kernel
theorem dX6_greatest_37 : decode cX6_greatest 37 = .ok (.iload_n 1, 1) := by decide +kernel
theorem dX6_greatest_38 : decode cX6_greatest 38 = .ok (.imul, 1) := by decide +kernel
theorem dX6_greatest_39 : decode cX6_greatest 39 = .ok (.iload_n 3, 1) := by decide +kernel
theorem dX6_greatest_40 : decode cX6_greatest 40 = .ok (.iadd, 1) := by decide +kernel
theorem dX6_greatest_41 : decode cX6_greatest 41 = .ok (.iaload, 1) := by decide +kernel
theorem dX6_greatest_42 : decode cX6_greatest 42 = .ok (.goto 4, 3) := by decide +kernel
theorem dX6_greatest_45 : decode cX6_greatest 45 = .ok (.iload_n 2, 1) := by decide +kernel
theorem dX6_greatest_46 : decode cX6_greatest 46 = .ok (.istore_n 2, 1) := by decide +kernel
theorem dX6_greatest_47 : decode cX6_greatest 47 = .ok (.iinc 3 1, 3) := by decide +kernel
theorem dX6_greatest_50 : decode cX6_greatest 50 = .ok (.goto (-46), 3) := by decide +kernel
theorem dX6_greatest_53 : decode cX6_greatest 53 = .ok (.iload_n 2, 1) := by decide +kernel
theorem dX6_greatest_54 : decode cX6_greatest 54 = .ok (.ireturn, 1) := by decide +kernel
theorem dX6_hasLoan_0 : decode cX6_hasLoan 0 = .ok (.iconst 0, 1) := by decide +kernel
theorem dX6_hasLoan_1 : decode cX6_hasLoan 1 = .ok (.istore_n 1, 1) := by decide +kernel
theorem dX6_hasLoan_2 : decode cX6_hasLoan 2 = .ok (.iconst 0, 1) := by decide +kernel
theorem dX6_hasLoan_3 : decode cX6_hasLoan 3 = .ok (.istore_n 2, 1) := by decide +kernel
theorem dX6_hasLoan_4 : decode cX6_hasLoan 4 = .ok (.iload_n 2, 1) := by decide +kernel
theorem dX6_hasLoan_5 : decode cX6_hasLoan 5 = .ok (.aload_n 0, 1) := by decide +kernel
theorem dX6_hasLoan_6 : decode cX6_hasLoan 6 = .ok (.getfield 100, 3) := by decide +kernel
theorem dX6_hasLoan_9 : decode cX6_hasLoan 9 = .ok (.if_icmp .ge 28, 3) := by decide +kernel
theorem dX6_hasLoan_12 : decode cX6_hasLoan 12 = .ok (.iload_n 1, 1) := by decide +kernel
theorem dX6_hasLoan_13 : decode cX6_hasLoan 13 = .ok (.ifCond .ne 12, 3) := by decide +kernel
theorem dX6_hasLoan_16 : decode cX6_hasLoan 16 = .ok (.aload_n 0, 1) := by decide +kernel
theorem dX6_hasLoan_17 : decode cX6_hasLoan 17 = .ok (.getfield 77, 3) := by decide +kernel
theorem dX6_hasLoan_20 : decode cX6_hasLoan 20 = .ok (.iload_n 2, 1) := by decide +kernel
theorem dX6_hasLoan_21 : decode cX6_hasLoan 21 = .ok (.baload, 1) := by decide +kernel
theorem dX6_hasLoan_22 : decode cX6_hasLoan 22 = .ok (.ifCond .ne 7, 3) := by decide +kernel
theorem dX6_hasLoan_25 : decode cX6_hasLoan 25 = .ok (.iconst 1, 1) := by decide +kernel
theorem dX6_hasLoan_26 : decode cX6_hasLoan 26 = .ok (.goto 4, 3) := by decide +kernel
theorem dX6_hasLoan_29 : decode cX6_hasLoan 29 = .ok (.iconst 0, 1) := by decide +kernel
theorem dX6_hasLoan_30 : decode cX6_hasLoan 30 = .ok (.istore_n 1, 1) := by decide +kernel
theorem dX6_hasLoan_31 : decode cX6_hasLoan 31 = .ok (.iinc 2 1, 3) := by decide +kernel
theorem dX6_hasLoan_34 : decode cX6_hasLoan 34 = .ok (.goto (-30), 3) := by decide +kernel
theorem dX6_hasLoan_37 : decode cX6_hasLoan 37 = .ok (.iload_n 1, 1) := by decide +kernel
theorem dX6_hasLoan_38 : decode cX6_hasLoan 38 = .ok (.ireturn, 1) := by decide +kernel
theorem dX6_setLimit_0 : decode cX6_setLimit 0 = .ok (.iload_n 1, 1) := by decide +kernel
theorem dX6_setLimit_1 : decode cX6_setLimit 1 = .ok (.iconst 2, 1) := by decide +kernel
theorem dX6_setLimit_2 : decode cX6_setLimit 2 = .ok (.bipush 50, 2) := by decide +kernel
theorem dX6_setLimit_4 : decode cX6_setLimit 4 = .ok (.invokestatic 87, 3) := by decide +kernel
theorem dX6_setLimit_7 : decode cX6_setLimit 7 = .ok (.istore_n 2, 1) := by decide +kernel
theorem dX6_setLimit_8 : decode cX6_setLimit 8 = .ok (.iconst 0, 1) := by decide +kernel
theorem dX6_setLimit_9 : decode cX6_setLimit 9 = .ok (.istore_n 3, 1) := by decide +kernel
theorem dX6_setLimit_10 : decode cX6_setLimit 10 = .ok (.iconst 0, 1) := by decide +kernel
theorem dX6_setLimit_11 : decode cX6_setLimit 11 = .ok (.istore 4, 2) := by decide +kernel
theorem dX6_setLimit_13 : decode cX6_setLimit 13 = .ok (.iload 4, 2) := by decide +kernel
theorem dX6_setLimit_15 : decode cX6_setLimit 15 = .ok (.aload_n 0, 1) := by decide +kernel
theorem dX6_setLimit_16 : decode cX6_setLimit 16 = .ok (.getfield 94, 3) := by decide +kernel
theorem dX6_setLimit_19 : decode cX6_setLimit 19 = .ok (.if_icmp .ge 30, 3) := by decide +kernel
theorem dX6_setLimit_22 : decode cX6_setLimit 22 = .ok (.aload_n 0, 1) := by decide +kernel
theorem dX6_setLimit_23 : decode cX6_setLimit 23 = .ok (.iload 4, 2) := by decide +kernel
theorem dX6_setLimit_25 : decode cX6_setLimit 25 = .ok (.invokevirtual 145, 3) := by decide +kernel
theorem dX6_setLimit_28 : decode cX6_setLimit 28 = .ok (.iload_n 3, 1) := by decide +kernel
theorem dX6_setLimit_29 : decode cX6_setLimit 29 = .ok (.if_icmp .le 12, 3) := by decide +kernel
theorem dX6_setLimit_32 : decode cX6_setLimit 32 = .ok (.aload_n 0, 1) := by decide +kernel
theorem dX6_setLimit_33 : decode cX6_setLimit 33 = .ok (.iload 4, 2) := by decide +kernel
theorem dX6_setLimit_35 : decode cX6_setLimit 35 = .ok (.invokevirtual 145, 3) := by decide +kernel
theorem dX6_setLimit_38 : decode cX6_setLimit 38 = .ok (.goto 4, 3) := by decide +kernel
theorem dX6_setLimit_41 : decode cX6_setLimit 41 = .ok (.iload_n 3, 1) := by decide +kernel
theorem dX6_setLimit_42 : decode cX6_setLimit 42 = .ok (.istore_n 3, 1) := by decide +kernel
theorem dX6_setLimit_43 : decode cX6_setLimit 43 = .ok (.iinc 4 1, 3) := by decide +kernel
theorem dX6_setLimit_46 : decode cX6_setLimit 46 = .ok (.goto (-33), 3) := by decide +kernel
theorem dX6_setLimit_49 : decode cX6_setLimit 49 = .ok (.aload_n 0, 1) := by decide +kernel
theorem dX6_setLimit_50 : decode cX6_setLimit 50 = .ok (.iload_n 2, 1) := by decide +kernel
theorem dX6_setLimit_51 : decode cX6_setLimit 51 = .ok (.ifCond .ne 7, 3) := by decide +kernel
theorem dX6_setLimit_54 : decode cX6_setLimit 54 = .ok (.iconst 1, 1) := by decide +kernel
theorem dX6_setLimit_55 : decode cX6_setLimit 55 = .ok (.goto 28, 3) := by decide +kernel
theorem dX6_setLimit_58 : decode cX6_setLimit 58 = .ok (.iload_n 3, 1) := by decide +kernel
theorem dX6_setLimit_59 : decode cX6_setLimit 59 = .ok (.iload_n 1, 1) := by decide +kernel
theorem dX6_setLimit_60 : decode cX6_setLimit 60 = .ok (.if_icmp .gt 18, 3) := by decide +kernel
theorem dX6_setLimit_63 : decode cX6_setLimit 63 = .ok (.iload_n 1, 1) := by decide +kernel
theorem dX6_setLimit_64 : decode cX6_setLimit 64 = .ok (.aload_n 0, 1) := by decide +kernel
theorem dX6_setLimit_65 : decode cX6_setLimit 65 = .ok (.getfield 52, 3) := by decide +kernel
theorem dX6_setLimit_68 : decode cX6_setLimit 68 = .ok (.if_icmp .ge 14, 3) := by decide +kernel
theorem dX6_setLimit_71 : decode cX6_setLimit 71 = .ok (.aload_n 0, 1) := by decide +kernel
theorem dX6_setLimit_72 : decode cX6_setLimit 72 = .ok (.invokevirtual 148, 3) := by decide +kernel
theorem dX6_setLimit_75 : decode cX6_setLimit 75 = .ok (.ifCond .eq 7, 3) := by decide +kernel
theorem dX6_setLimit_78 : decode cX6_setLimit 78 = .ok (.iconst 2, 1) := by decide +kernel
theorem dX6_setLimit_79 : decode cX6_setLimit 79 = .ok (.goto 4, 3) := by decide +kernel
theorem dX6_setLimit_82 : decode cX6_setLimit 82 = .ok (.iconst 0, 1) := by decide +kernel
theorem dX6_setLimit_83 : decode cX6_setLimit 83 = .ok (.invokevirtual 103, 3) := by decide +kernel
theorem dX6_setLimit_86 : decode cX6_setLimit 86 = .ok (.ifCond .ne 5, 3) := by decide +kernel
theorem dX6_setLimit_89 : decode cX6_setLimit 89 = .ok (.iconst 0, 1) := by decide +kernel
theorem dX6_setLimit_90 : decode cX6_setLimit 90 = .ok (.ireturn, 1) := by decide +kernel
theorem dX6_setLimit_91 : decode cX6_setLimit 91 = .ok (.aload_n 0, 1) := by decide +kernel
theorem dX6_setLimit_92 : decode cX6_setLimit 92 = .ok (.getfield 52, 3) := by decide +kernel
theorem dX6_setLimit_95 : decode cX6_setLimit 95 = .ok (.istore 4, 2) := by decide +kernel
theorem dX6_setLimit_97 : decode cX6_setLimit 97 = .ok (.aload_n 0, 1) := by decide +kernel
theorem dX6_setLimit_98 : decode cX6_setLimit 98 = .ok (.iload_n 1, 1) := by decide +kernel
theorem dX6_setLimit_99 : decode cX6_setLimit 99 = .ok (.putfield 52, 3) := by decide +kernel
theorem dX6_setLimit_102 : decode cX6_setLimit 102 = .ok (.iload 4, 2) := by decide +kernel
theorem dX6_setLimit_104 : decode cX6_setLimit 104 = .ok (.ireturn, 1) := by decide +kernel
theorem dX6_framesOn_0 : decode cX6_framesOn 0 = .ok (.iconst 0, 1) := by decide +kernel
theorem dX6_framesOn_1 : decode cX6_framesOn 1 = .ok (.istore_n 2, 1) := by decide +kernel
theorem dX6_framesOn_2 : decode cX6_framesOn 2 = .ok (.iconst 0, 1) := by decide +kernel
theorem dX6_framesOn_3 : decode cX6_framesOn 3 = .ok (.istore_n 3, 1) := by decide +kernel
theorem dX6_framesOn_4 : decode cX6_framesOn 4 = .ok (.iload_n 3, 1) := by decide +kernel
theorem dX6_framesOn_5 : decode cX6_framesOn 5 = .ok (.aload_n 0, 1) := by decide +kernel
theorem dX6_framesOn_6 : decode cX6_framesOn 6 = .ok (.getfield 49, 3) := by decide +kernel
theorem dX6_framesOn_9 : decode cX6_framesOn 9 = .ok (.iload_n 1, 1) := by decide +kernel
theorem dX6_framesOn_10 : decode cX6_framesOn 10 = .ok (.iaload, 1) := by decide +kernel
theorem dX6_framesOn_11 : decode cX6_framesOn 11 = .ok (.if_icmp .ge 28, 3) := by decide +kernel
theorem dX6_framesOn_14 : decode cX6_framesOn 14 = .ok (.iload_n 2, 1) := by decide +kernel
theorem dX6_framesOn_15 : decode cX6_framesOn 15 = .ok (.aload_n 0, 1) := by decide +kernel
theorem dX6_framesOn_16 : decode cX6_framesOn 16 = .ok (.getfield 19, 3) := by decide +kernel
theorem dX6_framesOn_19 : decode cX6_framesOn 19 = .ok (.aload_n 0, 1) := by decide +kernel
theorem dX6_framesOn_20 : decode cX6_framesOn 20 = .ok (.getfield 43, 3) := by decide +kernel
theorem dX6_framesOn_23 : decode cX6_framesOn 23 = .ok (.bipush 60, 2) := by decide +kernel
theorem dX6_framesOn_25 : decode cX6_framesOn 25 = .ok (.iload_n 1, 1) := by decide +kernel
theorem dX6_framesOn_26 : decode cX6_framesOn 26 = .ok (.imul, 1) := by decide +kernel
theorem dX6_framesOn_27 : decode cX6_framesOn 27 = .ok (.iload_n 3, 1) := by decide +kernel
theorem dX6_framesOn_28 : decode cX6_framesOn 28 = .ok (.iadd, 1) := by decide +kernel
theorem dX6_framesOn_29 : decode cX6_framesOn 29 = .ok (.iaload, 1) := by decide +kernel
theorem dX6_framesOn_30 : decode cX6_framesOn 30 = .ok (.iaload, 1) := by decide +kernel
theorem dX6_framesOn_31 : decode cX6_framesOn 31 = .ok (.iadd, 1) := by decide +kernel
theorem dX6_framesOn_32 : decode cX6_framesOn 32 = .ok (.istore_n 2, 1) := by decide +kernel
theorem dX6_framesOn_33 : decode cX6_framesOn 33 = .ok (.iinc 3 1, 3) := by decide +kernel
theorem dX6_framesOn_36 : decode cX6_framesOn 36 = .ok (.goto (-32), 3) := by decide +kernel
theorem dX6_framesOn_39 : decode cX6_framesOn 39 = .ok (.iload_n 2, 1) := by decide +kernel
theorem dX6_framesOn_40 : decode cX6_framesOn 40 = .ok (.ireturn, 1) := by decide +kernel
theorem dX6_bears_0 : decode cX6_bears 0 = .ok (.aload_n 0, 1) := by decide +kernel
theorem dX6_bears_1 : decode cX6_bears 1 = .ok (.getfield 49, 3) := by decide +kernel
theorem dX6_bears_4 : decode cX6_bears 4 = .ok (.iload_n 1, 1) := by decide +kernel
theorem dX6_bears_5 : decode cX6_bears 5 = .ok (.iaload, 1) := by decide +kernel
theorem dX6_bears_6 : decode cX6_bears 6 = .ok (.iconst 2, 1) := by decide +kernel
theorem dX6_bears_7 : decode cX6_bears 7 = .ok (.if_icmp .lt 17, 3) := by decide +kernel
theorem dX6_bears_10 : decode cX6_bears 10 = .ok (.aload_n 0, 1) := by decide +kernel
theorem dX6_bears_11 : decode cX6_bears 11 = .ok (.iload_n 1, 1) := by decide +kernel
theorem dX6_bears_12 : decode cX6_bears 12 = .ok (.invokevirtual 145, 3) := by decide +kernel
theorem dX6_bears_15 : decode cX6_bears 15 = .ok (.iload_n 2, 1) := by decide +kernel
theorem dX6_bears_16 : decode cX6_bears 16 = .ok (.iadd, 1) := by decide +kernel
theorem dX6_bears_17 : decode cX6_bears 17 = .ok (.aload_n 0, 1) := by decide +kernel
theorem dX6_bears_18 : decode cX6_bears 18 = .ok (.getfield 52, 3) := by decide +kernel
theorem dX6_bears_21 : decode cX6_bears 21 = .ok (.if_icmp .gt 7, 3) := by decide +kernel
theorem dX6_bears_24 : decode cX6_bears 24 = .ok (.iconst 1, 1) := by decide +kernel
theorem dX6_bears_25 : decode cX6_bears 25 = .ok (.goto 4, 3) := by decide +kernel
theorem dX6_bears_28 : decode cX6_bears 28 = .ok (.iconst 0, 1) := by decide +kernel
theorem dX6_bears_29 : decode cX6_bears 29 = .ok (.ireturn, 1) := by decide +kernel
theorem dX6_wears_0 : decode cX6_wears 0 = .ok (.iconst 0, 1) := by decide +kernel
theorem dX6_wears_1 : decode cX6_wears 1 = .ok (.istore_n 3, 1) := by decide +kernel
theorem dX6_wears_2 : decode cX6_wears 2 = .ok (.iload_n 3, 1) := by decide +kernel
theorem dX6_wears_3 : decode cX6_wears 3 = .ok (.iconst 1, 1) := by decide +kernel
theorem dX6_wears_4 : decode cX6_wears 4 = .ok (.iadd, 1) := by decide +kernel
theorem dX6_wears_5 : decode cX6_wears 5 = .ok (.aload_n 0, 1) := by decide +kernel
theorem dX6_wears_6 : decode cX6_wears 6 = .ok (.getfield 49, 3) := by decide +kernel
theorem dX6_wears_9 : decode cX6_wears 9 = .ok (.iload_n 1, 1) := by decide +kernel
theorem dX6_wears_10 : decode cX6_wears 10 = .ok (.iaload, 1) := by decide +kernel
theorem dX6_wears_11 : decode cX6_wears 11 = .ok (.if_icmp .ge 24, 3) := by decide +kernel
theorem dX6_wears_14 : decode cX6_wears 14 = .ok (.aload_n 0, 1) := by decide +kernel
theorem dX6_wears_15 : decode cX6_wears 15 = .ok (.getfield 46, 3) := by decide +kernel
theorem dX6_wears_18 : decode cX6_wears 18 = .ok (.bipush 60, 2) := by decide +kernel
theorem dX6_wears_20 : decode cX6_wears 20 = .ok (.iload_n 1, 1) := by decide +kernel
theorem dX6_wears_21 : decode cX6_wears 21 = .ok (.imul, 1) := by decide +kernel
theorem dX6_wears_22 : decode cX6_wears 22 = .ok (.iload_n 3, 1) := by decide +kernel
theorem dX6_wears_23 : decode cX6_wears 23 = .ok (.iadd, 1) := by decide +kernel
theorem dX6_wears_24 : decode cX6_wears 24 = .ok (.dup2, 1) := by decide +kernel
theorem dX6_wears_25 : decode cX6_wears 25 = .ok (.iaload, 1) := by decide +kernel
theorem dX6_wears_26 : decode cX6_wears 26 = .ok (.iload_n 2, 1) := by decide +kernel
theorem dX6_wears_27 : decode cX6_wears 27 = .ok (.iadd, 1) := by decide +kernel
theorem dX6_wears_28 : decode cX6_wears 28 = .ok (.iastore, 1) := by decide +kernel
theorem dX6_wears_29 : decode cX6_wears 29 = .ok (.iinc 3 1, 3) := by decide +kernel
theorem dX6_wears_32 : decode cX6_wears 32 = .ok (.goto (-30), 3) := by decide +kernel
theorem dX6_wears_35 : decode cX6_wears 35 = .ok (.aload_n 0, 1) := by decide +kernel
theorem dX6_wears_36 : decode cX6_wears 36 = .ok (.dup, 1) := by decide +kernel
theorem dX6_wears_37 : decode cX6_wears 37 = .ok (.getfield 152, 3) := by decide +kernel
theorem dX6_wears_40 : decode cX6_wears 40 = .ok (.aload_n 0, 1) := by decide +kernel
theorem dX6_wears_41 : decode cX6_wears 41 = .ok (.iload_n 1, 1) := by decide +kernel
theorem dX6_wears_42 : decode cX6_wears 42 = .ok (.invokevirtual 156, 3) := by decide +kernel
theorem dX6_wears_45 : decode cX6_wears 45 = .ok (.i2l, 1) := by decide +kernel
theorem dX6_wears_46 : decode cX6_wears 46 = .ok (.ladd, 1) := by decide +kernel
theorem dX6_wears_47 : decode cX6_wears 47 = .ok (.putfield 152, 3) := by decide +kernel
theorem dX6_wears_50 : decode cX6_wears 50 = .ok (.return_, 1) := by decide +kernel
theorem dX6_run_0 : decode cX6_run 0 = .ok (.aload_n 0, 1) := by decide +kernel
theorem dX6_run_1 : decode cX6_run 1 = .ok (.iload_n 1, 1) := by decide +kernel
theorem dX6_run_2 : decode cX6_run 2 = .ok (.invokevirtual 118, 3) := by decide +kernel
theorem dX6_run_5 : decode cX6_run 5 = .ok (.istore_n 2, 1) := by decide +kernel
theorem dX6_run_6 : decode cX6_run 6 = .ok (.aload_n 0, 1) := by decide +kernel
theorem dX6_run_7 : decode cX6_run 7 = .ok (.iload_n 2, 1) := by decide +kernel
theorem dX6_run_8 : decode cX6_run 8 = .ok (.ifCond .ne 7, 3) := by decide +kernel
theorem dX6_run_11 : decode cX6_run 11 = .ok (.iconst 1, 1) := by decide +kernel
theorem dX6_run_12 : decode cX6_run 12 = .ok (.goto 30, 3) := by decide +kernel
theorem dX6_run_15 : decode cX6_run 15 = .ok (.aload_n 0, 1) := by decide +kernel
theorem dX6_run_16 : decode cX6_run 16 = .ok (.iload_n 1, 1) := by decide +kernel
theorem dX6_run_17 : decode cX6_run 17 = .ok (.iconst 1, 1) := by decide +kernel
theorem dX6_run_18 : decode cX6_run 18 = .ok (.invokevirtual 159, 3) := by decide +kernel
theorem dX6_run_21 : decode cX6_run 21 = .ok (.ifCond .eq 16, 3) := by decide +kernel
theorem dX6_run_24 : decode cX6_run 24 = .ok (.aload_n 0, 1) := by decide +kernel
theorem dX6_run_25 : decode cX6_run 25 = .ok (.aload_n 0, 1) := by decide +kernel
theorem dX6_run_26 : decode cX6_run 26 = .ok (.getfield 40, 3) := by decide +kernel
theorem dX6_run_29 : decode cX6_run 29 = .ok (.iload_n 1, 1) := by decide +kernel
theorem dX6_run_30 : decode cX6_run 30 = .ok (.iaload, 1) := by decide +kernel
theorem dX6_run_31 : decode cX6_run 31 = .ok (.invokevirtual 131, 3) := by decide +kernel
theorem dX6_run_34 : decode cX6_run 34 = .ok (.ifCond .eq 7, 3) := by decide +kernel
theorem dX6_run_37 : decode cX6_run 37 = .ok (.iconst 2, 1) := by decide +kernel
theorem dX6_run_38 : decode cX6_run 38 = .ok (.goto 4, 3) := by decide +kernel
theorem dX6_run_41 : decode cX6_run 41 = .ok (.iconst 0, 1) := by decide +kernel
theorem dX6_run_42 : decode cX6_run 42 = .ok (.invokevirtual 103, 3) := by decide +kernel
theorem dX6_run_45 : decode cX6_run 45 = .ok (.ifCond .ne 5, 3) := by decide +kernel
theorem dX6_run_48 : decode cX6_run 48 = .ok (.iconst 0, 1) := by decide +kernel
theorem dX6_run_49 : decode cX6_run 49 = .ok (.ireturn, 1) := by decide +kernel
theorem dX6_run_50 : decode cX6_run 50 = .ok (.aload_n 0, 1) := by decide +kernel
theorem dX6_run_51 : decode cX6_run 51 = .ok (.iload_n 1, 1) := by decide +kernel
theorem dX6_run_52 : decode cX6_run 52 = .ok (.iconst 1, 1) := by decide +kernel
theorem dX6_run_53 : decode cX6_run 53 = .ok (.invokevirtual 162, 3) := by decide +kernel
theorem dX6_run_56 : decode cX6_run 56 = .ok (.aload_n 0, 1) := by decide +kernel
theorem dX6_run_57 : decode cX6_run 57 = .ok (.iload_n 1, 1) := by decide +kernel
theorem dX6_run_58 : decode cX6_run 58 = .ok (.invokevirtual 145, 3) := by decide +kernel
theorem dX6_run_61 : decode cX6_run 61 = .ok (.ireturn, 1) := by decide +kernel
theorem dX6_isSplice_0 : decode cX6_isSplice 0 = .ok (.aload_n 0, 1) := by decide +kernel
theorem dX6_isSplice_1 : decode cX6_isSplice 1 = .ok (.iload_n 1, 1) := by decide +kernel
theorem dX6_isSplice_2 : decode cX6_isSplice 2 = .ok (.invokevirtual 118, 3) := by decide +kernel
theorem dX6_isSplice_5 : decode cX6_isSplice 5 = .ok (.ifCond .eq 23, 3) := by decide +kernel
theorem dX6_isSplice_8 : decode cX6_isSplice 8 = .ok (.iload_n 2, 1) := by decide +kernel
theorem dX6_isSplice_9 : decode cX6_isSplice 9 = .ok (.iconst 0, 1) := by decide +kernel
theorem dX6_isSplice_10 : decode cX6_isSplice 10 = .ok (.aload_n 0, 1) := by decide +kernel
theorem dX6_isSplice_11 : decode cX6_isSplice 11 = .ok (.getfield 49, 3) := by decide +kernel
theorem dX6_isSplice_14 : decode cX6_isSplice 14 = .ok (.iload_n 1, 1) := by decide +kernel
theorem dX6_isSplice_15 : decode cX6_isSplice 15 = .ok (.iaload, 1) := by decide +kernel
theorem dX6_isSplice_16 : decode cX6_isSplice 16 = .ok (.iconst 2, 1) := by decide +kernel
theorem dX6_isSplice_17 : decode cX6_isSplice 17 = .ok (.isub, 1) := by decide +kernel
theorem dX6_isSplice_18 : decode cX6_isSplice 18 = .ok (.invokestatic 87, 3) := by decide +kernel
theorem dX6_isSplice_21 : decode cX6_isSplice 21 = .ok (.ifCond .eq 7, 3) := by decide +kernel
theorem dX6_isSplice_24 : decode cX6_isSplice 24 = .ok (.iconst 1, 1) := by decide +kernel
theorem dX6_isSplice_25 : decode cX6_isSplice 25 = .ok (.goto 4, 3) := by decide +kernel
theorem dX6_isSplice_28 : decode cX6_isSplice 28 = .ok (.iconst 0, 1) := by decide +kernel
theorem dX6_isSplice_29 : decode cX6_isSplice 29 = .ok (.ireturn, 1) := by decide +kernel
theorem dX6_wear_0 : decode cX6_wear 0 = .ok (.aload_n 0, 1) := by decide +kernel
theorem dX6_wear_1 : decode cX6_wear 1 = .ok (.aload_n 0, 1) := by decide +kernel
theorem dX6_wear_2 : decode cX6_wear 2 = .ok (.iload_n 1, 1) := by decide +kernel
theorem dX6_wear_3 : decode cX6_wear 3 = .ok (.iload_n 2, 1) := by decide +kernel
theorem dX6_wear_4 : decode cX6_wear 4 = .ok (.invokevirtual 166, 3) := by decide +kernel
theorem dX6_wear_7 : decode cX6_wear 7 = .ok (.ifCond .eq 7, 3) := by decide +kernel
theorem dX6_wear_10 : decode cX6_wear 10 = .ok (.iconst 0, 1) := by decide +kernel
theorem dX6_wear_11 : decode cX6_wear 11 = .ok (.goto 4, 3) := by decide +kernel
theorem dX6_wear_14 : decode cX6_wear 14 = .ok (.iconst 1, 1) := by decide +kernel
theorem dX6_wear_15 : decode cX6_wear 15 = .ok (.invokevirtual 103, 3) := by decide +kernel
theorem dX6_wear_18 : decode cX6_wear 18 = .ok (.ifCond .eq 17, 3) := by decide +kernel
theorem dX6_wear_21 : decode cX6_wear 21 = .ok (.aload_n 0, 1) := by decide +kernel
theorem dX6_wear_22 : decode cX6_wear 22 = .ok (.getfield 46, 3) := by decide +kernel
theorem dX6_wear_25 : decode cX6_wear 25 = .ok (.bipush 60, 2) := by decide +kernel
theorem dX6_wear_27 : decode cX6_wear 27 = .ok (.iload_n 1, 1) := by decide +kernel
theorem dX6_wear_28 : decode cX6_wear 28 = .ok (.imul, 1) := by decide +kernel
theorem dX6_wear_29 : decode cX6_wear 29 = .ok (.iload_n 2, 1) := by decide +kernel
theorem dX6_wear_30 : decode cX6_wear 30 = .ok (.iadd, 1) := by decide +kernel
theorem dX6_wear_31 : decode cX6_wear 31 = .ok (.iaload, 1) := by decide +kernel
theorem dX6_wear_32 : decode cX6_wear 32 = .ok (.goto 4, 3) := by decide +kernel
theorem dX6_wear_35 : decode cX6_wear 35 = .ok (.iconst 0, 1) := by decide +kernel
theorem dX6_wear_36 : decode cX6_wear 36 = .ok (.ireturn, 1) := by decide +kernel
theorem dX6_mend_0 : decode cX6_mend 0 = .ok (.aload_n 0, 1) := by decide +kernel
theorem dX6_mend_1 : decode cX6_mend 1 = .ok (.iload_n 1, 1) := by decide +kernel
theorem dX6_mend_2 : decode cX6_mend 2 = .ok (.iload_n 2, 1) := by decide +kernel
theorem dX6_mend_3 : decode cX6_mend 3 = .ok (.invokevirtual 166, 3) := by decide +kernel
theorem dX6_mend_6 : decode cX6_mend 6 = .ok (.istore_n 3, 1) := by decide +kernel
theorem dX6_mend_7 : decode cX6_mend 7 = .ok (.iload_n 3, 1) := by decide +kernel
theorem dX6_mend_8 : decode cX6_mend 8 = .ok (.ifCond .eq 17, 3) := by decide +kernel
theorem dX6_mend_11 : decode cX6_mend 11 = .ok (.aload_n 0, 1) := by decide +kernel
theorem dX6_mend_12 : decode cX6_mend 12 = .ok (.getfield 43, 3) := by decide +kernel
theorem dX6_mend_15 : decode cX6_mend 15 = .ok (.bipush 60, 2) := by decide +kernel
theorem dX6_mend_17 : decode cX6_mend 17 = .ok (.iload_n 1, 1) := by decide +kernel
theorem dX6_mend_18 : decode cX6_mend 18 = .ok (.imul, 1) := by decide +kernel
theorem dX6_mend_19 : decode cX6_mend 19 = .ok (.iload_n 2, 1) := by decide +kernel
theorem dX6_mend_20 : decode cX6_mend 20 = .ok (.iadd, 1) := by decide +kernel
theorem dX6_mend_21 : decode cX6_mend 21 = .ok (.iaload, 1) := by decide +kernel
theorem dX6_mend_22 : decode cX6_mend 22 = .ok (.goto 4, 3) := by decide +kernel
theorem dX6_mend_25 : decode cX6_mend 25 = .ok (.iconst 0, 1) := by decide +kernel
theorem dX6_mend_26 : decode cX6_mend 26 = .ok (.istore 4, 2) := by decide +kernel
theorem dX6_mend_28 : decode cX6_mend 28 = .ok (.aload_n 0, 1) := by decide +kernel
theorem dX6_mend_29 : decode cX6_mend 29 = .ok (.iload_n 3, 1) := by decide +kernel
theorem dX6_mend_30 : decode cX6_mend 30 = .ok (.ifCond .ne 7, 3) := by decide +kernel
theorem dX6_mend_33 : decode cX6_mend 33 = .ok (.iconst 1, 1) := by decide +kernel
theorem dX6_mend_34 : decode cX6_mend 34 = .ok (.goto 32, 3) := by decide +kernel
theorem dX6_mend_37 : decode cX6_mend 37 = .ok (.aload_n 0, 1) := by decide +kernel
theorem dX6_mend_38 : decode cX6_mend 38 = .ok (.getfield 19, 3) := by decide +kernel
theorem dX6_mend_41 : decode cX6_mend 41 = .ok (.iload 4, 2) := by decide +kernel
theorem dX6_mend_43 : decode cX6_mend 43 = .ok (.iaload, 1) := by decide +kernel
theorem dX6_mend_44 : decode cX6_mend 44 = .ok (.iconst 2, 1) := by decide +kernel
theorem dX6_mend_45 : decode cX6_mend 45 = .ok (.if_icmp .lt 16, 3) := by decide +kernel
theorem dX6_mend_48 : decode cX6_mend 48 = .ok (.aload_n 0, 1) := by decide +kernel
theorem dX6_mend_49 : decode cX6_mend 49 = .ok (.aload_n 0, 1) := by decide +kernel
theorem dX6_mend_50 : decode cX6_mend 50 = .ok (.getfield 40, 3) := by decide +kernel
theorem dX6_mend_53 : decode cX6_mend 53 = .ok (.iload_n 1, 1) := by decide +kernel
theorem dX6_mend_54 : decode cX6_mend 54 = .ok (.iaload, 1) := by decide +kernel
theorem dX6_mend_55 : decode cX6_mend 55 = .ok (.invokevirtual 131, 3) := by decide +kernel
theorem dX6_mend_58 : decode cX6_mend 58 = .ok (.ifCond .eq 7, 3) := by decide +kernel
theorem dX6_mend_61 : decode cX6_mend 61 = .ok (.iconst 2, 1) := by decide +kernel
theorem dX6_mend_62 : decode cX6_mend 62 = .ok (.goto 4, 3) := by decide +kernel
theorem dX6_mend_65 : decode cX6_mend 65 = .ok (.iconst 0, 1) := by decide +kernel
theorem dX6_mend_66 : decode cX6_mend 66 = .ok (.invokevirtual 103, 3) := by decide +kernel
theorem dX6_mend_69 : decode cX6_mend 69 = .ok (.ifCond .ne 5, 3) := by decide +kernel
theorem dX6_mend_72 : decode cX6_mend 72 = .ok (.iconst 0, 1) := by decide +kernel
theorem dX6_mend_73 : decode cX6_mend 73 = .ok (.ireturn, 1) := by decide +kernel
theorem dX6_mend_74 : decode cX6_mend 74 = .ok (.aload_n 0, 1) := by decide +kernel
theorem dX6_mend_75 : decode cX6_mend 75 = .ok (.getfield 46, 3) := by decide +kernel
theorem dX6_mend_78 : decode cX6_mend 78 = .ok (.bipush 60, 2) := by decide +kernel
theorem dX6_mend_80 : decode cX6_mend 80 = .ok (.iload_n 1, 1) := by decide +kernel
theorem dX6_mend_81 : decode cX6_mend 81 = .ok (.imul, 1) := by decide +kernel
theorem dX6_mend_82 : decode cX6_mend 82 = .ok (.iload_n 2, 1) := by decide +kernel
theorem dX6_mend_83 : decode cX6_mend 83 = .ok (.iadd, 1) := by decide +kernel
theorem dX6_mend_84 : decode cX6_mend 84 = .ok (.iaload, 1) := by decide +kernel
theorem dX6_mend_85 : decode cX6_mend 85 = .ok (.istore 5, 2) := by decide +kernel
theorem dX6_mend_87 : decode cX6_mend 87 = .ok (.aload_n 0, 1) := by decide +kernel
theorem dX6_mend_88 : decode cX6_mend 88 = .ok (.getfield 46, 3) := by decide +kernel
theorem dX6_mend_91 : decode cX6_mend 91 = .ok (.bipush 60, 2) := by decide +kernel
theorem dX6_mend_93 : decode cX6_mend 93 = .ok (.iload_n 1, 1) := by decide +kernel
theorem dX6_mend_94 : decode cX6_mend 94 = .ok (.imul, 1) := by decide +kernel
theorem dX6_mend_95 : decode cX6_mend 95 = .ok (.iload_n 2, 1) := by decide +kernel
theorem dX6_mend_96 : decode cX6_mend 96 = .ok (.iadd, 1) := by decide +kernel
theorem dX6_mend_97 : decode cX6_mend 97 = .ok (.iconst 0, 1) := by decide +kernel
theorem dX6_mend_98 : decode cX6_mend 98 = .ok (.iastore, 1) := by decide +kernel
theorem dX6_mend_99 : decode cX6_mend 99 = .ok (.aload_n 0, 1) := by decide +kernel
theorem dX6_mend_100 : decode cX6_mend 100 = .ok (.getfield 19, 3) := by decide +kernel
theorem dX6_mend_103 : decode cX6_mend 103 = .ok (.iload 4, 2) := by decide +kernel
theorem dX6_mend_105 : decode cX6_mend 105 = .ok (.dup2, 1) := by decide +kernel
theorem dX6_mend_106 : decode cX6_mend 106 = .ok (.iaload, 1) := by decide +kernel
theorem dX6_mend_107 : decode cX6_mend 107 = .ok (.iconst 1, 1) := by decide +kernel
theorem dX6_mend_108 : decode cX6_mend 108 = .ok (.isub, 1) := by decide +kernel
theorem dX6_mend_109 : decode cX6_mend 109 = .ok (.iastore, 1) := by decide +kernel
theorem dX6_mend_110 : decode cX6_mend 110 = .ok (.iconst 0, 1) := by decide +kernel
theorem dX6_mend_111 : decode cX6_mend 111 = .ok (.istore 6, 2) := by decide +kernel
theorem dX6_mend_113 : decode cX6_mend 113 = .ok (.iload 6, 2) := by decide +kernel
theorem dX6_mend_115 : decode cX6_mend 115 = .ok (.aload_n 0, 1) := by decide +kernel
theorem dX6_mend_116 : decode cX6_mend 116 = .ok (.getfield 97, 3) := by decide +kernel
theorem dX6_mend_119 : decode cX6_mend 119 = .ok (.if_icmp .ge 57, 3) := by decide +kernel
theorem dX6_mend_122 : decode cX6_mend 122 = .ok (.bipush 32, 2) := by decide +kernel
theorem dX6_mend_124 : decode cX6_mend 124 = .ok (.bipush 60, 2) := by decide +kernel
theorem dX6_mend_126 : decode cX6_mend 126 = .ok (.iload 6, 2) := by decide +kernel
theorem dX6_mend_128 : decode cX6_mend 128 = .ok (.imul, 1) := by decide +kernel
theorem dX6_mend_129 : decode cX6_mend 129 = .ok (.iload 4, 2) := by decide +kernel
theorem dX6_mend_131 : decode cX6_mend 131 = .ok (.iadd, 1) := by decide +kernel
theorem dX6_mend_132 : decode cX6_mend 132 = .ok (.imul, 1) := by decide +kernel
theorem dX6_mend_133 : decode cX6_mend 133 = .ok (.aload_n 0, 1) := by decide +kernel
theorem dX6_mend_134 : decode cX6_mend 134 = .ok (.getfield 19, 3) := by decide +kernel
theorem dX6_mend_137 : decode cX6_mend 137 = .ok (.iload 4, 2) := by decide +kernel
theorem dX6_mend_139 : decode cX6_mend 139 = .ok (.iaload, 1) := by decide +kernel
theorem dX6_mend_140 : decode cX6_mend 140 = .ok (.bipush 32, 2) := by decide +kernel
theorem dX6_mend_142 : decode cX6_mend 142 = .ok (.idiv, 1) := by decide +kernel
theorem dX6_mend_143 : decode cX6_mend 143 = .ok (.iadd, 1) := by decide +kernel
theorem dX6_mend_144 : decode cX6_mend 144 = .ok (.istore 7, 2) := by decide +kernel
theorem dX6_mend_146 : decode cX6_mend 146 = .ok (.aload_n 0, 1) := by decide +kernel
theorem dX6_mend_147 : decode cX6_mend 147 = .ok (.getfield 62, 3) := by decide +kernel
theorem dX6_mend_150 : decode cX6_mend 150 = .ok (.iload 7, 2) := by decide +kernel
theorem dX6_mend_152 : decode cX6_mend 152 = .ok (.dup2, 1) := by decide +kernel
theorem dX6_mend_153 : decode cX6_mend 153 = .ok (.iaload, 1) := by decide +kernel
theorem dX6_mend_154 : decode cX6_mend 154 = .ok (.iconst 1, 1) := by decide +kernel
theorem dX6_mend_155 : decode cX6_mend 155 = .ok (.aload_n 0, 1) := by decide +kernel
theorem dX6_mend_156 : decode cX6_mend 156 = .ok (.getfield 19, 3) := by decide +kernel
theorem dX6_mend_159 : decode cX6_mend 159 = .ok (.iload 4, 2) := by decide +kernel
theorem dX6_mend_161 : decode cX6_mend 161 = .ok (.iaload, 1) := by decide +kernel
theorem dX6_mend_162 : decode cX6_mend 162 = .ok (.bipush 32, 2) := by decide +kernel
theorem dX6_mend_164 : decode cX6_mend 164 = .ok (.irem, 1) := by decide +kernel
theorem dX6_mend_165 : decode cX6_mend 165 = .ok (.ishl, 1) := by decide +kernel
theorem dX6_mend_166 : decode cX6_mend 166 = .ok (.iconst (-1), 1) := by decide +kernel
theorem dX6_mend_167 : decode cX6_mend 167 = .ok (.ixor, 1) := by decide +kernel
theorem dX6_mend_168 : decode cX6_mend 168 = .ok (.iand, 1) := by decide +kernel
theorem dX6_mend_169 : decode cX6_mend 169 = .ok (.iastore, 1) := by decide +kernel
theorem dX6_mend_170 : decode cX6_mend 170 = .ok (.iinc 6 1, 3) := by decide +kernel
theorem dX6_mend_173 : decode cX6_mend 173 = .ok (.goto (-60), 3) := by decide +kernel
theorem dX6_mend_176 : decode cX6_mend 176 = .ok (.aload_n 0, 1) := by decide +kernel
theorem dX6_mend_177 : decode cX6_mend 177 = .ok (.getfield 31, 3) := by decide +kernel
theorem dX6_mend_180 : decode cX6_mend 180 = .ok (.iload 4, 2) := by decide +kernel
theorem dX6_mend_182 : decode cX6_mend 182 = .ok (.aload_n 0, 1) := by decide +kernel
theorem dX6_mend_183 : decode cX6_mend 183 = .ok (.getfield 31, 3) := by decide +kernel
theorem dX6_mend_186 : decode cX6_mend 186 = .ok (.iload 4, 2) := by decide +kernel
theorem dX6_mend_188 : decode cX6_mend 188 = .ok (.iaload, 1) := by decide +kernel
theorem dX6_mend_189 : decode cX6_mend 189 = .ok (.aload_n 0, 1) := by decide +kernel
theorem dX6_mend_190 : decode cX6_mend 190 = .ok (.getfield 19, 3) := by decide +kernel
theorem dX6_mend_193 : decode cX6_mend 193 = .ok (.iload 4, 2) := by decide +kernel
theorem dX6_mend_195 : decode cX6_mend 195 = .ok (.iaload, 1) := by decide +kernel
theorem dX6_mend_196 : decode cX6_mend 196 = .ok (.if_icmp .le 13, 3) := by decide +kernel
theorem dX6_mend_199 : decode cX6_mend 199 = .ok (.aload_n 0, 1) := by decide +kernel
theorem dX6_mend_200 : decode cX6_mend 200 = .ok (.getfield 19, 3) := by decide +kernel
theorem dX6_mend_203 : decode cX6_mend 203 = .ok (.iload 4, 2) := by decide +kernel
theorem dX6_mend_205 : decode cX6_mend 205 = .ok (.iaload, 1) := by decide +kernel
theorem dX6_mend_206 : decode cX6_mend 206 = .ok (.goto 10, 3) := by decide +kernel
theorem dX6_mend_209 : decode cX6_mend 209 = .ok (.aload_n 0, 1) := by decide +kernel
theorem dX6_mend_210 : decode cX6_mend 210 = .ok (.getfield 31, 3) := by decide +kernel
theorem dX6_mend_213 : decode cX6_mend 213 = .ok (.iload 4, 2) := by decide +kernel
theorem dX6_mend_215 : decode cX6_mend 215 = .ok (.iaload, 1) := by decide +kernel
theorem dX6_mend_216 : decode cX6_mend 216 = .ok (.iastore, 1) := by decide +kernel
theorem dX6_mend_217 : decode cX6_mend 217 = .ok (.iload 5, 2) := by decide +kernel
theorem dX6_mend_219 : decode cX6_mend 219 = .ok (.ireturn, 1) := by decide +kernel
theorem dX6_isWorn_0 : decode cX6_isWorn 0 = .ok (.iload_n 2, 1) := by decide +kernel
theorem dX6_isWorn_1 : decode cX6_isWorn 1 = .ok (.iconst 0, 1) := by decide +kernel
theorem dX6_isWorn_2 : decode cX6_isWorn 2 = .ok (.aload_n 0, 1) := by decide +kernel
theorem dX6_isWorn_3 : decode cX6_isWorn 3 = .ok (.getfield 49, 3) := by decide +kernel
theorem dX6_isWorn_6 : decode cX6_isWorn 6 = .ok (.iload_n 1, 1) := by decide +kernel
theorem dX6_isWorn_7 : decode cX6_isWorn 7 = .ok (.iaload, 1) := by decide +kernel
theorem dX6_isWorn_8 : decode cX6_isWorn 8 = .ok (.iconst 2, 1) := by decide +kernel
theorem dX6_isWorn_9 : decode cX6_isWorn 9 = .ok (.isub, 1) := by decide +kernel
theorem dX6_isWorn_10 : decode cX6_isWorn 10 = .ok (.invokestatic 87, 3) := by decide +kernel
theorem dX6_isWorn_13 : decode cX6_isWorn 13 = .ok (.ifCond .eq 27, 3) := by decide +kernel
theorem dX6_isWorn_16 : decode cX6_isWorn 16 = .ok (.iconst 2, 1) := by decide +kernel
theorem dX6_isWorn_17 : decode cX6_isWorn 17 = .ok (.aload_n 0, 1) := by decide +kernel
theorem dX6_isWorn_18 : decode cX6_isWorn 18 = .ok (.getfield 46, 3) := by decide +kernel
theorem dX6_isWorn_21 : decode cX6_isWorn 21 = .ok (.bipush 60, 2) := by decide +kernel
theorem dX6_isWorn_23 : decode cX6_isWorn 23 = .ok (.iload_n 1, 1) := by decide +kernel
theorem dX6_isWorn_24 : decode cX6_isWorn 24 = .ok (.imul, 1) := by decide +kernel
theorem dX6_isWorn_25 : decode cX6_isWorn 25 = .ok (.iload_n 2, 1) := by decide +kernel
theorem dX6_isWorn_26 : decode cX6_isWorn 26 = .ok (.iadd, 1) := by decide +kernel
theorem dX6_isWorn_27 : decode cX6_isWorn 27 = .ok (.iaload, 1) := by decide +kernel
theorem dX6_isWorn_28 : decode cX6_isWorn 28 = .ok (.imul, 1) := by decide +kernel
theorem dX6_isWorn_29 : decode cX6_isWorn 29 = .ok (.aload_n 0, 1) := by decide +kernel
theorem dX6_isWorn_30 : decode cX6_isWorn 30 = .ok (.getfield 52, 3) := by decide +kernel
theorem dX6_isWorn_33 : decode cX6_isWorn 33 = .ok (.if_icmp .lt 7, 3) := by decide +kernel
theorem dX6_isWorn_36 : decode cX6_isWorn 36 = .ok (.iconst 1, 1) := by decide +kernel
theorem dX6_isWorn_37 : decode cX6_isWorn 37 = .ok (.goto 4, 3) := by decide +kernel
theorem dX6_isWorn_40 : decode cX6_isWorn 40 = .ok (.iconst 0, 1) := by decide +kernel
theorem dX6_isWorn_41 : decode cX6_isWorn 41 = .ok (.ireturn, 1) := by decide +kernel
theorem dX6_scan_0 : decode cX6_scan 0 = .ok (.aload_n 0, 1) := by decide +kernel
theorem dX6_scan_1 : decode cX6_scan 1 = .ok (.iload_n 1, 1) := by decide +kernel
theorem dX6_scan_2 : decode cX6_scan 2 = .ok (.invokevirtual 118, 3) := by decide +kernel
theorem dX6_scan_5 : decode cX6_scan 5 = .ok (.istore_n 3, 1) := by decide +kernel
theorem dX6_scan_6 : decode cX6_scan 6 = .ok (.aload_n 0, 1) := by decide +kernel
theorem dX6_scan_7 : decode cX6_scan 7 = .ok (.iload_n 3, 1) := by decide +kernel
theorem dX6_scan_8 : decode cX6_scan 8 = .ok (.ifCond .ne 7, 3) := by decide +kernel
theorem dX6_scan_11 : decode cX6_scan 11 = .ok (.iconst 1, 1) := by decide +kernel
theorem dX6_scan_12 : decode cX6_scan 12 = .ok (.goto 43, 3) := by decide +kernel
theorem dX6_scan_15 : decode cX6_scan 15 = .ok (.iload_n 2, 1) := by decide +kernel
theorem dX6_scan_16 : decode cX6_scan 16 = .ok (.iconst 1, 1) := by decide +kernel
theorem dX6_scan_17 : decode cX6_scan 17 = .ok (.iconst 4, 1) := by decide +kernel
theorem dX6_scan_18 : decode cX6_scan 18 = .ok (.invokestatic 87, 3) := by decide +kernel
theorem dX6_scan_21 : decode cX6_scan 21 = .ok (.ifCond .ne 7, 3) := by decide +kernel
theorem dX6_scan_24 : decode cX6_scan 24 = .ok (.iconst 2, 1) := by decide +kernel
theorem dX6_scan_25 : decode cX6_scan 25 = .ok (.goto 30, 3) := by decide +kernel
theorem dX6_scan_28 : decode cX6_scan 28 = .ok (.aload_n 0, 1) := by decide +kernel
theorem dX6_scan_29 : decode cX6_scan 29 = .ok (.getfield 49, 3) := by decide +kernel
theorem dX6_scan_32 : decode cX6_scan 32 = .ok (.iload_n 1, 1) := by decide +kernel
theorem dX6_scan_33 : decode cX6_scan 33 = .ok (.iaload, 1) := by decide +kernel
theorem dX6_scan_34 : decode cX6_scan 34 = .ok (.ifCond .eq 16, 3) := by decide +kernel
theorem dX6_scan_37 : decode cX6_scan 37 = .ok (.aload_n 0, 1) := by decide +kernel
theorem dX6_scan_38 : decode cX6_scan 38 = .ok (.aload_n 0, 1) := by decide +kernel
theorem dX6_scan_39 : decode cX6_scan 39 = .ok (.getfield 40, 3) := by decide +kernel
theorem dX6_scan_42 : decode cX6_scan 42 = .ok (.iload_n 1, 1) := by decide +kernel
theorem dX6_scan_43 : decode cX6_scan 43 = .ok (.iaload, 1) := by decide +kernel
theorem dX6_scan_44 : decode cX6_scan 44 = .ok (.invokevirtual 131, 3) := by decide +kernel
theorem dX6_scan_47 : decode cX6_scan 47 = .ok (.ifCond .eq 7, 3) := by decide +kernel
theorem dX6_scan_50 : decode cX6_scan 50 = .ok (.iconst 3, 1) := by decide +kernel
theorem dX6_scan_51 : decode cX6_scan 51 = .ok (.goto 4, 3) := by decide +kernel
theorem dX6_scan_54 : decode cX6_scan 54 = .ok (.iconst 0, 1) := by decide +kernel
theorem dX6_scan_55 : decode cX6_scan 55 = .ok (.invokevirtual 103, 3) := by decide +kernel
theorem dX6_scan_58 : decode cX6_scan 58 = .ok (.ifCond .ne 5, 3) := by decide +kernel
theorem dX6_scan_61 : decode cX6_scan 61 = .ok (.iconst 0, 1) := by decide +kernel
theorem dX6_scan_62 : decode cX6_scan 62 = .ok (.ireturn, 1) := by decide +kernel
theorem dX6_scan_63 : decode cX6_scan 63 = .ok (.iconst 0, 1) := by decide +kernel
theorem dX6_scan_64 : decode cX6_scan 64 = .ok (.istore 4, 2) := by decide +kernel
theorem dX6_scan_66 : decode cX6_scan 66 = .ok (.iconst 0, 1) := by decide +kernel
theorem dX6_scan_67 : decode cX6_scan 67 = .ok (.istore 5, 2) := by decide +kernel
theorem dX6_scan_69 : decode cX6_scan 69 = .ok (.iload 5, 2) := by decide +kernel
theorem dX6_scan_71 : decode cX6_scan 71 = .ok (.aload_n 0, 1) := by decide +kernel
theorem dX6_scan_72 : decode cX6_scan 72 = .ok (.getfield 49, 3) := by decide +kernel
theorem dX6_scan_75 : decode cX6_scan 75 = .ok (.iload_n 1, 1) := by decide +kernel
theorem dX6_scan_76 : decode cX6_scan 76 = .ok (.iaload, 1) := by decide +kernel
theorem dX6_scan_77 : decode cX6_scan 77 = .ok (.if_icmp .ge 119, 3) := by decide +kernel
theorem dX6_scan_80 : decode cX6_scan 80 = .ok (.aload_n 0, 1) := by decide +kernel
theorem dX6_scan_81 : decode cX6_scan 81 = .ok (.getfield 43, 3) := by decide +kernel
theorem dX6_scan_84 : decode cX6_scan 84 = .ok (.bipush 60, 2) := by decide +kernel
theorem dX6_scan_86 : decode cX6_scan 86 = .ok (.iload_n 1, 1) := by decide +kernel
theorem dX6_scan_87 : decode cX6_scan 87 = .ok (.imul, 1) := by decide +kernel
theorem dX6_scan_88 : decode cX6_scan 88 = .ok (.iload 5, 2) := by decide +kernel
theorem dX6_scan_90 : decode cX6_scan 90 = .ok (.iadd, 1) := by decide +kernel
theorem dX6_scan_91 : decode cX6_scan 91 = .ok (.iaload, 1) := by decide +kernel
theorem dX6_scan_92 : decode cX6_scan 92 = .ok (.istore 6, 2) := by decide +kernel
theorem dX6_scan_94 : decode cX6_scan 94 = .ok (.aload_n 0, 1) := by decide +kernel
theorem dX6_scan_95 : decode cX6_scan 95 = .ok (.iload_n 1, 1) := by decide +kernel
theorem dX6_scan_96 : decode cX6_scan 96 = .ok (.iload 5, 2) := by decide +kernel
theorem dX6_scan_98 : decode cX6_scan 98 = .ok (.invokevirtual 169, 3) := by decide +kernel
theorem dX6_scan_101 : decode cX6_scan 101 = .ok (.ifCond .eq 7, 3) := by decide +kernel
theorem dX6_scan_104 : decode cX6_scan 104 = .ok (.iconst 1, 1) := by decide +kernel
theorem dX6_scan_105 : decode cX6_scan 105 = .ok (.goto 4, 3) := by decide +kernel
theorem dX6_scan_108 : decode cX6_scan 108 = .ok (.iconst 0, 1) := by decide +kernel
theorem dX6_scan_109 : decode cX6_scan 109 = .ok (.aload_n 0, 1) := by decide +kernel
theorem dX6_scan_110 : decode cX6_scan 110 = .ok (.iload_n 1, 1) := by decide +kernel
theorem dX6_scan_111 : decode cX6_scan 111 = .ok (.iload 5, 2) := by decide +kernel
theorem dX6_scan_113 : decode cX6_scan 113 = .ok (.iconst 1, 1) := by decide +kernel
theorem dX6_scan_114 : decode cX6_scan 114 = .ok (.isub, 1) := by decide +kernel
theorem dX6_scan_115 : decode cX6_scan 115 = .ok (.invokevirtual 169, 3) := by decide +kernel
theorem dX6_scan_118 : decode cX6_scan 118 = .ok (.ifCond .eq 7, 3) := by decide +kernel
theorem dX6_scan_121 : decode cX6_scan 121 = .ok (.iconst 1, 1) := by decide +kernel
theorem dX6_scan_122 : decode cX6_scan 122 = .ok (.goto 4, 3) := by decide +kernel
theorem dX6_scan_125 : decode cX6_scan 125 = .ok (.iconst 0, 1) := by decide +kernel
theorem dX6_scan_126 : decode cX6_scan 126 = .ok (.iadd, 1) := by decide +kernel
theorem dX6_scan_127 : decode cX6_scan 127 = .ok (.istore 7, 2) := by decide +kernel
theorem dX6_scan_129 : decode cX6_scan 129 = .ok (.iload 7, 2) := by decide +kernel
theorem dX6_scan_131 : decode cX6_scan 131 = .ok (.aload_n 0, 1) := by decide +kernel
theorem dX6_scan_132 : decode cX6_scan 132 = .ok (.getfield 19, 3) := by decide +kernel
theorem dX6_scan_135 : decode cX6_scan 135 = .ok (.iload 6, 2) := by decide +kernel
theorem dX6_scan_137 : decode cX6_scan 137 = .ok (.iaload, 1) := by decide +kernel
theorem dX6_scan_138 : decode cX6_scan 138 = .ok (.if_icmp .le 13, 3) := by decide +kernel
theorem dX6_scan_141 : decode cX6_scan 141 = .ok (.aload_n 0, 1) := by decide +kernel
theorem dX6_scan_142 : decode cX6_scan 142 = .ok (.getfield 19, 3) := by decide +kernel
theorem dX6_scan_145 : decode cX6_scan 145 = .ok (.iload 6, 2) := by decide +kernel
theorem dX6_scan_147 : decode cX6_scan 147 = .ok (.iaload, 1) := by decide +kernel
theorem dX6_scan_148 : decode cX6_scan 148 = .ok (.goto 5, 3) := by decide +kernel
theorem dX6_scan_151 : decode cX6_scan 151 = .ok (.iload 7, 2) := by decide +kernel
theorem dX6_scan_153 : decode cX6_scan 153 = .ok (.istore 7, 2) := by decide +kernel
theorem dX6_scan_155 : decode cX6_scan 155 = .ok (.iload 4, 2) := by decide +kernel
theorem dX6_scan_157 : decode cX6_scan 157 = .ok (.iload 7, 2) := by decide +kernel
theorem dX6_scan_159 : decode cX6_scan 159 = .ok (.iadd, 1) := by decide +kernel
theorem dX6_scan_160 : decode cX6_scan 160 = .ok (.istore 4, 2) := by decide +kernel
theorem dX6_scan_162 : decode cX6_scan 162 = .ok (.iload_n 2, 1) := by decide +kernel
theorem dX6_scan_163 : decode cX6_scan 163 = .ok (.aload_n 0, 1) := by decide +kernel
theorem dX6_scan_164 : decode cX6_scan 164 = .ok (.getfield 28, 3) := by decide +kernel
theorem dX6_scan_167 : decode cX6_scan 167 = .ok (.iload 6, 2) := by decide +kernel
theorem dX6_scan_169 : decode cX6_scan 169 = .ok (.iaload, 1) := by decide +kernel
theorem dX6_scan_170 : decode cX6_scan 170 = .ok (.if_icmp .lt 20, 3) := by decide +kernel
theorem dX6_scan_173 : decode cX6_scan 173 = .ok (.aload_n 0, 1) := by decide +kernel
theorem dX6_scan_174 : decode cX6_scan 174 = .ok (.getfield 28, 3) := by decide +kernel
theorem dX6_scan_177 : decode cX6_scan 177 = .ok (.iload 6, 2) := by decide +kernel
theorem dX6_scan_179 : decode cX6_scan 179 = .ok (.iload_n 2, 1) := by decide +kernel
theorem dX6_scan_180 : decode cX6_scan 180 = .ok (.iastore, 1) := by decide +kernel
theorem dX6_scan_181 : decode cX6_scan 181 = .ok (.aload_n 0, 1) := by decide +kernel
theorem dX6_scan_182 : decode cX6_scan 182 = .ok (.getfield 31, 3) := by decide +kernel
theorem dX6_scan_185 : decode cX6_scan 185 = .ok (.iload 6, 2) := by decide +kernel
theorem dX6_scan_187 : decode cX6_scan 187 = .ok (.iload 7, 2) := by decide +kernel
theorem dX6_scan_189 : decode cX6_scan 189 = .ok (.iastore, 1) := by decide +kernel
theorem dX6_scan_190 : decode cX6_scan 190 = .ok (.iinc 5 1, 3) := by decide +kernel
theorem dX6_scan_193 : decode cX6_scan 193 = .ok (.goto (-124), 3) := by decide +kernel
theorem dX6_scan_196 : decode cX6_scan 196 = .ok (.iload 4, 2) := by decide +kernel
theorem dX6_scan_198 : decode cX6_scan 198 = .ok (.ireturn, 1) := by decide +kernel
theorem dX6_scanned_0 : decode cX6_scanned 0 = .ok (.aload_n 0, 1) := by decide +kernel
theorem dX6_scanned_1 : decode cX6_scanned 1 = .ok (.aload_n 0, 1) := by decide +kernel
theorem dX6_scanned_2 : decode cX6_scanned 2 = .ok (.iload_n 1, 1) := by decide +kernel
theorem dX6_scanned_3 : decode cX6_scanned 3 = .ok (.invokevirtual 121, 3) := by decide +kernel
theorem dX6_scanned_6 : decode cX6_scanned 6 = .ok (.ifCond .eq 7, 3) := by decide +kernel
theorem dX6_scanned_9 : decode cX6_scanned 9 = .ok (.iconst 0, 1) := by decide +kernel
theorem dX6_scanned_10 : decode cX6_scanned 10 = .ok (.goto 4, 3) := by decide +kernel
theorem dX6_scanned_13 : decode cX6_scanned 13 = .ok (.iconst 1, 1) := by decide +kernel
theorem dX6_scanned_14 : decode cX6_scanned 14 = .ok (.invokevirtual 103, 3) := by decide +kernel
theorem dX6_scanned_17 : decode cX6_scanned 17 = .ok (.ifCond .eq 12, 3) := by decide +kernel
theorem dX6_scanned_20 : decode cX6_scanned 20 = .ok (.aload_n 0, 1) := by decide +kernel
theorem dX6_scanned_21 : decode cX6_scanned 21 = .ok (.getfield 28, 3) := by decide +kernel
theorem dX6_scanned_24 : decode cX6_scanned 24 = .ok (.iload_n 1, 1) := by decide +kernel
theorem dX6_scanned_25 : decode cX6_scanned 25 = .ok (.iaload, 1) := by decide +kernel
theorem dX6_scanned_26 : decode cX6_scanned 26 = .ok (.goto 4, 3) := by decide +kernel
theorem dX6_scanned_29 : decode cX6_scanned 29 = .ok (.iconst 0, 1) := by decide +kernel
theorem dX6_scanned_30 : decode cX6_scanned 30 = .ok (.ireturn, 1) := by decide +kernel
theorem dX6_missed_0 : decode cX6_missed 0 = .ok (.aload_n 0, 1) := by decide +kernel
theorem dX6_missed_1 : decode cX6_missed 1 = .ok (.aload_n 0, 1) := by decide +kernel
theorem dX6_missed_2 : decode cX6_missed 2 = .ok (.iload_n 1, 1) := by decide +kernel
theorem dX6_missed_3 : decode cX6_missed 3 = .ok (.invokevirtual 121, 3) := by decide +kernel
theorem dX6_missed_6 : decode cX6_missed 6 = .ok (.ifCond .eq 7, 3) := by decide +kernel
theorem dX6_missed_9 : decode cX6_missed 9 = .ok (.iconst 0, 1) := by decide +kernel
theorem dX6_missed_10 : decode cX6_missed 10 = .ok (.goto 4, 3) := by decide +kernel
theorem dX6_missed_13 : decode cX6_missed 13 = .ok (.iconst 1, 1) := by decide +kernel
theorem dX6_missed_14 : decode cX6_missed 14 = .ok (.invokevirtual 103, 3) := by decide +kernel
theorem dX6_missed_17 : decode cX6_missed 17 = .ok (.ifCond .eq 12, 3) := by decide +kernel
theorem dX6_missed_20 : decode cX6_missed 20 = .ok (.aload_n 0, 1) := by decide +kernel
theorem dX6_missed_21 : decode cX6_missed 21 = .ok (.getfield 31, 3) := by decide +kernel
theorem dX6_missed_24 : decode cX6_missed 24 = .ok (.iload_n 1, 1) := by decide +kernel
theorem dX6_missed_25 : decode cX6_missed 25 = .ok (.iaload, 1) := by decide +kernel
theorem dX6_missed_26 : decode cX6_missed 26 = .ok (.goto 4, 3) := by decide +kernel
theorem dX6_missed_29 : decode cX6_missed 29 = .ok (.iconst 0, 1) := by decide +kernel
theorem dX6_missed_30 : decode cX6_missed 30 = .ok (.ireturn, 1) := by decide +kernel
theorem dX6_gradeNow_0 : decode cX6_gradeNow 0 = .ok (.aload_n 0, 1) := by decide +kernel
theorem dX6_gradeNow_1 : decode cX6_gradeNow 1 = .ok (.getfield 34, 3) := by decide +kernel
theorem dX6_gradeNow_4 : decode cX6_gradeNow 4 = .ok (.iload_n 1, 1) := by decide +kernel
theorem dX6_gradeNow_5 : decode cX6_gradeNow 5 = .ok (.iaload, 1) := by decide +kernel
theorem dX6_gradeNow_6 : decode cX6_gradeNow 6 = .ok (.iconst (-1), 1) := by decide +kernel
theorem dX6_gradeNow_7 : decode cX6_gradeNow 7 = .ok (.if_icmp .eq 12, 3) := by decide +kernel
theorem dX6_gradeNow_10 : decode cX6_gradeNow 10 = .ok (.aload_n 0, 1) := by decide +kernel
theorem dX6_gradeNow_11 : decode cX6_gradeNow 11 = .ok (.getfield 34, 3) := by decide +kernel
theorem dX6_gradeNow_14 : decode cX6_gradeNow 14 = .ok (.iload_n 1, 1) := by decide +kernel
theorem dX6_gradeNow_15 : decode cX6_gradeNow 15 = .ok (.iaload, 1) := by decide +kernel
theorem dX6_gradeNow_16 : decode cX6_gradeNow 16 = .ok (.goto 28, 3) := by decide +kernel
theorem dX6_gradeNow_19 : decode cX6_gradeNow 19 = .ok (.aload_n 0, 1) := by decide +kernel
theorem dX6_gradeNow_20 : decode cX6_gradeNow 20 = .ok (.getfield 37, 3) := by decide +kernel
theorem dX6_gradeNow_23 : decode cX6_gradeNow 23 = .ok (.iload_n 1, 1) := by decide +kernel
theorem dX6_gradeNow_24 : decode cX6_gradeNow 24 = .ok (.iaload, 1) := by decide +kernel
theorem dX6_gradeNow_25 : decode cX6_gradeNow 25 = .ok (.iconst (-1), 1) := by decide +kernel
theorem dX6_gradeNow_26 : decode cX6_gradeNow 26 = .ok (.if_icmp .eq 17, 3) := by decide +kernel
theorem dX6_gradeNow_29 : decode cX6_gradeNow 29 = .ok (.aload_n 0, 1) := by decide +kernel
theorem dX6_gradeNow_30 : decode cX6_gradeNow 30 = .ok (.getfield 34, 3) := by decide +kernel
theorem dX6_gradeNow_33 : decode cX6_gradeNow 33 = .ok (.aload_n 0, 1) := by decide +kernel
theorem dX6_gradeNow_34 : decode cX6_gradeNow 34 = .ok (.getfield 37, 3) := by decide +kernel
theorem dX6_gradeNow_37 : decode cX6_gradeNow 37 = .ok (.iload_n 1, 1) := by decide +kernel
theorem dX6_gradeNow_38 : decode cX6_gradeNow 38 = .ok (.iaload, 1) := by decide +kernel
theorem dX6_gradeNow_39 : decode cX6_gradeNow 39 = .ok (.iaload, 1) := by decide +kernel
theorem dX6_gradeNow_40 : decode cX6_gradeNow 40 = .ok (.goto 4, 3) := by decide +kernel
theorem dX6_gradeNow_43 : decode cX6_gradeNow 43 = .ok (.iconst (-1), 1) := by decide +kernel
theorem dX6_gradeNow_44 : decode cX6_gradeNow 44 = .ok (.ireturn, 1) := by decide +kernel
theorem dX6_grade_0 : decode cX6_grade 0 = .ok (.aload_n 0, 1) := by decide +kernel
theorem dX6_grade_1 : decode cX6_grade 1 = .ok (.iload_n 1, 1) := by decide +kernel
theorem dX6_grade_2 : decode cX6_grade 2 = .ok (.invokevirtual 121, 3) := by decide +kernel
theorem dX6_grade_5 : decode cX6_grade 5 = .ok (.istore_n 3, 1) := by decide +kernel
theorem dX6_grade_6 : decode cX6_grade 6 = .ok (.aload_n 0, 1) := by decide +kernel
theorem dX6_grade_7 : decode cX6_grade 7 = .ok (.iload_n 3, 1) := by decide +kernel
theorem dX6_grade_8 : decode cX6_grade 8 = .ok (.ifCond .ne 7, 3) := by decide +kernel
theorem dX6_grade_11 : decode cX6_grade 11 = .ok (.iconst 1, 1) := by decide +kernel
theorem dX6_grade_12 : decode cX6_grade 12 = .ok (.goto 37, 3) := by decide +kernel
theorem dX6_grade_15 : decode cX6_grade 15 = .ok (.iload_n 2, 1) := by decide +kernel
theorem dX6_grade_16 : decode cX6_grade 16 = .ok (.iconst (-1), 1) := by decide +kernel
theorem dX6_grade_17 : decode cX6_grade 17 = .ok (.bipush 99, 2) := by decide +kernel
theorem dX6_grade_19 : decode cX6_grade 19 = .ok (.invokestatic 87, 3) := by decide +kernel
theorem dX6_grade_22 : decode cX6_grade 22 = .ok (.ifCond .ne 7, 3) := by decide +kernel
theorem dX6_grade_25 : decode cX6_grade 25 = .ok (.iconst 2, 1) := by decide +kernel
theorem dX6_grade_26 : decode cX6_grade 26 = .ok (.goto 23, 3) := by decide +kernel
theorem dX6_grade_29 : decode cX6_grade 29 = .ok (.iload_n 2, 1) := by decide +kernel
theorem dX6_grade_30 : decode cX6_grade 30 = .ok (.iconst (-1), 1) := by decide +kernel
theorem dX6_grade_31 : decode cX6_grade 31 = .ok (.if_icmp .ne 17, 3) := by decide +kernel
theorem dX6_grade_34 : decode cX6_grade 34 = .ok (.aload_n 0, 1) := by decide +kernel
theorem dX6_grade_35 : decode cX6_grade 35 = .ok (.getfield 34, 3) := by decide +kernel
theorem dX6_grade_38 : decode cX6_grade 38 = .ok (.iload_n 1, 1) := by decide +kernel
theorem dX6_grade_39 : decode cX6_grade 39 = .ok (.iaload, 1) := by decide +kernel
theorem dX6_grade_40 : decode cX6_grade 40 = .ok (.iconst (-1), 1) := by decide +kernel
theorem dX6_grade_41 : decode cX6_grade 41 = .ok (.if_icmp .ne 7, 3) := by decide +kernel
theorem dX6_grade_44 : decode cX6_grade 44 = .ok (.iconst 3, 1) := by decide +kernel
theorem dX6_grade_45 : decode cX6_grade 45 = .ok (.goto 4, 3) := by decide +kernel
theorem dX6_grade_48 : decode cX6_grade 48 = .ok (.iconst 0, 1) := by decide +kernel
theorem dX6_grade_49 : decode cX6_grade 49 = .ok (.invokevirtual 103, 3) := by decide +kernel
theorem dX6_grade_52 : decode cX6_grade 52 = .ok (.ifCond .ne 5, 3) := by decide +kernel
theorem dX6_grade_55 : decode cX6_grade 55 = .ok (.iconst 0, 1) := by decide +kernel
theorem dX6_grade_56 : decode cX6_grade 56 = .ok (.ireturn, 1) := by decide +kernel
theorem dX6_grade_57 : decode cX6_grade 57 = .ok (.aload_n 0, 1) := by decide +kernel
theorem dX6_grade_58 : decode cX6_grade 58 = .ok (.iload_n 1, 1) := by decide +kernel
theorem dX6_grade_59 : decode cX6_grade 59 = .ok (.invokevirtual 172, 3) := by decide +kernel
theorem dX6_grade_62 : decode cX6_grade 62 = .ok (.istore 4, 2) := by decide +kernel
theorem dX6_grade_64 : decode cX6_grade 64 = .ok (.aload_n 0, 1) := by decide +kernel
theorem dX6_grade_65 : decode cX6_grade 65 = .ok (.getfield 34, 3) := by decide +kernel
theorem dX6_grade_68 : decode cX6_grade 68 = .ok (.iload_n 1, 1) := by decide +kernel
theorem dX6_grade_69 : decode cX6_grade 69 = .ok (.iload_n 2, 1) := by decide +kernel
theorem dX6_grade_70 : decode cX6_grade 70 = .ok (.iastore, 1) := by decide +kernel
theorem dX6_grade_71 : decode cX6_grade 71 = .ok (.aload_n 0, 1) := by decide +kernel
theorem dX6_grade_72 : decode cX6_grade 72 = .ok (.getfield 37, 3) := by decide +kernel
theorem dX6_grade_75 : decode cX6_grade 75 = .ok (.iload_n 1, 1) := by decide +kernel
theorem dX6_grade_76 : decode cX6_grade 76 = .ok (.iconst (-1), 1) := by decide +kernel
theorem dX6_grade_77 : decode cX6_grade 77 = .ok (.iastore, 1) := by decide +kernel
theorem dX6_grade_78 : decode cX6_grade 78 = .ok (.iconst 0, 1) := by decide +kernel
theorem dX6_grade_79 : decode cX6_grade 79 = .ok (.istore 5, 2) := by decide +kernel
theorem dX6_grade_81 : decode cX6_grade 81 = .ok (.iload 5, 2) := by decide +kernel
theorem dX6_grade_83 : decode cX6_grade 83 = .ok (.aload_n 0, 1) := by decide +kernel
theorem dX6_grade_84 : decode cX6_grade 84 = .ok (.getfield 91, 3) := by decide +kernel
theorem dX6_grade_87 : decode cX6_grade 87 = .ok (.if_icmp .ge 43, 3) := by decide +kernel
theorem dX6_grade_90 : decode cX6_grade 90 = .ok (.aload_n 0, 1) := by decide +kernel
theorem dX6_grade_91 : decode cX6_grade 91 = .ok (.getfield 37, 3) := by decide +kernel
theorem dX6_grade_94 : decode cX6_grade 94 = .ok (.iload 5, 2) := by decide +kernel
theorem dX6_grade_96 : decode cX6_grade 96 = .ok (.iload_n 2, 1) := by decide +kernel
theorem dX6_grade_97 : decode cX6_grade 97 = .ok (.iconst (-1), 1) := by decide +kernel
theorem dX6_grade_98 : decode cX6_grade 98 = .ok (.if_icmp .ne 18, 3) := by decide +kernel
theorem dX6_grade_101 : decode cX6_grade 101 = .ok (.aload_n 0, 1) := by decide +kernel
theorem dX6_grade_102 : decode cX6_grade 102 = .ok (.getfield 37, 3) := by decide +kernel
theorem dX6_grade_105 : decode cX6_grade 105 = .ok (.iload 5, 2) := by decide +kernel
theorem dX6_grade_107 : decode cX6_grade 107 = .ok (.iaload, 1) := by decide +kernel
theorem dX6_grade_108 : decode cX6_grade 108 = .ok (.iload_n 1, 1) := by decide +kernel
theorem dX6_grade_109 : decode cX6_grade 109 = .ok (.if_icmp .ne 7, 3) := by decide +kernel
theorem dX6_grade_112 : decode cX6_grade 112 = .ok (.iconst (-1), 1) := by decide +kernel
theorem dX6_grade_113 : decode cX6_grade 113 = .ok (.goto 10, 3) := by decide +kernel
theorem dX6_grade_116 : decode cX6_grade 116 = .ok (.aload_n 0, 1) := by decide +kernel
theorem dX6_grade_117 : decode cX6_grade 117 = .ok (.getfield 37, 3) := by decide +kernel
theorem dX6_grade_120 : decode cX6_grade 120 = .ok (.iload 5, 2) := by decide +kernel
theorem dX6_grade_122 : decode cX6_grade 122 = .ok (.iaload, 1) := by decide +kernel
theorem dX6_grade_123 : decode cX6_grade 123 = .ok (.iastore, 1) := by decide +kernel
theorem dX6_grade_124 : decode cX6_grade 124 = .ok (.iinc 5 1, 3) := by decide +kernel
theorem dX6_grade_127 : decode cX6_grade 127 = .ok (.goto (-46), 3) := by decide +kernel
theorem dX6_grade_130 : decode cX6_grade 130 = .ok (.iload 4, 2) := by decide +kernel
theorem dX6_grade_132 : decode cX6_grade 132 = .ok (.ireturn, 1) := by decide +kernel
theorem dX6_passOn_0 : decode cX6_passOn 0 = .ok (.aload_n 0, 1) := by decide +kernel
theorem dX6_passOn_1 : decode cX6_passOn 1 = .ok (.iload_n 1, 1) := by decide +kernel
theorem dX6_passOn_2 : decode cX6_passOn 2 = .ok (.invokevirtual 121, 3) := by decide +kernel
theorem dX6_passOn_5 : decode cX6_passOn 5 = .ok (.istore_n 2, 1) := by decide +kernel
theorem dX6_passOn_6 : decode cX6_passOn 6 = .ok (.aload_n 0, 1) := by decide +kernel
theorem dX6_passOn_7 : decode cX6_passOn 7 = .ok (.iload_n 2, 1) := by decide +kernel
theorem dX6_passOn_8 : decode cX6_passOn 8 = .ok (.ifCond .ne 7, 3) := by decide +kernel
theorem dX6_passOn_11 : decode cX6_passOn 11 = .ok (.iconst 1, 1) := by decide +kernel
theorem dX6_passOn_12 : decode cX6_passOn 12 = .ok (.goto 18, 3) := by decide +kernel
theorem dX6_passOn_15 : decode cX6_passOn 15 = .ok (.aload_n 0, 1) := by decide +kernel
theorem dX6_passOn_16 : decode cX6_passOn 16 = .ok (.getfield 34, 3) := by decide +kernel
theorem dX6_passOn_19 : decode cX6_passOn 19 = .ok (.iload_n 1, 1) := by decide +kernel
theorem dX6_passOn_20 : decode cX6_passOn 20 = .ok (.iaload, 1) := by decide +kernel
theorem dX6_passOn_21 : decode cX6_passOn 21 = .ok (.iconst (-1), 1) := by decide +kernel
theorem dX6_passOn_22 : decode cX6_passOn 22 = .ok (.if_icmp .ne 7, 3) := by decide +kernel
theorem dX6_passOn_25 : decode cX6_passOn 25 = .ok (.iconst 2, 1) := by decide +kernel
theorem dX6_passOn_26 : decode cX6_passOn 26 = .ok (.goto 4, 3) := by decide +kernel
theorem dX6_passOn_29 : decode cX6_passOn 29 = .ok (.iconst 0, 1) := by decide +kernel
theorem dX6_passOn_30 : decode cX6_passOn 30 = .ok (.invokevirtual 103, 3) := by decide +kernel
theorem dX6_passOn_33 : decode cX6_passOn 33 = .ok (.ifCond .ne 5, 3) := by decide +kernel
theorem dX6_passOn_36 : decode cX6_passOn 36 = .ok (.iconst 0, 1) := by decide +kernel
theorem dX6_passOn_37 : decode cX6_passOn 37 = .ok (.ireturn, 1) := by decide +kernel
theorem dX6_passOn_38 : decode cX6_passOn 38 = .ok (.iconst 0, 1) := by decide +kernel
theorem dX6_passOn_39 : decode cX6_passOn 39 = .ok (.istore_n 3, 1) := by decide +kernel
theorem dX6_passOn_40 : decode cX6_passOn 40 = .ok (.iconst 0, 1) := by decide +kernel
theorem dX6_passOn_41 : decode cX6_passOn 41 = .ok (.istore 4, 2) := by decide +kernel
theorem dX6_passOn_43 : decode cX6_passOn 43 = .ok (.iload 4, 2) := by decide +kernel
theorem dX6_passOn_45 : decode cX6_passOn 45 = .ok (.aload_n 0, 1) := by decide +kernel
theorem dX6_passOn_46 : decode cX6_passOn 46 = .ok (.getfield 91, 3) := by decide +kernel
theorem dX6_passOn_49 : decode cX6_passOn 49 = .ok (.if_icmp .ge 69, 3) := by decide +kernel
theorem dX6_passOn_52 : decode cX6_passOn 52 = .ok (.iload 4, 2) := by decide +kernel
theorem dX6_passOn_54 : decode cX6_passOn 54 = .ok (.iload_n 1, 1) := by decide +kernel
theorem dX6_passOn_55 : decode cX6_passOn 55 = .ok (.if_icmp .eq 57, 3) := by decide +kernel
theorem dX6_passOn_58 : decode cX6_passOn 58 = .ok (.aload_n 0, 1) := by decide +kernel
theorem dX6_passOn_59 : decode cX6_passOn 59 = .ok (.getfield 16, 3) := by decide +kernel
theorem dX6_passOn_62 : decode cX6_passOn 62 = .ok (.iload 4, 2) := by decide +kernel
theorem dX6_passOn_64 : decode cX6_passOn 64 = .ok (.iaload, 1) := by decide +kernel
theorem dX6_passOn_65 : decode cX6_passOn 65 = .ok (.aload_n 0, 1) := by decide +kernel
theorem dX6_passOn_66 : decode cX6_passOn 66 = .ok (.getfield 16, 3) := by decide +kernel
theorem dX6_passOn_69 : decode cX6_passOn 69 = .ok (.iload_n 1, 1) := by decide +kernel
theorem dX6_passOn_70 : decode cX6_passOn 70 = .ok (.iaload, 1) := by decide +kernel
theorem dX6_passOn_71 : decode cX6_passOn 71 = .ok (.if_icmp .ne 41, 3) := by decide +kernel
theorem dX6_passOn_74 : decode cX6_passOn 74 = .ok (.aload_n 0, 1) := by decide +kernel
theorem dX6_passOn_75 : decode cX6_passOn 75 = .ok (.getfield 22, 3) := by decide +kernel
theorem dX6_passOn_78 : decode cX6_passOn 78 = .ok (.iload 4, 2) := by decide +kernel
theorem dX6_passOn_80 : decode cX6_passOn 80 = .ok (.iaload, 1) := by decide +kernel
theorem dX6_passOn_81 : decode cX6_passOn 81 = .ok (.aload_n 0, 1) := by decide +kernel
theorem dX6_passOn_82 : decode cX6_passOn 82 = .ok (.getfield 22, 3) := by decide +kernel
theorem dX6_passOn_85 : decode cX6_passOn 85 = .ok (.iload_n 1, 1) := by decide +kernel
theorem dX6_passOn_86 : decode cX6_passOn 86 = .ok (.iaload, 1) := by decide +kernel
theorem dX6_passOn_87 : decode cX6_passOn 87 = .ok (.if_icmp .ne 25, 3) := by decide +kernel
theorem dX6_passOn_90 : decode cX6_passOn 90 = .ok (.aload_n 0, 1) := by decide +kernel
theorem dX6_passOn_91 : decode cX6_passOn 91 = .ok (.getfield 34, 3) := by decide +kernel
theorem dX6_passOn_94 : decode cX6_passOn 94 = .ok (.iload 4, 2) := by decide +kernel
theorem dX6_passOn_96 : decode cX6_passOn 96 = .ok (.iaload, 1) := by decide +kernel
theorem dX6_passOn_97 : decode cX6_passOn 97 = .ok (.iconst (-1), 1) := by decide +kernel
theorem dX6_passOn_98 : decode cX6_passOn 98 = .ok (.if_icmp .ne 14, 3) := by decide +kernel
theorem dX6_passOn_101 : decode cX6_passOn 101 = .ok (.aload_n 0, 1) := by decide +kernel
theorem dX6_passOn_102 : decode cX6_passOn 102 = .ok (.getfield 37, 3) := by decide +kernel
theorem dX6_passOn_105 : decode cX6_passOn 105 = .ok (.iload 4, 2) := by decide +kernel
theorem dX6_passOn_107 : decode cX6_passOn 107 = .ok (.iload_n 1, 1) := by decide +kernel
theorem dX6_passOn_108 : decode cX6_passOn 108 = .ok (.iastore, 1) := by decide +kernel
theorem dX6_passOn_109 : decode cX6_passOn 109 = .ok (.iinc 3 1, 3) := by decide +kernel
theorem dX6_passOn_112 : decode cX6_passOn 112 = .ok (.iinc 4 1, 3) := by decide +kernel
theorem dX6_passOn_115 : decode cX6_passOn 115 = .ok (.goto (-72), 3) := by decide +kernel
theorem dX6_passOn_118 : decode cX6_passOn 118 = .ok (.iload_n 3, 1) := by decide +kernel
theorem dX6_passOn_119 : decode cX6_passOn 119 = .ok (.ireturn, 1) := by decide +kernel
theorem dX6_gradeOf_0 : decode cX6_gradeOf 0 = .ok (.aload_n 0, 1) := by decide +kernel
theorem dX6_gradeOf_1 : decode cX6_gradeOf 1 = .ok (.aload_n 0, 1) := by decide +kernel
theorem dX6_gradeOf_2 : decode cX6_gradeOf 2 = .ok (.iload_n 1, 1) := by decide +kernel
theorem dX6_gradeOf_3 : decode cX6_gradeOf 3 = .ok (.invokevirtual 121, 3) := by decide +kernel
theorem dX6_gradeOf_6 : decode cX6_gradeOf 6 = .ok (.ifCond .eq 7, 3) := by decide +kernel
theorem dX6_gradeOf_9 : decode cX6_gradeOf 9 = .ok (.iconst 0, 1) := by decide +kernel
theorem dX6_gradeOf_10 : decode cX6_gradeOf 10 = .ok (.goto 4, 3) := by decide +kernel
theorem dX6_gradeOf_13 : decode cX6_gradeOf 13 = .ok (.iconst 1, 1) := by decide +kernel
theorem dX6_gradeOf_14 : decode cX6_gradeOf 14 = .ok (.invokevirtual 103, 3) := by decide +kernel
theorem dX6_gradeOf_17 : decode cX6_gradeOf 17 = .ok (.ifCond .eq 11, 3) := by decide +kernel
theorem dX6_gradeOf_20 : decode cX6_gradeOf 20 = .ok (.aload_n 0, 1) := by decide +kernel
theorem dX6_gradeOf_21 : decode cX6_gradeOf 21 = .ok (.iload_n 1, 1) := by decide +kernel
theorem dX6_gradeOf_22 : decode cX6_gradeOf 22 = .ok (.invokevirtual 172, 3) := by decide +kernel
theorem dX6_gradeOf_25 : decode cX6_gradeOf 25 = .ok (.goto 4, 3) := by decide +kernel
theorem dX6_gradeOf_28 : decode cX6_gradeOf 28 = .ok (.iconst 0, 1) := by decide +kernel
theorem dX6_gradeOf_29 : decode cX6_gradeOf 29 = .ok (.ireturn, 1) := by decide +kernel
theorem dX6_gradeFrom_0 : decode cX6_gradeFrom 0 = .ok (.aload_n 0, 1) := by decide +kernel
theorem dX6_gradeFrom_1 : decode cX6_gradeFrom 1 = .ok (.aload_n 0, 1) := by decide +kernel
theorem dX6_gradeFrom_2 : decode cX6_gradeFrom 2 = .ok (.iload_n 1, 1) := by decide +kernel
theorem dX6_gradeFrom_3 : decode cX6_gradeFrom 3 = .ok (.invokevirtual 121, 3) := by decide +kernel
theorem dX6_gradeFrom_6 : decode cX6_gradeFrom 6 = .ok (.ifCond .eq 7, 3) := by decide +kernel
theorem dX6_gradeFrom_9 : decode cX6_gradeFrom 9 = .ok (.iconst 0, 1) := by decide +kernel
theorem dX6_gradeFrom_10 : decode cX6_gradeFrom 10 = .ok (.goto 4, 3) := by decide +kernel
theorem dX6_gradeFrom_13 : decode cX6_gradeFrom 13 = .ok (.iconst 1, 1) := by decide +kernel
theorem dX6_gradeFrom_14 : decode cX6_gradeFrom 14 = .ok (.invokevirtual 103, 3) := by decide +kernel
theorem dX6_gradeFrom_17 : decode cX6_gradeFrom 17 = .ok (.ifCond .eq 26, 3) := by decide +kernel
theorem dX6_gradeFrom_20 : decode cX6_gradeFrom 20 = .ok (.aload_n 0, 1) := by decide +kernel
theorem dX6_gradeFrom_21 : decode cX6_gradeFrom 21 = .ok (.getfield 34, 3) := by decide +kernel
theorem dX6_gradeFrom_24 : decode cX6_gradeFrom 24 = .ok (.iload_n 1, 1) := by decide +kernel
theorem dX6_gradeFrom_25 : decode cX6_gradeFrom 25 = .ok (.iaload, 1) := by decide +kernel
theorem dX6_gradeFrom_26 : decode cX6_gradeFrom 26 = .ok (.iconst (-1), 1) := by decide +kernel
theorem dX6_gradeFrom_27 : decode cX6_gradeFrom 27 = .ok (.if_icmp .eq 7, 3) := by decide +kernel
theorem dX6_gradeFrom_30 : decode cX6_gradeFrom 30 = .ok (.iload_n 1, 1) := by decide +kernel
theorem dX6_gradeFrom_31 : decode cX6_gradeFrom 31 = .ok (.goto 13, 3) := by decide +kernel
theorem dX6_gradeFrom_34 : decode cX6_gradeFrom 34 = .ok (.aload_n 0, 1) := by decide +kernel
theorem dX6_gradeFrom_35 : decode cX6_gradeFrom 35 = .ok (.getfield 37, 3) := by decide +kernel
theorem dX6_gradeFrom_38 : decode cX6_gradeFrom 38 = .ok (.iload_n 1, 1) := by decide +kernel
theorem dX6_gradeFrom_39 : decode cX6_gradeFrom 39 = .ok (.iaload, 1) := by decide +kernel
theorem dX6_gradeFrom_40 : decode cX6_gradeFrom 40 = .ok (.goto 4, 3) := by decide +kernel
theorem dX6_gradeFrom_43 : decode cX6_gradeFrom 43 = .ok (.iconst 0, 1) := by decide +kernel
theorem dX6_gradeFrom_44 : decode cX6_gradeFrom 44 = .ok (.ireturn, 1) := by decide +kernel
theorem dX6_addVersion_0 : decode cX6_addVersion 0 = .ok (.aload_n 0, 1) := by decide +kernel
theorem dX6_addVersion_1 : decode cX6_addVersion 1 = .ok (.iload_n 1, 1) := by decide +kernel
theorem dX6_addVersion_2 : decode cX6_addVersion 2 = .ok (.invokevirtual 107, 3) := by decide +kernel
theorem dX6_addVersion_5 : decode cX6_addVersion 5 = .ok (.istore_n 3, 1) := by decide +kernel
theorem dX6_addVersion_6 : decode cX6_addVersion 6 = .ok (.iconst 0, 1) := by decide +kernel
theorem dX6_addVersion_7 : decode cX6_addVersion 7 = .ok (.istore 4, 2) := by decide +kernel
theorem dX6_addVersion_9 : decode cX6_addVersion 9 = .ok (.iconst 0, 1) := by decide +kernel
theorem dX6_addVersion_10 : decode cX6_addVersion 10 = .ok (.istore 5, 2) := by decide +kernel
theorem dX6_addVersion_12 : decode cX6_addVersion 12 = .ok (.iload 5, 2) := by decide +kernel
theorem dX6_addVersion_14 : decode cX6_addVersion 14 = .ok (.aload_n 0, 1) := by decide +kernel
theorem dX6_addVersion_15 : decode cX6_addVersion 15 = .ok (.getfield 97, 3) := by decide +kernel
theorem dX6_addVersion_18 : decode cX6_addVersion 18 = .ok (.if_icmp .ge 43, 3) := by decide +kernel
theorem dX6_addVersion_21 : decode cX6_addVersion 21 = .ok (.iload 4, 2) := by decide +kernel
theorem dX6_addVersion_23 : decode cX6_addVersion 23 = .ok (.ifCond .ne 25, 3) := by decide +kernel
theorem dX6_addVersion_26 : decode cX6_addVersion 26 = .ok (.aload_n 0, 1) := by decide +kernel
theorem dX6_addVersion_27 : decode cX6_addVersion 27 = .ok (.getfield 56, 3) := by decide +kernel
theorem dX6_addVersion_30 : decode cX6_addVersion 30 = .ok (.iload 5, 2) := by decide +kernel
theorem dX6_addVersion_32 : decode cX6_addVersion 32 = .ok (.iaload, 1) := by decide +kernel
theorem dX6_addVersion_33 : decode cX6_addVersion 33 = .ok (.iload_n 1, 1) := by decide +kernel
theorem dX6_addVersion_34 : decode cX6_addVersion 34 = .ok (.if_icmp .ne 18, 3) := by decide +kernel
theorem dX6_addVersion_37 : decode cX6_addVersion 37 = .ok (.aload_n 0, 1) := by decide +kernel
theorem dX6_addVersion_38 : decode cX6_addVersion 38 = .ok (.getfield 59, 3) := by decide +kernel
theorem dX6_addVersion_41 : decode cX6_addVersion 41 = .ok (.iload 5, 2) := by decide +kernel
theorem dX6_addVersion_43 : decode cX6_addVersion 43 = .ok (.iaload, 1) := by decide +kernel
theorem dX6_addVersion_44 : decode cX6_addVersion 44 = .ok (.iload_n 2, 1) := by decide +kernel
theorem dX6_addVersion_45 : decode cX6_addVersion 45 = .ok (.if_icmp .ne 7, 3) := by decide +kernel
theorem dX6_addVersion_48 : decode cX6_addVersion 48 = .ok (.iconst 1, 1) := by decide +kernel
theorem dX6_addVersion_49 : decode cX6_addVersion 49 = .ok (.goto 4, 3) := by decide +kernel
theorem dX6_addVersion_52 : decode cX6_addVersion 52 = .ok (.iconst 0, 1) := by decide +kernel
theorem dX6_addVersion_53 : decode cX6_addVersion 53 = .ok (.istore 4, 2) := by decide +kernel
theorem dX6_addVersion_55 : decode cX6_addVersion 55 = .ok (.iinc 5 1, 3) := by decide +kernel
theorem dX6_addVersion_58 : decode cX6_addVersion 58 = .ok (.goto (-46), 3) := by decide +kernel
theorem dX6_addVersion_61 : decode cX6_addVersion 61 = .ok (.aload_n 0, 1) := by decide +kernel
theorem dX6_addVersion_62 : decode cX6_addVersion 62 = .ok (.iload_n 3, 1) := by decide +kernel
theorem dX6_addVersion_63 : decode cX6_addVersion 63 = .ok (.ifCond .ne 7, 3) := by decide +kernel
theorem dX6_addVersion_66 : decode cX6_addVersion 66 = .ok (.iconst 1, 1) := by decide +kernel
theorem dX6_addVersion_67 : decode cX6_addVersion 67 = .ok (.goto 40, 3) := by decide +kernel
theorem dX6_addVersion_70 : decode cX6_addVersion 70 = .ok (.iload_n 2, 1) := by decide +kernel
theorem dX6_addVersion_71 : decode cX6_addVersion 71 = .ok (.iconst 0, 1) := by decide +kernel
theorem dX6_addVersion_72 : decode cX6_addVersion 72 = .ok (.bipush 7, 2) := by decide +kernel
theorem dX6_addVersion_74 : decode cX6_addVersion 74 = .ok (.invokestatic 87, 3) := by decide +kernel
theorem dX6_addVersion_77 : decode cX6_addVersion 77 = .ok (.ifCond .ne 7, 3) := by decide +kernel
theorem dX6_addVersion_80 : decode cX6_addVersion 80 = .ok (.iconst 2, 1) := by decide +kernel
theorem dX6_addVersion_81 : decode cX6_addVersion 81 = .ok (.goto 26, 3) := by decide +kernel
theorem dX6_addVersion_84 : decode cX6_addVersion 84 = .ok (.iload 4, 2) := by decide +kernel
theorem dX6_addVersion_86 : decode cX6_addVersion 86 = .ok (.ifCond .eq 7, 3) := by decide +kernel
theorem dX6_addVersion_89 : decode cX6_addVersion 89 = .ok (.iconst 3, 1) := by decide +kernel
theorem dX6_addVersion_90 : decode cX6_addVersion 90 = .ok (.goto 17, 3) := by decide +kernel
theorem dX6_addVersion_93 : decode cX6_addVersion 93 = .ok (.aload_n 0, 1) := by decide +kernel
theorem dX6_addVersion_94 : decode cX6_addVersion 94 = .ok (.getfield 97, 3) := by decide +kernel
theorem dX6_addVersion_97 : decode cX6_addVersion 97 = .ok (.bipush 10, 2) := by decide +kernel
theorem dX6_addVersion_99 : decode cX6_addVersion 99 = .ok (.if_icmp .ne 7, 3) := by decide +kernel
theorem dX6_addVersion_102 : decode cX6_addVersion 102 = .ok (.iconst 4, 1) := by decide +kernel
theorem dX6_addVersion_103 : decode cX6_addVersion 103 = .ok (.goto 4, 3) := by decide +kernel
theorem dX6_addVersion_106 : decode cX6_addVersion 106 = .ok (.iconst 0, 1) := by decide +kernel
theorem dX6_addVersion_107 : decode cX6_addVersion 107 = .ok (.invokevirtual 103, 3) := by decide +kernel
theorem dX6_addVersion_110 : decode cX6_addVersion 110 = .ok (.ifCond .ne 5, 3) := by decide +kernel
theorem dX6_addVersion_113 : decode cX6_addVersion 113 = .ok (.iconst 0, 1) := by decide +kernel
theorem dX6_addVersion_114 : decode cX6_addVersion 114 = .ok (.ireturn, 1) := by decide +kernel
theorem dX6_addVersion_115 : decode cX6_addVersion 115 = .ok (.aload_n 0, 1) := by decide +kernel
theorem dX6_addVersion_116 : decode cX6_addVersion 116 = .ok (.getfield 56, 3) := by decide +kernel
theorem dX6_addVersion_119 : decode cX6_addVersion 119 = .ok (.aload_n 0, 1) := by decide +kernel
theorem dX6_addVersion_120 : decode cX6_addVersion 120 = .ok (.getfield 97, 3) := by decide +kernel
theorem dX6_addVersion_123 : decode cX6_addVersion 123 = .ok (.iload_n 1, 1) := by decide +kernel
theorem dX6_addVersion_124 : decode cX6_addVersion 124 = .ok (.iastore, 1) := by decide +kernel
theorem dX6_addVersion_125 : decode cX6_addVersion 125 = .ok (.aload_n 0, 1) := by decide +kernel
theorem dX6_addVersion_126 : decode cX6_addVersion 126 = .ok (.getfield 59, 3) := by decide +kernel
theorem dX6_addVersion_129 : decode cX6_addVersion 129 = .ok (.aload_n 0, 1) := by decide +kernel
theorem dX6_addVersion_130 : decode cX6_addVersion 130 = .ok (.getfield 97, 3) := by decide +kernel
theorem dX6_addVersion_133 : decode cX6_addVersion 133 = .ok (.iload_n 2, 1) := by decide +kernel
theorem dX6_addVersion_134 : decode cX6_addVersion 134 = .ok (.iastore, 1) := by decide +kernel
theorem dX6_addVersion_135 : decode cX6_addVersion 135 = .ok (.aload_n 0, 1) := by decide +kernel
theorem dX6_addVersion_136 : decode cX6_addVersion 136 = .ok (.dup, 1) := by decide +kernel
theorem dX6_addVersion_137 : decode cX6_addVersion 137 = .ok (.getfield 97, 3) := by decide +kernel
theorem dX6_addVersion_140 : decode cX6_addVersion 140 = .ok (.iconst 1, 1) := by decide +kernel
theorem dX6_addVersion_141 : decode cX6_addVersion 141 = .ok (.iadd, 1) := by decide +kernel
theorem dX6_addVersion_142 : decode cX6_addVersion 142 = .ok (.putfield 97, 3) := by decide +kernel
theorem dX6_addVersion_145 : decode cX6_addVersion 145 = .ok (.aload_n 0, 1) := by decide +kernel
theorem dX6_addVersion_146 : decode cX6_addVersion 146 = .ok (.getfield 97, 3) := by decide +kernel
theorem dX6_addVersion_149 : decode cX6_addVersion 149 = .ok (.iconst 1, 1) := by decide +kernel
theorem dX6_addVersion_150 : decode cX6_addVersion 150 = .ok (.isub, 1) := by decide +kernel
theorem dX6_addVersion_151 : decode cX6_addVersion 151 = .ok (.ireturn, 1) := by decide +kernel
theorem dX6_isOutOf_0 : decode cX6_isOutOf 0 = .ok (.aload_n 0, 1) := by decide +kernel
theorem dX6_isOutOf_1 : decode cX6_isOutOf 1 = .ok (.getfield 62, 3) := by decide +kernel
theorem dX6_isOutOf_4 : decode cX6_isOutOf 4 = .ok (.bipush 32, 2) := by decide +kernel
theorem dX6_isOutOf_6 : decode cX6_isOutOf 6 = .ok (.bipush 60, 2) := by decide +kernel
theorem dX6_isOutOf_8 : decode cX6_isOutOf 8 = .ok (.iload_n 1, 1) := by decide +kernel
theorem dX6_isOutOf_9 : decode cX6_isOutOf 9 = .ok (.imul, 1) := by decide +kernel
theorem dX6_isOutOf_10 : decode cX6_isOutOf 10 = .ok (.iload_n 2, 1) := by decide +kernel
theorem dX6_isOutOf_11 : decode cX6_isOutOf 11 = .ok (.iadd, 1) := by decide +kernel
theorem dX6_isOutOf_12 : decode cX6_isOutOf 12 = .ok (.imul, 1) := by decide +kernel
theorem dX6_isOutOf_13 : decode cX6_isOutOf 13 = .ok (.iload_n 3, 1) := by decide +kernel
theorem dX6_isOutOf_14 : decode cX6_isOutOf 14 = .ok (.bipush 32, 2) := by decide +kernel
theorem dX6_isOutOf_16 : decode cX6_isOutOf 16 = .ok (.idiv, 1) := by decide +kernel
theorem dX6_isOutOf_17 : decode cX6_isOutOf 17 = .ok (.iadd, 1) := by decide +kernel
theorem dX6_isOutOf_18 : decode cX6_isOutOf 18 = .ok (.iaload, 1) := by decide +kernel
theorem dX6_isOutOf_19 : decode cX6_isOutOf 19 = .ok (.iload_n 3, 1) := by decide +kernel
theorem dX6_isOutOf_20 : decode cX6_isOutOf 20 = .ok (.bipush 32, 2) := by decide +kernel
theorem dX6_isOutOf_22 : decode cX6_isOutOf 22 = .ok (.irem, 1) := by decide +kernel
theorem dX6_isOutOf_23 : decode cX6_isOutOf 23 = .ok (.ishr, 1) := by decide +kernel
theorem dX6_isOutOf_24 : decode cX6_isOutOf 24 = .ok (.iconst 1, 1) := by decide +kernel
theorem dX6_isOutOf_25 : decode cX6_isOutOf 25 = .ok (.iand, 1) := by decide +kernel
theorem dX6_isOutOf_26 : decode cX6_isOutOf 26 = .ok (.iconst 1, 1) := by decide +kernel
theorem dX6_isOutOf_27 : decode cX6_isOutOf 27 = .ok (.if_icmp .ne 7, 3) := by decide +kernel
theorem dX6_isOutOf_30 : decode cX6_isOutOf 30 = .ok (.iconst 1, 1) := by decide +kernel
theorem dX6_isOutOf_31 : decode cX6_isOutOf 31 = .ok (.goto 4, 3) := by decide +kernel
theorem dX6_isOutOf_34 : decode cX6_isOutOf 34 = .ok (.iconst 0, 1) := by decide +kernel
theorem dX6_isOutOf_35 : decode cX6_isOutOf 35 = .ok (.ireturn, 1) := by decide +kernel
theorem dX6_leaveOut_0 : decode cX6_leaveOut 0 = .ok (.aload_n 0, 1) := by decide +kernel
theorem dX6_leaveOut_1 : decode cX6_leaveOut 1 = .ok (.iload_n 1, 1) := by decide +kernel
theorem dX6_leaveOut_2 : decode cX6_leaveOut 2 = .ok (.invokevirtual 175, 3) := by decide +kernel
theorem dX6_leaveOut_5 : decode cX6_leaveOut 5 = .ok (.istore 5, 2) := by decide +kernel
theorem dX6_leaveOut_7 : decode cX6_leaveOut 7 = .ok (.iload 5, 2) := by decide +kernel
theorem dX6_leaveOut_9 : decode cX6_leaveOut 9 = .ok (.ifCond .eq 12, 3) := by decide +kernel
theorem dX6_leaveOut_12 : decode cX6_leaveOut 12 = .ok (.aload_n 0, 1) := by decide +kernel
theorem dX6_leaveOut_13 : decode cX6_leaveOut 13 = .ok (.getfield 56, 3) := by decide +kernel
theorem dX6_leaveOut_16 : decode cX6_leaveOut 16 = .ok (.iload_n 1, 1) := by decide +kernel
theorem dX6_leaveOut_17 : decode cX6_leaveOut 17 = .ok (.iaload, 1) := by decide +kernel
theorem dX6_leaveOut_18 : decode cX6_leaveOut 18 = .ok (.goto 4, 3) := by decide +kernel
theorem dX6_leaveOut_21 : decode cX6_leaveOut 21 = .ok (.iconst 0, 1) := by decide +kernel
theorem dX6_leaveOut_22 : decode cX6_leaveOut 22 = .ok (.istore 6, 2) := by decide +kernel
theorem dX6_leaveOut_24 : decode cX6_leaveOut 24 = .ok (.iload 5, 2) := by decide +kernel
theorem dX6_leaveOut_26 : decode cX6_leaveOut 26 = .ok (.ifCond .eq 33, 3) := by decide +kernel
theorem dX6_leaveOut_29 : decode cX6_leaveOut 29 = .ok (.iload_n 2, 1) := by decide +kernel
theorem dX6_leaveOut_30 : decode cX6_leaveOut 30 = .ok (.ifCond .lt 29, 3) := by decide +kernel
theorem dX6_leaveOut_33 : decode cX6_leaveOut 33 = .ok (.iload_n 3, 1) := by decide +kernel
theorem dX6_leaveOut_34 : decode cX6_leaveOut 34 = .ok (.iload_n 2, 1) := by decide +kernel
theorem dX6_leaveOut_35 : decode cX6_leaveOut 35 = .ok (.if_icmp .le 24, 3) := by decide +kernel
theorem dX6_leaveOut_38 : decode cX6_leaveOut 38 = .ok (.iload_n 3, 1) := by decide +kernel
theorem dX6_leaveOut_39 : decode cX6_leaveOut 39 = .ok (.aload_n 0, 1) := by decide +kernel
theorem dX6_leaveOut_40 : decode cX6_leaveOut 40 = .ok (.iload 6, 2) := by decide +kernel
theorem dX6_leaveOut_42 : decode cX6_leaveOut 42 = .ok (.aload_n 0, 1) := by decide +kernel
theorem dX6_leaveOut_43 : decode cX6_leaveOut 43 = .ok (.getfield 13, 3) := by decide +kernel
theorem dX6_leaveOut_46 : decode cX6_leaveOut 46 = .ok (.iload 6, 2) := by decide +kernel
theorem dX6_leaveOut_48 : decode cX6_leaveOut 48 = .ok (.iaload, 1) := by decide +kernel
theorem dX6_leaveOut_49 : decode cX6_leaveOut 49 = .ok (.invokevirtual 138, 3) := by decide +kernel
theorem dX6_leaveOut_52 : decode cX6_leaveOut 52 = .ok (.if_icmp .gt 7, 3) := by decide +kernel
theorem dX6_leaveOut_55 : decode cX6_leaveOut 55 = .ok (.iconst 1, 1) := by decide +kernel
theorem dX6_leaveOut_56 : decode cX6_leaveOut 56 = .ok (.goto 4, 3) := by decide +kernel
theorem dX6_leaveOut_59 : decode cX6_leaveOut 59 = .ok (.iconst 0, 1) := by decide +kernel
theorem dX6_leaveOut_60 : decode cX6_leaveOut 60 = .ok (.istore 7, 2) := by decide +kernel
theorem dX6_leaveOut_62 : decode cX6_leaveOut 62 = .ok (.aload_n 0, 1) := by decide +kernel
theorem dX6_leaveOut_63 : decode cX6_leaveOut 63 = .ok (.iload 5, 2) := by decide +kernel
theorem dX6_leaveOut_65 : decode cX6_leaveOut 65 = .ok (.ifCond .ne 7, 3) := by decide +kernel
theorem dX6_leaveOut_68 : decode cX6_leaveOut 68 = .ok (.iconst 1, 1) := by decide +kernel
theorem dX6_leaveOut_69 : decode cX6_leaveOut 69 = .ok (.goto 13, 3) := by decide +kernel
theorem dX6_leaveOut_72 : decode cX6_leaveOut 72 = .ok (.iload 7, 2) := by decide +kernel
theorem dX6_leaveOut_74 : decode cX6_leaveOut 74 = .ok (.ifCond .ne 7, 3) := by decide +kernel
theorem dX6_leaveOut_77 : decode cX6_leaveOut 77 = .ok (.iconst 2, 1) := by decide +kernel
theorem dX6_leaveOut_78 : decode cX6_leaveOut 78 = .ok (.goto 4, 3) := by decide +kernel
theorem dX6_leaveOut_81 : decode cX6_leaveOut 81 = .ok (.iconst 0, 1) := by decide +kernel
theorem dX6_leaveOut_82 : decode cX6_leaveOut 82 = .ok (.invokevirtual 103, 3) := by decide +kernel
theorem dX6_leaveOut_85 : decode cX6_leaveOut 85 = .ok (.ifCond .ne 5, 3) := by decide +kernel
theorem dX6_leaveOut_88 : decode cX6_leaveOut 88 = .ok (.iconst 0, 1) := by decide +kernel
theorem dX6_leaveOut_89 : decode cX6_leaveOut 89 = .ok (.ireturn, 1) := by decide +kernel
theorem dX6_leaveOut_90 : decode cX6_leaveOut 90 = .ok (.iconst 0, 1) := by decide +kernel
theorem dX6_leaveOut_91 : decode cX6_leaveOut 91 = .ok (.istore 8, 2) := by decide +kernel
theorem dX6_leaveOut_93 : decode cX6_leaveOut 93 = .ok (.iconst 0, 1) := by decide +kernel
theorem dX6_leaveOut_94 : decode cX6_leaveOut 94 = .ok (.istore 9, 2) := by decide +kernel
theorem dX6_leaveOut_96 : decode cX6_leaveOut 96 = .ok (.iconst 0, 1) := by decide +kernel
theorem dX6_leaveOut_97 : decode cX6_leaveOut 97 = .ok (.istore 10, 2) := by decide +kernel
theorem dX6_leaveOut_99 : decode cX6_leaveOut 99 = .ok (.iload 10, 2) := by decide +kernel
theorem dX6_leaveOut_101 : decode cX6_leaveOut 101 = .ok (.aload_n 0, 1) := by decide +kernel
theorem dX6_leaveOut_102 : decode cX6_leaveOut 102 = .ok (.getfield 13, 3) := by decide +kernel
theorem dX6_leaveOut_105 : decode cX6_leaveOut 105 = .ok (.iload 6, 2) := by decide +kernel
theorem dX6_leaveOut_107 : decode cX6_leaveOut 107 = .ok (.iaload, 1) := by decide +kernel
theorem dX6_leaveOut_108 : decode cX6_leaveOut 108 = .ok (.if_icmp .ge 119, 3) := by decide +kernel
theorem dX6_leaveOut_111 : decode cX6_leaveOut 111 = .ok (.aload_n 0, 1) := by decide +kernel
theorem dX6_leaveOut_112 : decode cX6_leaveOut 112 = .ok (.getfield 7, 3) := by decide +kernel
theorem dX6_leaveOut_115 : decode cX6_leaveOut 115 = .ok (.bipush 60, 2) := by decide +kernel
theorem dX6_leaveOut_117 : decode cX6_leaveOut 117 = .ok (.iload 6, 2) := by decide +kernel
theorem dX6_leaveOut_119 : decode cX6_leaveOut 119 = .ok (.imul, 1) := by decide +kernel
theorem dX6_leaveOut_120 : decode cX6_leaveOut 120 = .ok (.iload 10, 2) := by decide +kernel
theorem dX6_leaveOut_122 : decode cX6_leaveOut 122 = .ok (.iadd, 1) := by decide +kernel
theorem dX6_leaveOut_123 : decode cX6_leaveOut 123 = .ok (.iaload, 1) := by decide +kernel
theorem dX6_leaveOut_124 : decode cX6_leaveOut 124 = .ok (.istore 11, 2) := by decide +kernel
theorem dX6_leaveOut_126 : decode cX6_leaveOut 126 = .ok (.iconst 0, 1) := by decide +kernel
theorem dX6_leaveOut_127 : decode cX6_leaveOut 127 = .ok (.istore 12, 2) := by decide +kernel
theorem dX6_leaveOut_129 : decode cX6_leaveOut 129 = .ok (.iload 12, 2) := by decide +kernel
theorem dX6_leaveOut_131 : decode cX6_leaveOut 131 = .ok (.aload_n 0, 1) := by decide +kernel
theorem dX6_leaveOut_132 : decode cX6_leaveOut 132 = .ok (.getfield 19, 3) := by decide +kernel
theorem dX6_leaveOut_135 : decode cX6_leaveOut 135 = .ok (.iload 11, 2) := by decide +kernel
theorem dX6_leaveOut_137 : decode cX6_leaveOut 137 = .ok (.iaload, 1) := by decide +kernel
theorem dX6_leaveOut_138 : decode cX6_leaveOut 138 = .ok (.if_icmp .ge 83, 3) := by decide +kernel
theorem dX6_leaveOut_141 : decode cX6_leaveOut 141 = .ok (.aload_n 0, 1) := by decide +kernel
theorem dX6_leaveOut_142 : decode cX6_leaveOut 142 = .ok (.getfield 25, 3) := by decide +kernel
theorem dX6_leaveOut_145 : decode cX6_leaveOut 145 = .ok (.iload 11, 2) := by decide +kernel
theorem dX6_leaveOut_147 : decode cX6_leaveOut 147 = .ok (.iaload, 1) := by decide +kernel
theorem dX6_leaveOut_148 : decode cX6_leaveOut 148 = .ok (.iconst (-1), 1) := by decide +kernel
theorem dX6_leaveOut_149 : decode cX6_leaveOut 149 = .ok (.if_icmp .eq 72, 3) := by decide +kernel
theorem dX6_leaveOut_152 : decode cX6_leaveOut 152 = .ok (.iload 9, 2) := by decide +kernel
theorem dX6_leaveOut_154 : decode cX6_leaveOut 154 = .ok (.iload_n 2, 1) := by decide +kernel
theorem dX6_leaveOut_155 : decode cX6_leaveOut 155 = .ok (.if_icmp .lt 57, 3) := by decide +kernel
theorem dX6_leaveOut_158 : decode cX6_leaveOut 158 = .ok (.iload 9, 2) := by decide +kernel
theorem dX6_leaveOut_160 : decode cX6_leaveOut 160 = .ok (.iload_n 3, 1) := by decide +kernel
theorem dX6_leaveOut_161 : decode cX6_leaveOut 161 = .ok (.if_icmp .ge 51, 3) := by decide +kernel
theorem dX6_leaveOut_164 : decode cX6_leaveOut 164 = .ok (.aload_n 0, 1) := by decide +kernel
theorem dX6_leaveOut_165 : decode cX6_leaveOut 165 = .ok (.iload_n 1, 1) := by decide +kernel
theorem dX6_leaveOut_166 : decode cX6_leaveOut 166 = .ok (.iload 11, 2) := by decide +kernel
theorem dX6_leaveOut_168 : decode cX6_leaveOut 168 = .ok (.iload 12, 2) := by decide +kernel
theorem dX6_leaveOut_170 : decode cX6_leaveOut 170 = .ok (.invokevirtual 178, 3) := by decide +kernel
theorem dX6_leaveOut_173 : decode cX6_leaveOut 173 = .ok (.iload 4, 2) := by decide +kernel
theorem dX6_leaveOut_175 : decode cX6_leaveOut 175 = .ok (.if_icmp .eq 37, 3) := by decide +kernel
theorem dX6_leaveOut_178 : decode cX6_leaveOut 178 = .ok (.aload_n 0, 1) := by decide +kernel
theorem dX6_leaveOut_179 : decode cX6_leaveOut 179 = .ok (.getfield 62, 3) := by decide +kernel
theorem dX6_leaveOut_182 : decode cX6_leaveOut 182 = .ok (.bipush 32, 2) := by decide +kernel
theorem dX6_leaveOut_184 : decode cX6_leaveOut 184 = .ok (.bipush 60, 2) := by decide +kernel
theorem dX6_leaveOut_186 : decode cX6_leaveOut 186 = .ok (.iload_n 1, 1) := by decide +kernel
theorem dX6_leaveOut_187 : decode cX6_leaveOut 187 = .ok (.imul, 1) := by decide +kernel
theorem dX6_leaveOut_188 : decode cX6_leaveOut 188 = .ok (.iload 11, 2) := by decide +kernel
theorem dX6_leaveOut_190 : decode cX6_leaveOut 190 = .ok (.iadd, 1) := by decide +kernel
theorem dX6_leaveOut_191 : decode cX6_leaveOut 191 = .ok (.imul, 1) := by decide +kernel
theorem dX6_leaveOut_192 : decode cX6_leaveOut 192 = .ok (.iload 12, 2) := by decide +kernel
theorem dX6_leaveOut_194 : decode cX6_leaveOut 194 = .ok (.bipush 32, 2) := by decide +kernel
theorem dX6_leaveOut_196 : decode cX6_leaveOut 196 = .ok (.idiv, 1) := by decide +kernel
theorem dX6_leaveOut_197 : decode cX6_leaveOut 197 = .ok (.iadd, 1) := by decide +kernel
theorem dX6_leaveOut_198 : decode cX6_leaveOut 198 = .ok (.dup2, 1) := by decide +kernel
theorem dX6_leaveOut_199 : decode cX6_leaveOut 199 = .ok (.iaload, 1) := by decide +kernel
theorem dX6_leaveOut_200 : decode cX6_leaveOut 200 = .ok (.iconst 1, 1) := by decide +kernel
theorem dX6_leaveOut_201 : decode cX6_leaveOut 201 = .ok (.iload 12, 2) := by decide +kernel
theorem dX6_leaveOut_203 : decode cX6_leaveOut 203 = .ok (.bipush 32, 2) := by decide +kernel
theorem dX6_leaveOut_205 : decode cX6_leaveOut 205 = .ok (.irem, 1) := by decide +kernel
theorem dX6_leaveOut_206 : decode cX6_leaveOut 206 = .ok (.ishl, 1) := by decide +kernel
theorem dX6_leaveOut_207 : decode cX6_leaveOut 207 = .ok (.ixor, 1) := by decide +kernel
theorem dX6_leaveOut_208 : decode cX6_leaveOut 208 = .ok (.iastore, 1) := by decide +kernel
theorem dX6_leaveOut_209 : decode cX6_leaveOut 209 = .ok (.iinc 8 1, 3) := by decide +kernel
theorem dX6_leaveOut_212 : decode cX6_leaveOut 212 = .ok (.iinc 9 1, 3) := by decide +kernel
theorem dX6_leaveOut_215 : decode cX6_leaveOut 215 = .ok (.iinc 12 1, 3) := by decide +kernel
theorem dX6_leaveOut_218 : decode cX6_leaveOut 218 = .ok (.goto (-89), 3) := by decide +kernel
theorem dX6_leaveOut_221 : decode cX6_leaveOut 221 = .ok (.iinc 10 1, 3) := by decide +kernel
theorem dX6_leaveOut_224 : decode cX6_leaveOut 224 = .ok (.goto (-125), 3) := by decide +kernel
theorem dX6_leaveOut_227 : decode cX6_leaveOut 227 = .ok (.iload 8, 2) := by decide +kernel
theorem dX6_leaveOut_229 : decode cX6_leaveOut 229 = .ok (.ireturn, 1) := by decide +kernel
theorem dX6_frames_0 : decode cX6_frames 0 = .ok (.aload_n 0, 1) := by decide +kernel
theorem dX6_frames_1 : decode cX6_frames 1 = .ok (.aload_n 0, 1) := by decide +kernel
theorem dX6_frames_2 : decode cX6_frames 2 = .ok (.iload_n 1, 1) := by decide +kernel
theorem dX6_frames_3 : decode cX6_frames 3 = .ok (.invokevirtual 175, 3) := by decide +kernel
theorem dX6_frames_6 : decode cX6_frames 6 = .ok (.ifCond .eq 7, 3) := by decide +kernel
theorem dX6_frames_9 : decode cX6_frames 9 = .ok (.iconst 0, 1) := by decide +kernel
theorem dX6_frames_10 : decode cX6_frames 10 = .ok (.goto 4, 3) := by decide +kernel
theorem dX6_frames_13 : decode cX6_frames 13 = .ok (.iconst 1, 1) := by decide +kernel
theorem dX6_frames_14 : decode cX6_frames 14 = .ok (.invokevirtual 103, 3) := by decide +kernel
theorem dX6_frames_17 : decode cX6_frames 17 = .ok (.ifCond .ne 5, 3) := by decide +kernel
theorem dX6_frames_20 : decode cX6_frames 20 = .ok (.iconst 0, 1) := by decide +kernel
theorem dX6_frames_21 : decode cX6_frames 21 = .ok (.ireturn, 1) := by decide +kernel
theorem dX6_frames_22 : decode cX6_frames 22 = .ok (.aload_n 0, 1) := by decide +kernel
theorem dX6_frames_23 : decode cX6_frames 23 = .ok (.getfield 56, 3) := by decide +kernel
theorem dX6_frames_26 : decode cX6_frames 26 = .ok (.iload_n 1, 1) := by decide +kernel
theorem dX6_frames_27 : decode cX6_frames 27 = .ok (.iaload, 1) := by decide +kernel
theorem dX6_frames_28 : decode cX6_frames 28 = .ok (.istore_n 2, 1) := by decide +kernel
theorem dX6_frames_29 : decode cX6_frames 29 = .ok (.iconst 0, 1) := by decide +kernel
theorem dX6_frames_30 : decode cX6_frames 30 = .ok (.istore_n 3, 1) := by decide +kernel
theorem dX6_frames_31 : decode cX6_frames 31 = .ok (.iconst 0, 1) := by decide +kernel
theorem dX6_frames_32 : decode cX6_frames 32 = .ok (.istore 4, 2) := by decide +kernel
theorem dX6_frames_34 : decode cX6_frames 34 = .ok (.iload 4, 2) := by decide +kernel
theorem dX6_frames_36 : decode cX6_frames 36 = .ok (.aload_n 0, 1) := by decide +kernel
theorem dX6_frames_37 : decode cX6_frames 37 = .ok (.getfield 13, 3) := by decide +kernel
theorem dX6_frames_40 : decode cX6_frames 40 = .ok (.iload_n 2, 1) := by decide +kernel
theorem dX6_frames_41 : decode cX6_frames 41 = .ok (.iaload, 1) := by decide +kernel
theorem dX6_frames_42 : decode cX6_frames 42 = .ok (.if_icmp .ge 75, 3) := by decide +kernel
theorem dX6_frames_45 : decode cX6_frames 45 = .ok (.aload_n 0, 1) := by decide +kernel
theorem dX6_frames_46 : decode cX6_frames 46 = .ok (.getfield 7, 3) := by decide +kernel
theorem dX6_frames_49 : decode cX6_frames 49 = .ok (.bipush 60, 2) := by decide +kernel
theorem dX6_frames_51 : decode cX6_frames 51 = .ok (.iload_n 2, 1) := by decide +kernel
theorem dX6_frames_52 : decode cX6_frames 52 = .ok (.imul, 1) := by decide +kernel
theorem dX6_frames_53 : decode cX6_frames 53 = .ok (.iload 4, 2) := by decide +kernel
theorem dX6_frames_55 : decode cX6_frames 55 = .ok (.iadd, 1) := by decide +kernel
theorem dX6_frames_56 : decode cX6_frames 56 = .ok (.iaload, 1) := by decide +kernel
theorem dX6_frames_57 : decode cX6_frames 57 = .ok (.istore 5, 2) := by decide +kernel
theorem dX6_frames_59 : decode cX6_frames 59 = .ok (.iconst 0, 1) := by decide +kernel
theorem dX6_frames_60 : decode cX6_frames 60 = .ok (.istore 6, 2) := by decide +kernel
theorem dX6_frames_62 : decode cX6_frames 62 = .ok (.iload 6, 2) := by decide +kernel
theorem dX6_frames_64 : decode cX6_frames 64 = .ok (.aload_n 0, 1) := by decide +kernel
theorem dX6_frames_65 : decode cX6_frames 65 = .ok (.getfield 19, 3) := by decide +kernel
theorem dX6_frames_68 : decode cX6_frames 68 = .ok (.iload 5, 2) := by decide +kernel
theorem dX6_frames_70 : decode cX6_frames 70 = .ok (.iaload, 1) := by decide +kernel
theorem dX6_frames_71 : decode cX6_frames 71 = .ok (.if_icmp .ge 40, 3) := by decide +kernel
theorem dX6_frames_74 : decode cX6_frames 74 = .ok (.aload_n 0, 1) := by decide +kernel
theorem dX6_frames_75 : decode cX6_frames 75 = .ok (.getfield 25, 3) := by decide +kernel
theorem dX6_frames_78 : decode cX6_frames 78 = .ok (.iload 5, 2) := by decide +kernel
theorem dX6_frames_80 : decode cX6_frames 80 = .ok (.iaload, 1) := by decide +kernel
theorem dX6_frames_81 : decode cX6_frames 81 = .ok (.iconst (-1), 1) := by decide +kernel
theorem dX6_frames_82 : decode cX6_frames 82 = .ok (.if_icmp .eq 29, 3) := by decide +kernel
theorem dX6_frames_85 : decode cX6_frames 85 = .ok (.iload_n 3, 1) := by decide +kernel
theorem dX6_frames_86 : decode cX6_frames 86 = .ok (.aload_n 0, 1) := by decide +kernel
theorem dX6_frames_87 : decode cX6_frames 87 = .ok (.iload_n 1, 1) := by decide +kernel
theorem dX6_frames_88 : decode cX6_frames 88 = .ok (.iload 5, 2) := by decide +kernel
theorem dX6_frames_90 : decode cX6_frames 90 = .ok (.iload 6, 2) := by decide +kernel
theorem dX6_frames_92 : decode cX6_frames 92 = .ok (.invokevirtual 178, 3) := by decide +kernel
theorem dX6_frames_95 : decode cX6_frames 95 = .ok (.ifCond .eq 7, 3) := by decide +kernel
theorem dX6_frames_98 : decode cX6_frames 98 = .ok (.iconst 0, 1) := by decide +kernel
theorem dX6_frames_99 : decode cX6_frames 99 = .ok (.goto 4, 3) := by decide +kernel
theorem dX6_frames_102 : decode cX6_frames 102 = .ok (.iconst 1, 1) := by decide +kernel
theorem dX6_frames_103 : decode cX6_frames 103 = .ok (.iadd, 1) := by decide +kernel
theorem dX6_frames_104 : decode cX6_frames 104 = .ok (.istore_n 3, 1) := by decide +kernel
theorem dX6_frames_105 : decode cX6_frames 105 = .ok (.iinc 6 1, 3) := by decide +kernel
theorem dX6_frames_108 : decode cX6_frames 108 = .ok (.goto (-46), 3) := by decide +kernel
theorem dX6_frames_111 : decode cX6_frames 111 = .ok (.iinc 4 1, 3) := by decide +kernel
theorem dX6_frames_114 : decode cX6_frames 114 = .ok (.goto (-80), 3) := by decide +kernel
theorem dX6_frames_117 : decode cX6_frames 117 = .ok (.iload_n 3, 1) := by decide +kernel
theorem dX6_frames_118 : decode cX6_frames 118 = .ok (.ireturn, 1) := by decide +kernel
theorem dX6_lend_0 : decode cX6_lend 0 = .ok (.aload_n 0, 1) := by decide +kernel
theorem dX6_lend_1 : decode cX6_lend 1 = .ok (.iload_n 1, 1) := by decide +kernel
theorem dX6_lend_2 : decode cX6_lend 2 = .ok (.invokevirtual 175, 3) := by decide +kernel
theorem dX6_lend_5 : decode cX6_lend 5 = .ok (.istore 5, 2) := by decide +kernel
theorem dX6_lend_7 : decode cX6_lend 7 = .ok (.iload_n 2, 1) := by decide +kernel
theorem dX6_lend_8 : decode cX6_lend 8 = .ok (.iconst 1, 1) := by decide +kernel
theorem dX6_lend_9 : decode cX6_lend 9 = .ok (.bipush 9, 2) := by decide +kernel
theorem dX6_lend_11 : decode cX6_lend 11 = .ok (.invokestatic 87, 3) := by decide +kernel
theorem dX6_lend_14 : decode cX6_lend 14 = .ok (.ifCond .eq 27, 3) := by decide +kernel
theorem dX6_lend_17 : decode cX6_lend 17 = .ok (.iload_n 3, 1) := by decide +kernel
theorem dX6_lend_18 : decode cX6_lend 18 = .ok (.iconst 0, 1) := by decide +kernel
theorem dX6_lend_19 : decode cX6_lend 19 = .ok (.iconst 3, 1) := by decide +kernel
theorem dX6_lend_20 : decode cX6_lend 20 = .ok (.invokestatic 87, 3) := by decide +kernel
theorem dX6_lend_23 : decode cX6_lend 23 = .ok (.ifCond .eq 18, 3) := by decide +kernel
theorem dX6_lend_26 : decode cX6_lend 26 = .ok (.iload 4, 2) := by decide +kernel
theorem dX6_lend_28 : decode cX6_lend 28 = .ok (.iconst 1, 1) := by decide +kernel
theorem dX6_lend_29 : decode cX6_lend 29 = .ok (.bipush 99, 2) := by decide +kernel
theorem dX6_lend_31 : decode cX6_lend 31 = .ok (.invokestatic 87, 3) := by decide +kernel
theorem dX6_lend_34 : decode cX6_lend 34 = .ok (.ifCond .eq 7, 3) := by decide +kernel
theorem dX6_lend_37 : decode cX6_lend 37 = .ok (.iconst 1, 1) := by decide +kernel
theorem dX6_lend_38 : decode cX6_lend 38 = .ok (.goto 4, 3) := by decide +kernel
theorem dX6_lend_41 : decode cX6_lend 41 = .ok (.iconst 0, 1) := by decide +kernel
theorem dX6_lend_42 : decode cX6_lend 42 = .ok (.istore 6, 2) := by decide +kernel
theorem dX6_lend_44 : decode cX6_lend 44 = .ok (.iload 5, 2) := by decide +kernel
theorem dX6_lend_46 : decode cX6_lend 46 = .ok (.ifCond .eq 20, 3) := by decide +kernel
theorem dX6_lend_49 : decode cX6_lend 49 = .ok (.aload_n 0, 1) := by decide +kernel
theorem dX6_lend_50 : decode cX6_lend 50 = .ok (.aload_n 0, 1) := by decide +kernel
theorem dX6_lend_51 : decode cX6_lend 51 = .ok (.getfield 56, 3) := by decide +kernel
theorem dX6_lend_54 : decode cX6_lend 54 = .ok (.iload_n 1, 1) := by decide +kernel
theorem dX6_lend_55 : decode cX6_lend 55 = .ok (.iaload, 1) := by decide +kernel
theorem dX6_lend_56 : decode cX6_lend 56 = .ok (.invokevirtual 131, 3) := by decide +kernel
theorem dX6_lend_59 : decode cX6_lend 59 = .ok (.ifCond .ne 7, 3) := by decide +kernel
theorem dX6_lend_62 : decode cX6_lend 62 = .ok (.iconst 1, 1) := by decide +kernel
theorem dX6_lend_63 : decode cX6_lend 63 = .ok (.goto 4, 3) := by decide +kernel
theorem dX6_lend_66 : decode cX6_lend 66 = .ok (.iconst 0, 1) := by decide +kernel
theorem dX6_lend_67 : decode cX6_lend 67 = .ok (.istore 7, 2) := by decide +kernel
theorem dX6_lend_69 : decode cX6_lend 69 = .ok (.iconst 0, 1) := by decide +kernel
theorem dX6_lend_70 : decode cX6_lend 70 = .ok (.istore 8, 2) := by decide +kernel
theorem dX6_lend_72 : decode cX6_lend 72 = .ok (.iload 8, 2) := by decide +kernel
theorem dX6_lend_74 : decode cX6_lend 74 = .ok (.aload_n 0, 1) := by decide +kernel
theorem dX6_lend_75 : decode cX6_lend 75 = .ok (.getfield 94, 3) := by decide +kernel
theorem dX6_lend_78 : decode cX6_lend 78 = .ok (.if_icmp .ge 56, 3) := by decide +kernel
theorem dX6_lend_81 : decode cX6_lend 81 = .ok (.iload 7, 2) := by decide +kernel
theorem dX6_lend_83 : decode cX6_lend 83 = .ok (.ifCond .eq 51, 3) := by decide +kernel
theorem dX6_lend_86 : decode cX6_lend 86 = .ok (.iload 6, 2) := by decide +kernel
theorem dX6_lend_88 : decode cX6_lend 88 = .ok (.ifCond .eq 46, 3) := by decide +kernel
theorem dX6_lend_91 : decode cX6_lend 91 = .ok (.aload_n 0, 1) := by decide +kernel
theorem dX6_lend_92 : decode cX6_lend 92 = .ok (.getfield 40, 3) := by decide +kernel
theorem dX6_lend_95 : decode cX6_lend 95 = .ok (.iload 8, 2) := by decide +kernel
theorem dX6_lend_97 : decode cX6_lend 97 = .ok (.iaload, 1) := by decide +kernel
theorem dX6_lend_98 : decode cX6_lend 98 = .ok (.aload_n 0, 1) := by decide +kernel
theorem dX6_lend_99 : decode cX6_lend 99 = .ok (.getfield 56, 3) := by decide +kernel
theorem dX6_lend_102 : decode cX6_lend 102 = .ok (.iload_n 1, 1) := by decide +kernel
theorem dX6_lend_103 : decode cX6_lend 103 = .ok (.iaload, 1) := by decide +kernel
theorem dX6_lend_104 : decode cX6_lend 104 = .ok (.if_icmp .ne 17, 3) := by decide +kernel
theorem dX6_lend_107 : decode cX6_lend 107 = .ok (.aload_n 0, 1) := by decide +kernel
theorem dX6_lend_108 : decode cX6_lend 108 = .ok (.iload 8, 2) := by decide +kernel
theorem dX6_lend_110 : decode cX6_lend 110 = .ok (.iload_n 2, 1) := by decide +kernel
theorem dX6_lend_111 : decode cX6_lend 111 = .ok (.iconst 1, 1) := by decide +kernel
theorem dX6_lend_112 : decode cX6_lend 112 = .ok (.iload_n 3, 1) := by decide +kernel
theorem dX6_lend_113 : decode cX6_lend 113 = .ok (.iadd, 1) := by decide +kernel
theorem dX6_lend_114 : decode cX6_lend 114 = .ok (.imul, 1) := by decide +kernel
theorem dX6_lend_115 : decode cX6_lend 115 = .ok (.invokevirtual 159, 3) := by decide +kernel
theorem dX6_lend_118 : decode cX6_lend 118 = .ok (.ifCond .eq 7, 3) := by decide +kernel
theorem dX6_lend_121 : decode cX6_lend 121 = .ok (.iconst 1, 1) := by decide +kernel
theorem dX6_lend_122 : decode cX6_lend 122 = .ok (.goto 4, 3) := by decide +kernel
theorem dX6_lend_125 : decode cX6_lend 125 = .ok (.iconst 0, 1) := by decide +kernel
theorem dX6_lend_126 : decode cX6_lend 126 = .ok (.istore 7, 2) := by decide +kernel
theorem dX6_lend_128 : decode cX6_lend 128 = .ok (.iinc 8 1, 3) := by decide +kernel
theorem dX6_lend_131 : decode cX6_lend 131 = .ok (.goto (-59), 3) := by decide +kernel
theorem dX6_lend_134 : decode cX6_lend 134 = .ok (.aload_n 0, 1) := by decide +kernel
theorem dX6_lend_135 : decode cX6_lend 135 = .ok (.iload 5, 2) := by decide +kernel
theorem dX6_lend_137 : decode cX6_lend 137 = .ok (.ifCond .ne 7, 3) := by decide +kernel
theorem dX6_lend_140 : decode cX6_lend 140 = .ok (.iconst 1, 1) := by decide +kernel
theorem dX6_lend_141 : decode cX6_lend 141 = .ok (.goto 35, 3) := by decide +kernel
theorem dX6_lend_144 : decode cX6_lend 144 = .ok (.iload 6, 2) := by decide +kernel
theorem dX6_lend_146 : decode cX6_lend 146 = .ok (.ifCond .ne 7, 3) := by decide +kernel
theorem dX6_lend_149 : decode cX6_lend 149 = .ok (.iconst 2, 1) := by decide +kernel
theorem dX6_lend_150 : decode cX6_lend 150 = .ok (.goto 26, 3) := by decide +kernel
theorem dX6_lend_153 : decode cX6_lend 153 = .ok (.iload 7, 2) := by decide +kernel
theorem dX6_lend_155 : decode cX6_lend 155 = .ok (.ifCond .ne 7, 3) := by decide +kernel
theorem dX6_lend_158 : decode cX6_lend 158 = .ok (.iconst 3, 1) := by decide +kernel
theorem dX6_lend_159 : decode cX6_lend 159 = .ok (.goto 17, 3) := by decide +kernel
theorem dX6_lend_162 : decode cX6_lend 162 = .ok (.aload_n 0, 1) := by decide +kernel
theorem dX6_lend_163 : decode cX6_lend 163 = .ok (.getfield 100, 3) := by decide +kernel
theorem dX6_lend_166 : decode cX6_lend 166 = .ok (.bipush 20, 2) := by decide +kernel
theorem dX6_lend_168 : decode cX6_lend 168 = .ok (.if_icmp .ne 7, 3) := by decide +kernel
theorem dX6_lend_171 : decode cX6_lend 171 = .ok (.iconst 4, 1) := by decide +kernel
theorem dX6_lend_172 : decode cX6_lend 172 = .ok (.goto 4, 3) := by decide +kernel
theorem dX6_lend_175 : decode cX6_lend 175 = .ok (.iconst 0, 1) := by decide +kernel
theorem dX6_lend_176 : decode cX6_lend 176 = .ok (.invokevirtual 103, 3) := by decide +kernel
theorem dX6_lend_179 : decode cX6_lend 179 = .ok (.ifCond .ne 5, 3) := by decide +kernel
theorem dX6_lend_182 : decode cX6_lend 182 = .ok (.iconst 0, 1) := by decide +kernel
theorem dX6_lend_183 : decode cX6_lend 183 = .ok (.ireturn, 1) := by decide +kernel
theorem dX6_lend_184 : decode cX6_lend 184 = .ok (.aload_n 0, 1) := by decide +kernel
theorem dX6_lend_185 : decode cX6_lend 185 = .ok (.getfield 65, 3) := by decide +kernel
theorem dX6_lend_188 : decode cX6_lend 188 = .ok (.aload_n 0, 1) := by decide +kernel
theorem dX6_lend_189 : decode cX6_lend 189 = .ok (.getfield 100, 3) := by decide +kernel
theorem dX6_lend_192 : decode cX6_lend 192 = .ok (.iload_n 1, 1) := by decide +kernel
theorem dX6_lend_193 : decode cX6_lend 193 = .ok (.iastore, 1) := by decide +kernel
theorem dX6_lend_194 : decode cX6_lend 194 = .ok (.aload_n 0, 1) := by decide +kernel
theorem dX6_lend_195 : decode cX6_lend 195 = .ok (.getfield 68, 3) := by decide +kernel
theorem dX6_lend_198 : decode cX6_lend 198 = .ok (.aload_n 0, 1) := by decide +kernel
theorem dX6_lend_199 : decode cX6_lend 199 = .ok (.getfield 100, 3) := by decide +kernel
theorem dX6_lend_202 : decode cX6_lend 202 = .ok (.iload_n 2, 1) := by decide +kernel
theorem dX6_lend_203 : decode cX6_lend 203 = .ok (.iastore, 1) := by decide +kernel
theorem dX6_lend_204 : decode cX6_lend 204 = .ok (.aload_n 0, 1) := by decide +kernel
theorem dX6_lend_205 : decode cX6_lend 205 = .ok (.getfield 71, 3) := by decide +kernel
theorem dX6_lend_208 : decode cX6_lend 208 = .ok (.aload_n 0, 1) := by decide +kernel
theorem dX6_lend_209 : decode cX6_lend 209 = .ok (.getfield 100, 3) := by decide +kernel
theorem dX6_lend_212 : decode cX6_lend 212 = .ok (.iload_n 3, 1) := by decide +kernel
theorem dX6_lend_213 : decode cX6_lend 213 = .ok (.iastore, 1) := by decide +kernel
theorem dX6_lend_214 : decode cX6_lend 214 = .ok (.aload_n 0, 1) := by decide +kernel
theorem dX6_lend_215 : decode cX6_lend 215 = .ok (.getfield 74, 3) := by decide +kernel
theorem dX6_lend_218 : decode cX6_lend 218 = .ok (.aload_n 0, 1) := by decide +kernel
theorem dX6_lend_219 : decode cX6_lend 219 = .ok (.getfield 100, 3) := by decide +kernel
theorem dX6_lend_222 : decode cX6_lend 222 = .ok (.aload_n 0, 1) := by decide +kernel
theorem dX6_lend_223 : decode cX6_lend 223 = .ok (.getfield 181, 3) := by decide +kernel
theorem dX6_lend_226 : decode cX6_lend 226 = .ok (.iload 4, 2) := by decide +kernel
theorem dX6_lend_228 : decode cX6_lend 228 = .ok (.iadd, 1) := by decide +kernel
theorem dX6_lend_229 : decode cX6_lend 229 = .ok (.iastore, 1) := by decide +kernel
theorem dX6_lend_230 : decode cX6_lend 230 = .ok (.aload_n 0, 1) := by decide +kernel
theorem dX6_lend_231 : decode cX6_lend 231 = .ok (.dup, 1) := by decide +kernel
theorem dX6_lend_232 : decode cX6_lend 232 = .ok (.getfield 100, 3) := by decide +kernel
theorem dX6_lend_235 : decode cX6_lend 235 = .ok (.iconst 1, 1) := by decide +kernel
theorem dX6_lend_236 : decode cX6_lend 236 = .ok (.iadd, 1) := by decide +kernel
theorem dX6_lend_237 : decode cX6_lend 237 = .ok (.putfield 100, 3) := by decide +kernel
theorem dX6_lend_240 : decode cX6_lend 240 = .ok (.aload_n 0, 1) := by decide +kernel
theorem dX6_lend_241 : decode cX6_lend 241 = .ok (.getfield 100, 3) := by decide +kernel
theorem dX6_lend_244 : decode cX6_lend 244 = .ok (.iconst 1, 1) := by decide +kernel
theorem dX6_lend_245 : decode cX6_lend 245 = .ok (.isub, 1) := by decide +kernel
theorem dX6_lend_246 : decode cX6_lend 246 = .ok (.ireturn, 1) := by decide +kernel
theorem dX6_isLoan_0 : decode cX6_isLoan 0 = .ok (.iload_n 1, 1) := by decide +kernel
theorem dX6_isLoan_1 : decode cX6_isLoan 1 = .ok (.iconst 0, 1) := by decide +kernel
theorem dX6_isLoan_2 : decode cX6_isLoan 2 = .ok (.aload_n 0, 1) := by decide +kernel
theorem dX6_isLoan_3 : decode cX6_isLoan 3 = .ok (.getfield 100, 3) := by decide +kernel
theorem dX6_isLoan_6 : decode cX6_isLoan 6 = .ok (.iconst 1, 1) := by decide +kernel
theorem dX6_isLoan_7 : decode cX6_isLoan 7 = .ok (.isub, 1) := by decide +kernel
theorem dX6_isLoan_8 : decode cX6_isLoan 8 = .ok (.invokestatic 87, 3) := by decide +kernel
theorem dX6_isLoan_11 : decode cX6_isLoan 11 = .ok (.ireturn, 1) := by decide +kernel
theorem dX6_show_0 : decode cX6_show 0 = .ok (.aload_n 0, 1) := by decide +kernel
theorem dX6_show_1 : decode cX6_show 1 = .ok (.iload_n 1, 1) := by decide +kernel
theorem dX6_show_2 : decode cX6_show 2 = .ok (.invokevirtual 184, 3) := by decide +kernel
theorem dX6_show_5 : decode cX6_show 5 = .ok (.istore_n 2, 1) := by decide +kernel
theorem dX6_show_6 : decode cX6_show 6 = .ok (.aload_n 0, 1) := by decide +kernel
theorem dX6_show_7 : decode cX6_show 7 = .ok (.iload_n 2, 1) := by decide +kernel
theorem dX6_show_8 : decode cX6_show 8 = .ok (.ifCond .ne 7, 3) := by decide +kernel
theorem dX6_show_11 : decode cX6_show 11 = .ok (.iconst 1, 1) := by decide +kernel
theorem dX6_show_12 : decode cX6_show 12 = .ok (.goto 26, 3) := by decide +kernel
theorem dX6_show_15 : decode cX6_show 15 = .ok (.aload_n 0, 1) := by decide +kernel
theorem dX6_show_16 : decode cX6_show 16 = .ok (.getfield 77, 3) := by decide +kernel
theorem dX6_show_19 : decode cX6_show 19 = .ok (.iload_n 1, 1) := by decide +kernel
theorem dX6_show_20 : decode cX6_show 20 = .ok (.baload, 1) := by decide +kernel
theorem dX6_show_21 : decode cX6_show 21 = .ok (.ifCond .ne 12, 3) := by decide +kernel
theorem dX6_show_24 : decode cX6_show 24 = .ok (.aload_n 0, 1) := by decide +kernel
theorem dX6_show_25 : decode cX6_show 25 = .ok (.getfield 68, 3) := by decide +kernel
theorem dX6_show_28 : decode cX6_show 28 = .ok (.iload_n 1, 1) := by decide +kernel
theorem dX6_show_29 : decode cX6_show 29 = .ok (.iaload, 1) := by decide +kernel
theorem dX6_show_30 : decode cX6_show 30 = .ok (.ifCond .ne 7, 3) := by decide +kernel
theorem dX6_show_33 : decode cX6_show 33 = .ok (.iconst 2, 1) := by decide +kernel
theorem dX6_show_34 : decode cX6_show 34 = .ok (.goto 4, 3) := by decide +kernel
theorem dX6_show_37 : decode cX6_show 37 = .ok (.iconst 0, 1) := by decide +kernel
theorem dX6_show_38 : decode cX6_show 38 = .ok (.invokevirtual 103, 3) := by decide +kernel
theorem dX6_show_41 : decode cX6_show 41 = .ok (.ifCond .ne 5, 3) := by decide +kernel
theorem dX6_show_44 : decode cX6_show 44 = .ok (.iconst 0, 1) := by decide +kernel
theorem dX6_show_45 : decode cX6_show 45 = .ok (.ireturn, 1) := by decide +kernel
theorem dX6_show_46 : decode cX6_show 46 = .ok (.iconst 0, 1) := by decide +kernel
theorem dX6_show_47 : decode cX6_show 47 = .ok (.istore_n 3, 1) := by decide +kernel
theorem dX6_show_48 : decode cX6_show 48 = .ok (.iload_n 3, 1) := by decide +kernel
theorem dX6_show_49 : decode cX6_show 49 = .ok (.aload_n 0, 1) := by decide +kernel
theorem dX6_show_50 : decode cX6_show 50 = .ok (.getfield 94, 3) := by decide +kernel
theorem dX6_show_53 : decode cX6_show 53 = .ok (.if_icmp .ge 42, 3) := by decide +kernel
theorem dX6_show_56 : decode cX6_show 56 = .ok (.aload_n 0, 1) := by decide +kernel
theorem dX6_show_57 : decode cX6_show 57 = .ok (.getfield 40, 3) := by decide +kernel
theorem dX6_show_60 : decode cX6_show 60 = .ok (.iload_n 3, 1) := by decide +kernel
theorem dX6_show_61 : decode cX6_show 61 = .ok (.iaload, 1) := by decide +kernel
theorem dX6_show_62 : decode cX6_show 62 = .ok (.aload_n 0, 1) := by decide +kernel
theorem dX6_show_63 : decode cX6_show 63 = .ok (.getfield 56, 3) := by decide +kernel
theorem dX6_show_66 : decode cX6_show 66 = .ok (.aload_n 0, 1) := by decide +kernel
theorem dX6_show_67 : decode cX6_show 67 = .ok (.getfield 65, 3) := by decide +kernel
theorem dX6_show_70 : decode cX6_show 70 = .ok (.iload_n 1, 1) := by decide +kernel
theorem dX6_show_71 : decode cX6_show 71 = .ok (.iaload, 1) := by decide +kernel
theorem dX6_show_72 : decode cX6_show 72 = .ok (.iaload, 1) := by decide +kernel
theorem dX6_show_73 : decode cX6_show 73 = .ok (.if_icmp .ne 16, 3) := by decide +kernel
theorem dX6_show_76 : decode cX6_show 76 = .ok (.aload_n 0, 1) := by decide +kernel
theorem dX6_show_77 : decode cX6_show 77 = .ok (.iload_n 3, 1) := by decide +kernel
theorem dX6_show_78 : decode cX6_show 78 = .ok (.iconst 1, 1) := by decide +kernel
theorem dX6_show_79 : decode cX6_show 79 = .ok (.aload_n 0, 1) := by decide +kernel
theorem dX6_show_80 : decode cX6_show 80 = .ok (.getfield 71, 3) := by decide +kernel
theorem dX6_show_83 : decode cX6_show 83 = .ok (.iload_n 1, 1) := by decide +kernel
theorem dX6_show_84 : decode cX6_show 84 = .ok (.iaload, 1) := by decide +kernel
theorem dX6_show_85 : decode cX6_show 85 = .ok (.iadd, 1) := by decide +kernel
theorem dX6_show_86 : decode cX6_show 86 = .ok (.invokevirtual 162, 3) := by decide +kernel
theorem dX6_show_89 : decode cX6_show 89 = .ok (.iinc 3 1, 3) := by decide +kernel
theorem dX6_show_92 : decode cX6_show 92 = .ok (.goto (-44), 3) := by decide +kernel
theorem dX6_show_95 : decode cX6_show 95 = .ok (.aload_n 0, 1) := by decide +kernel
theorem dX6_show_96 : decode cX6_show 96 = .ok (.getfield 68, 3) := by decide +kernel
theorem dX6_show_99 : decode cX6_show 99 = .ok (.iload_n 1, 1) := by decide +kernel
theorem dX6_show_100 : decode cX6_show 100 = .ok (.dup2, 1) := by decide +kernel
theorem dX6_show_101 : decode cX6_show 101 = .ok (.iaload, 1) := by decide +kernel
theorem dX6_show_102 : decode cX6_show 102 = .ok (.iconst 1, 1) := by decide +kernel
theorem dX6_show_103 : decode cX6_show 103 = .ok (.isub, 1) := by decide +kernel
theorem dX6_show_104 : decode cX6_show 104 = .ok (.iastore, 1) := by decide +kernel
theorem dX6_show_105 : decode cX6_show 105 = .ok (.aload_n 0, 1) := by decide +kernel
theorem dX6_show_106 : decode cX6_show 106 = .ok (.getfield 68, 3) := by decide +kernel
theorem dX6_show_109 : decode cX6_show 109 = .ok (.iload_n 1, 1) := by decide +kernel
theorem dX6_show_110 : decode cX6_show 110 = .ok (.iaload, 1) := by decide +kernel
theorem dX6_show_111 : decode cX6_show 111 = .ok (.ireturn, 1) := by decide +kernel
theorem dX6_giveBack_0 : decode cX6_giveBack 0 = .ok (.aload_n 0, 1) := by decide +kernel
theorem dX6_giveBack_1 : decode cX6_giveBack 1 = .ok (.iload_n 1, 1) := by decide +kernel
theorem dX6_giveBack_2 : decode cX6_giveBack 2 = .ok (.invokevirtual 184, 3) := by decide +kernel
theorem dX6_giveBack_5 : decode cX6_giveBack 5 = .ok (.istore_n 2, 1) := by decide +kernel
theorem dX6_giveBack_6 : decode cX6_giveBack 6 = .ok (.aload_n 0, 1) := by decide +kernel
theorem dX6_giveBack_7 : decode cX6_giveBack 7 = .ok (.iload_n 2, 1) := by decide +kernel
theorem dX6_giveBack_8 : decode cX6_giveBack 8 = .ok (.ifCond .ne 7, 3) := by decide +kernel
theorem dX6_giveBack_11 : decode cX6_giveBack 11 = .ok (.iconst 1, 1) := by decide +kernel
theorem dX6_giveBack_12 : decode cX6_giveBack 12 = .ok (.goto 17, 3) := by decide +kernel
theorem dX6_giveBack_15 : decode cX6_giveBack 15 = .ok (.aload_n 0, 1) := by decide +kernel
theorem dX6_giveBack_16 : decode cX6_giveBack 16 = .ok (.getfield 77, 3) := by decide +kernel
theorem dX6_giveBack_19 : decode cX6_giveBack 19 = .ok (.iload_n 1, 1) := by decide +kernel
theorem dX6_giveBack_20 : decode cX6_giveBack 20 = .ok (.baload, 1) := by decide +kernel
theorem dX6_giveBack_21 : decode cX6_giveBack 21 = .ok (.ifCond .eq 7, 3) := by decide +kernel
theorem dX6_giveBack_24 : decode cX6_giveBack 24 = .ok (.iconst 2, 1) := by decide +kernel
theorem dX6_giveBack_25 : decode cX6_giveBack 25 = .ok (.goto 4, 3) := by decide +kernel
theorem dX6_giveBack_28 : decode cX6_giveBack 28 = .ok (.iconst 0, 1) := by decide +kernel
theorem dX6_giveBack_29 : decode cX6_giveBack 29 = .ok (.invokevirtual 103, 3) := by decide +kernel
theorem dX6_giveBack_32 : decode cX6_giveBack 32 = .ok (.ifCond .ne 5, 3) := by decide +kernel
theorem dX6_giveBack_35 : decode cX6_giveBack 35 = .ok (.iconst 0, 1) := by decide +kernel
theorem dX6_giveBack_36 : decode cX6_giveBack 36 = .ok (.ireturn, 1) := by decide +kernel
theorem dX6_giveBack_37 : decode cX6_giveBack 37 = .ok (.aload_n 0, 1) := by decide +kernel
theorem dX6_giveBack_38 : decode cX6_giveBack 38 = .ok (.getfield 77, 3) := by decide +kernel
theorem dX6_giveBack_41 : decode cX6_giveBack 41 = .ok (.iload_n 1, 1) := by decide +kernel
theorem dX6_giveBack_42 : decode cX6_giveBack 42 = .ok (.iconst 1, 1) := by decide +kernel
theorem dX6_giveBack_43 : decode cX6_giveBack 43 = .ok (.bastore, 1) := by decide +kernel
theorem dX6_giveBack_44 : decode cX6_giveBack 44 = .ok (.aload_n 0, 1) := by decide +kernel
theorem dX6_giveBack_45 : decode cX6_giveBack 45 = .ok (.getfield 181, 3) := by decide +kernel
theorem dX6_giveBack_48 : decode cX6_giveBack 48 = .ok (.aload_n 0, 1) := by decide +kernel
theorem dX6_giveBack_49 : decode cX6_giveBack 49 = .ok (.getfield 74, 3) := by decide +kernel
theorem dX6_giveBack_52 : decode cX6_giveBack 52 = .ok (.iload_n 1, 1) := by decide +kernel
theorem dX6_giveBack_53 : decode cX6_giveBack 53 = .ok (.iaload, 1) := by decide +kernel
theorem dX6_giveBack_54 : decode cX6_giveBack 54 = .ok (.if_icmp .le 17, 3) := by decide +kernel
theorem dX6_giveBack_57 : decode cX6_giveBack 57 = .ok (.aload_n 0, 1) := by decide +kernel
theorem dX6_giveBack_58 : decode cX6_giveBack 58 = .ok (.getfield 181, 3) := by decide +kernel
theorem dX6_giveBack_61 : decode cX6_giveBack 61 = .ok (.aload_n 0, 1) := by decide +kernel
theorem dX6_giveBack_62 : decode cX6_giveBack 62 = .ok (.getfield 74, 3) := by decide +kernel
theorem dX6_giveBack_65 : decode cX6_giveBack 65 = .ok (.iload_n 1, 1) := by decide +kernel
theorem dX6_giveBack_66 : decode cX6_giveBack 66 = .ok (.iaload, 1) := by decide +kernel
theorem dX6_giveBack_67 : decode cX6_giveBack 67 = .ok (.isub, 1) := by decide +kernel
theorem dX6_giveBack_68 : decode cX6_giveBack 68 = .ok (.goto 4, 3) := by decide +kernel
theorem dX6_giveBack_71 : decode cX6_giveBack 71 = .ok (.iconst 0, 1) := by decide +kernel
theorem dX6_giveBack_72 : decode cX6_giveBack 72 = .ok (.ireturn, 1) := by decide +kernel
theorem dX6_advance_0 : decode cX6_advance 0 = .ok (.aload_n 0, 1) := by decide +kernel
theorem dX6_advance_1 : decode cX6_advance 1 = .ok (.iload_n 1, 1) := by decide +kernel
theorem dX6_advance_2 : decode cX6_advance 2 = .ok (.iconst 1, 1) := by decide +kernel
theorem dX6_advance_3 : decode cX6_advance 3 = .ok (.bipush 99, 2) := by decide +kernel
theorem dX6_advance_5 : decode cX6_advance 5 = .ok (.invokestatic 87, 3) := by decide +kernel
theorem dX6_advance_8 : decode cX6_advance 8 = .ok (.ifCond .eq 7, 3) := by decide +kernel
theorem dX6_advance_11 : decode cX6_advance 11 = .ok (.iconst 0, 1) := by decide +kernel
theorem dX6_advance_12 : decode cX6_advance 12 = .ok (.goto 4, 3) := by decide +kernel
theorem dX6_advance_15 : decode cX6_advance 15 = .ok (.iconst 1, 1) := by decide +kernel
theorem dX6_advance_16 : decode cX6_advance 16 = .ok (.invokevirtual 103, 3) := by decide +kernel
theorem dX6_advance_19 : decode cX6_advance 19 = .ok (.ifCond .ne 5, 3) := by decide +kernel
theorem dX6_advance_22 : decode cX6_advance 22 = .ok (.iconst 0, 1) := by decide +kernel
theorem dX6_advance_23 : decode cX6_advance 23 = .ok (.ireturn, 1) := by decide +kernel
theorem dX6_advance_24 : decode cX6_advance 24 = .ok (.aload_n 0, 1) := by decide +kernel
theorem dX6_advance_25 : decode cX6_advance 25 = .ok (.dup, 1) := by decide +kernel
theorem dX6_advance_26 : decode cX6_advance 26 = .ok (.getfield 181, 3) := by decide +kernel
theorem dX6_advance_29 : decode cX6_advance 29 = .ok (.iload_n 1, 1) := by decide +kernel
theorem dX6_advance_30 : decode cX6_advance 30 = .ok (.iadd, 1) := by decide +kernel
theorem dX6_advance_31 : decode cX6_advance 31 = .ok (.putfield 181, 3) := by decide +kernel
theorem dX6_advance_34 : decode cX6_advance 34 = .ok (.iconst 0, 1) := by decide +kernel
theorem dX6_advance_35 : decode cX6_advance 35 = .ok (.istore_n 2, 1) := by decide +kernel
theorem dX6_advance_36 : decode cX6_advance 36 = .ok (.iconst 0, 1) := by decide +kernel
theorem dX6_advance_37 : decode cX6_advance 37 = .ok (.istore_n 3, 1) := by decide +kernel
theorem dX6_advance_38 : decode cX6_advance 38 = .ok (.iload_n 3, 1) := by decide +kernel
theorem dX6_advance_39 : decode cX6_advance 39 = .ok (.aload_n 0, 1) := by decide +kernel
theorem dX6_advance_40 : decode cX6_advance 40 = .ok (.getfield 100, 3) := by decide +kernel
theorem dX6_advance_43 : decode cX6_advance 43 = .ok (.if_icmp .ge 39, 3) := by decide +kernel
theorem dX6_advance_46 : decode cX6_advance 46 = .ok (.iload_n 2, 1) := by decide +kernel
theorem dX6_advance_47 : decode cX6_advance 47 = .ok (.aload_n 0, 1) := by decide +kernel
theorem dX6_advance_48 : decode cX6_advance 48 = .ok (.getfield 77, 3) := by decide +kernel
theorem dX6_advance_51 : decode cX6_advance 51 = .ok (.iload_n 3, 1) := by decide +kernel
theorem dX6_advance_52 : decode cX6_advance 52 = .ok (.baload, 1) := by decide +kernel
theorem dX6_advance_53 : decode cX6_advance 53 = .ok (.ifCond .ne 20, 3) := by decide +kernel
theorem dX6_advance_56 : decode cX6_advance 56 = .ok (.aload_n 0, 1) := by decide +kernel
theorem dX6_advance_57 : decode cX6_advance 57 = .ok (.getfield 181, 3) := by decide +kernel
theorem dX6_advance_60 : decode cX6_advance 60 = .ok (.aload_n 0, 1) := by decide +kernel
theorem dX6_advance_61 : decode cX6_advance 61 = .ok (.getfield 74, 3) := by decide +kernel
theorem dX6_advance_64 : decode cX6_advance 64 = .ok (.iload_n 3, 1) := by decide +kernel
theorem dX6_advance_65 : decode cX6_advance 65 = .ok (.iaload, 1) := by decide +kernel
theorem dX6_advance_66 : decode cX6_advance 66 = .ok (.if_icmp .le 7, 3) := by decide +kernel
theorem dX6_advance_69 : decode cX6_advance 69 = .ok (.iconst 1, 1) := by decide +kernel
theorem dX6_advance_70 : decode cX6_advance 70 = .ok (.goto 4, 3) := by decide +kernel
theorem dX6_advance_73 : decode cX6_advance 73 = .ok (.iconst 0, 1) := by decide +kernel
theorem dX6_advance_74 : decode cX6_advance 74 = .ok (.iadd, 1) := by decide +kernel
theorem dX6_advance_75 : decode cX6_advance 75 = .ok (.istore_n 2, 1) := by decide +kernel
theorem dX6_advance_76 : decode cX6_advance 76 = .ok (.iinc 3 1, 3) := by decide +kernel
theorem dX6_advance_79 : decode cX6_advance 79 = .ok (.goto (-41), 3) := by decide +kernel
theorem dX6_advance_82 : decode cX6_advance 82 = .ok (.iload_n 2, 1) := by decide +kernel
theorem dX6_advance_83 : decode cX6_advance 83 = .ok (.ireturn, 1) := by decide +kernel
theorem dX6_shown_0 : decode cX6_shown 0 = .ok (.aload_n 0, 1) := by decide +kernel
theorem dX6_shown_1 : decode cX6_shown 1 = .ok (.iconst 0, 1) := by decide +kernel
theorem dX6_shown_2 : decode cX6_shown 2 = .ok (.putfield 81, 3) := by decide +kernel
theorem dX6_shown_5 : decode cX6_shown 5 = .ok (.aload_n 0, 1) := by decide +kernel
theorem dX6_shown_6 : decode cX6_shown 6 = .ok (.getfield 152, 3) := by decide +kernel
theorem dX6_shown_9 : decode cX6_shown 9 = .ok (.lreturn, 1) := by decide +kernel
theorem dX6_keptShare_0 : decode cX6_keptShare 0 = .ok (.iconst 0, 1) := by decide +kernel
theorem dX6_keptShare_1 : decode cX6_keptShare 1 = .ok (.istore_n 1, 1) := by decide +kernel
theorem dX6_keptShare_2 : decode cX6_keptShare 2 = .ok (.iconst 0, 1) := by decide +kernel
theorem dX6_keptShare_3 : decode cX6_keptShare 3 = .ok (.istore_n 2, 1) := by decide +kernel
theorem dX6_keptShare_4 : decode cX6_keptShare 4 = .ok (.iload_n 2, 1) := by decide +kernel
theorem dX6_keptShare_5 : decode cX6_keptShare 5 = .ok (.aload_n 0, 1) := by decide +kernel
theorem dX6_keptShare_6 : decode cX6_keptShare 6 = .ok (.getfield 91, 3) := by decide +kernel
theorem dX6_keptShare_9 : decode cX6_keptShare 9 = .ok (.if_icmp .ge 27, 3) := by decide +kernel
theorem dX6_keptShare_12 : decode cX6_keptShare 12 = .ok (.iload_n 1, 1) := by decide +kernel
theorem dX6_keptShare_13 : decode cX6_keptShare 13 = .ok (.aload_n 0, 1) := by decide +kernel
theorem dX6_keptShare_14 : decode cX6_keptShare 14 = .ok (.getfield 25, 3) := by decide +kernel
theorem dX6_keptShare_17 : decode cX6_keptShare 17 = .ok (.iload_n 2, 1) := by decide +kernel
theorem dX6_keptShare_18 : decode cX6_keptShare 18 = .ok (.iaload, 1) := by decide +kernel
theorem dX6_keptShare_19 : decode cX6_keptShare 19 = .ok (.iconst (-1), 1) := by decide +kernel
theorem dX6_keptShare_20 : decode cX6_keptShare 20 = .ok (.if_icmp .ne 7, 3) := by decide +kernel
theorem dX6_keptShare_23 : decode cX6_keptShare 23 = .ok (.iconst 0, 1) := by decide +kernel
theorem dX6_keptShare_24 : decode cX6_keptShare 24 = .ok (.goto 4, 3) := by decide +kernel
theorem dX6_keptShare_27 : decode cX6_keptShare 27 = .ok (.iconst 1, 1) := by decide +kernel
theorem dX6_keptShare_28 : decode cX6_keptShare 28 = .ok (.iadd, 1) := by decide +kernel
theorem dX6_keptShare_29 : decode cX6_keptShare 29 = .ok (.istore_n 1, 1) := by decide +kernel
theorem dX6_keptShare_30 : decode cX6_keptShare 30 = .ok (.iinc 2 1, 3) := by decide +kernel
theorem dX6_keptShare_33 : decode cX6_keptShare 33 = .ok (.goto (-29), 3) := by decide +kernel
theorem dX6_keptShare_36 : decode cX6_keptShare 36 = .ok (.aload_n 0, 1) := by decide +kernel
theorem dX6_keptShare_37 : decode cX6_keptShare 37 = .ok (.aload_n 0, 1) := by decide +kernel
theorem dX6_keptShare_38 : decode cX6_keptShare 38 = .ok (.getfield 91, 3) := by decide +kernel
theorem dX6_keptShare_41 : decode cX6_keptShare 41 = .ok (.ifCond .ne 7, 3) := by decide +kernel
theorem dX6_keptShare_44 : decode cX6_keptShare 44 = .ok (.iconst 1, 1) := by decide +kernel
theorem dX6_keptShare_45 : decode cX6_keptShare 45 = .ok (.goto 4, 3) := by decide +kernel
theorem dX6_keptShare_48 : decode cX6_keptShare 48 = .ok (.iconst 0, 1) := by decide +kernel
theorem dX6_keptShare_49 : decode cX6_keptShare 49 = .ok (.invokevirtual 103, 3) := by decide +kernel
theorem dX6_keptShare_52 : decode cX6_keptShare 52 = .ok (.ifCond .eq 14, 3) := by decide +kernel
theorem dX6_keptShare_55 : decode cX6_keptShare 55 = .ok (.iload_n 1, 1) := by decide +kernel
theorem dX6_keptShare_56 : decode cX6_keptShare 56 = .ok (.i2f, 1) := by decide +kernel
theorem dX6_keptShare_57 : decode cX6_keptShare 57 = .ok (.aload_n 0, 1) := by decide +kernel
theorem dX6_keptShare_58 : decode cX6_keptShare 58 = .ok (.getfield 91, 3) := by decide +kernel
theorem dX6_keptShare_61 : decode cX6_keptShare 61 = .ok (.i2f, 1) := by decide +kernel
theorem dX6_keptShare_62 : decode cX6_keptShare 62 = .ok (.fdiv, 1) := by decide +kernel
theorem dX6_keptShare_63 : decode cX6_keptShare 63 = .ok (.goto 4, 3) := by decide +kernel
theorem dX6_keptShare_66 : decode cX6_keptShare 66 = .ok (.fconst 0, 1) := by decide +kernel
theorem dX6_keptShare_67 : decode cX6_keptShare 67 = .ok (.freturn, 1) := by decide +kernel
theorem dX6_meanWear_0 : decode cX6_meanWear 0 = .ok (.iconst 0, 1) := by decide +kernel
theorem dX6_meanWear_1 : decode cX6_meanWear 1 = .ok (.istore_n 1, 1) := by decide +kernel
theorem dX6_meanWear_2 : decode cX6_meanWear 2 = .ok (.iconst 0, 1) := by decide +kernel
theorem dX6_meanWear_3 : decode cX6_meanWear 3 = .ok (.istore_n 2, 1) := by decide +kernel
theorem dX6_meanWear_4 : decode cX6_meanWear 4 = .ok (.iconst 0, 1) := by decide +kernel
theorem dX6_meanWear_5 : decode cX6_meanWear 5 = .ok (.istore_n 3, 1) := by decide +kernel
theorem dX6_meanWear_6 : decode cX6_meanWear 6 = .ok (.iload_n 3, 1) := by decide +kernel
theorem dX6_meanWear_7 : decode cX6_meanWear 7 = .ok (.aload_n 0, 1) := by decide +kernel
theorem dX6_meanWear_8 : decode cX6_meanWear 8 = .ok (.getfield 94, 3) := by decide +kernel
theorem dX6_meanWear_11 : decode cX6_meanWear 11 = .ok (.if_icmp .ge 49, 3) := by decide +kernel
theorem dX6_meanWear_14 : decode cX6_meanWear 14 = .ok (.iconst 0, 1) := by decide +kernel
theorem dX6_meanWear_15 : decode cX6_meanWear 15 = .ok (.istore 4, 2) := by decide +kernel
theorem dX6_meanWear_17 : decode cX6_meanWear 17 = .ok (.iload 4, 2) := by decide +kernel
theorem dX6_meanWear_19 : decode cX6_meanWear 19 = .ok (.iconst 1, 1) := by decide +kernel
theorem dX6_meanWear_20 : decode cX6_meanWear 20 = .ok (.iadd, 1) := by decide +kernel
theorem dX6_meanWear_21 : decode cX6_meanWear 21 = .ok (.aload_n 0, 1) := by decide +kernel
theorem dX6_meanWear_22 : decode cX6_meanWear 22 = .ok (.getfield 49, 3) := by decide +kernel
theorem dX6_meanWear_25 : decode cX6_meanWear 25 = .ok (.iload_n 3, 1) := by decide +kernel
theorem dX6_meanWear_26 : decode cX6_meanWear 26 = .ok (.iaload, 1) := by decide +kernel
theorem dX6_meanWear_27 : decode cX6_meanWear 27 = .ok (.if_icmp .ge 27, 3) := by decide +kernel
theorem dX6_meanWear_30 : decode cX6_meanWear 30 = .ok (.iload_n 1, 1) := by decide +kernel
theorem dX6_meanWear_31 : decode cX6_meanWear 31 = .ok (.aload_n 0, 1) := by decide +kernel
theorem dX6_meanWear_32 : decode cX6_meanWear 32 = .ok (.getfield 46, 3) := by decide +kernel
theorem dX6_meanWear_35 : decode cX6_meanWear 35 = .ok (.bipush 60, 2) := by decide +kernel
theorem dX6_meanWear_37 : decode cX6_meanWear 37 = .ok (.iload_n 3, 1) := by decide +kernel
theorem dX6_meanWear_38 : decode cX6_meanWear 38 = .ok (.imul, 1) := by decide +kernel
theorem dX6_meanWear_39 : decode cX6_meanWear 39 = .ok (.iload 4, 2) := by decide +kernel
theorem dX6_meanWear_41 : decode cX6_meanWear 41 = .ok (.iadd, 1) := by decide +kernel
theorem dX6_meanWear_42 : decode cX6_meanWear 42 = .ok (.iaload, 1) := by decide +kernel
theorem dX6_meanWear_43 : decode cX6_meanWear 43 = .ok (.iadd, 1) := by decide +kernel
theorem dX6_meanWear_44 : decode cX6_meanWear 44 = .ok (.istore_n 1, 1) := by decide +kernel
theorem dX6_meanWear_45 : decode cX6_meanWear 45 = .ok (.iinc 2 1, 3) := by decide +kernel
theorem dX6_meanWear_48 : decode cX6_meanWear 48 = .ok (.iinc 4 1, 3) := by decide +kernel
theorem dX6_meanWear_51 : decode cX6_meanWear 51 = .ok (.goto (-34), 3) := by decide +kernel
theorem dX6_meanWear_54 : decode cX6_meanWear 54 = .ok (.iinc 3 1, 3) := by decide +kernel
theorem dX6_meanWear_57 : decode cX6_meanWear 57 = .ok (.goto (-51), 3) := by decide +kernel
theorem dX6_meanWear_60 : decode cX6_meanWear 60 = .ok (.aload_n 0, 1) := by decide +kernel
theorem dX6_meanWear_61 : decode cX6_meanWear 61 = .ok (.iload_n 2, 1) := by decide +kernel
theorem dX6_meanWear_62 : decode cX6_meanWear 62 = .ok (.ifCond .ne 7, 3) := by decide +kernel
theorem dX6_meanWear_65 : decode cX6_meanWear 65 = .ok (.iconst 1, 1) := by decide +kernel
theorem dX6_meanWear_66 : decode cX6_meanWear 66 = .ok (.goto 4, 3) := by decide +kernel
theorem dX6_meanWear_69 : decode cX6_meanWear 69 = .ok (.iconst 0, 1) := by decide +kernel
theorem dX6_meanWear_70 : decode cX6_meanWear 70 = .ok (.invokevirtual 103, 3) := by decide +kernel
theorem dX6_meanWear_73 : decode cX6_meanWear 73 = .ok (.ifCond .eq 11, 3) := by decide +kernel
theorem dX6_meanWear_76 : decode cX6_meanWear 76 = .ok (.iload_n 1, 1) := by decide +kernel
theorem dX6_meanWear_77 : decode cX6_meanWear 77 = .ok (.i2d, 1) := by decide +kernel
theorem dX6_meanWear_78 : decode cX6_meanWear 78 = .ok (.iload_n 2, 1) := by decide +kernel
theorem dX6_meanWear_79 : decode cX6_meanWear 79 = .ok (.i2d, 1) := by decide +kernel
theorem dX6_meanWear_80 : decode cX6_meanWear 80 = .ok (.ddiv, 1) := by decide +kernel
theorem dX6_meanWear_81 : decode cX6_meanWear 81 = .ok (.goto 4, 3) := by decide +kernel
theorem dX6_meanWear_84 : decode cX6_meanWear 84 = .ok (.dconst 0, 1) := by decide +kernel
theorem dX6_meanWear_85 : decode cX6_meanWear 85 = .ok (.dreturn, 1) := by decide +kernel
theorem dX6_isSound_0 : decode cX6_isSound 0 = .ok (.aload_n 0, 1) := by decide +kernel
theorem dX6_isSound_1 : decode cX6_isSound 1 = .ok (.iconst 0, 1) := by decide +kernel
theorem dX6_isSound_2 : decode cX6_isSound 2 = .ok (.putfield 81, 3) := by decide +kernel
theorem dX6_isSound_5 : decode cX6_isSound 5 = .ok (.iconst 1, 1) := by decide +kernel
theorem dX6_isSound_6 : decode cX6_isSound 6 = .ok (.ireturn, 1) := by decide +kernel
end
section
theorem dX5_init_0 : decode cX5_init 0 = .ok (.aload_n 0, 1) := by decide +kernel
theorem dX5_init_1 : decode cX5_init 1 = .ok (.invokespecial 3, 3) := by decide +kernel
theorem dX5_init_4 : decode cX5_init 4 = .ok (.aload_n 0, 1) := by decide +kernel
theorem dX5_init_5 : decode cX5_init 5 = .ok (.new 9, 3) := by decide +kernel
theorem dX5_init_8 : decode cX5_init 8 = .ok (.dup, 1) := by decide +kernel
theorem dX5_init_9 : decode cX5_init 9 = .ok (.invokespecial 11, 3) := by decide +kernel
theorem dX5_init_12 : decode cX5_init 12 = .ok (.putfield 12, 3) := by decide +kernel
theorem dX5_init_15 : decode cX5_init 15 = .ok (.aload_n 0, 1) := by decide +kernel
theorem dX5_init_16 : decode cX5_init 16 = .ok (.new 9, 3) := by decide +kernel
theorem dX5_init_19 : decode cX5_init 19 = .ok (.dup, 1) := by decide +kernel
theorem dX5_init_20 : decode cX5_init 20 = .ok (.invokespecial 11, 3) := by decide +kernel
theorem dX5_init_23 : decode cX5_init 23 = .ok (.putfield 16, 3) := by decide +kernel
theorem dX5_init_26 : decode cX5_init 26 = .ok (.aload_n 0, 1) := by decide +kernel
theorem dX5_init_27 : decode cX5_init 27 = .ok (.new 9, 3) := by decide +kernel
theorem dX5_init_30 : decode cX5_init 30 = .ok (.dup, 1) := by decide +kernel
theorem dX5_init_31 : decode cX5_init 31 = .ok (.invokespecial 11, 3) := by decide +kernel
theorem dX5_init_34 : decode cX5_init 34 = .ok (.putfield 19, 3) := by decide +kernel
theorem dX5_init_37 : decode cX5_init 37 = .ok (.aload_n 0, 1) := by decide +kernel
theorem dX5_init_38 : decode cX5_init 38 = .ok (.new 9, 3) := by decide +kernel
theorem dX5_init_41 : decode cX5_init 41 = .ok (.dup, 1) := by decide +kernel
theorem dX5_init_42 : decode cX5_init 42 = .ok (.invokespecial 11, 3) := by decide +kernel
theorem dX5_init_45 : decode cX5_init 45 = .ok (.putfield 22, 3) := by decide +kernel
theorem dX5_init_48 : decode cX5_init 48 = .ok (.aload_n 0, 1) := by decide +kernel
theorem dX5_init_49 : decode cX5_init 49 = .ok (.new 9, 3) := by decide +kernel
theorem dX5_init_52 : decode cX5_init 52 = .ok (.dup, 1) := by decide +kernel
theorem dX5_init_53 : decode cX5_init 53 = .ok (.invokespecial 11, 3) := by decide +kernel
theorem dX5_init_56 : decode cX5_init 56 = .ok (.putfield 25, 3) := by decide +kernel
theorem dX5_init_59 : decode cX5_init 59 = .ok (.aload_n 0, 1) := by decide +kernel
theorem dX5_init_60 : decode cX5_init 60 = .ok (.bipush 10, 2) := by decide +kernel
theorem dX5_init_62 : decode cX5_init 62 = .ok (.putfield 28, 3) := by decide +kernel
theorem dX5_init_65 : decode cX5_init 65 = .ok (.aload_n 0, 1) := by decide +kernel
theorem dX5_init_66 : decode cX5_init 66 = .ok (.iconst 0, 1) := by decide +kernel
theorem dX5_init_67 : decode cX5_init 67 = .ok (.putfield 32, 3) := by decide +kernel
theorem dX5_init_70 : decode cX5_init 70 = .ok (.aload_n 0, 1) := by decide +kernel
theorem dX5_init_71 : decode cX5_init 71 = .ok (.lconst 0, 1) := by decide +kernel
theorem dX5_init_72 : decode cX5_init 72 = .ok (.putfield 35, 3) := by decide +kernel
theorem dX5_init_75 : decode cX5_init 75 = .ok (.return_, 1) := by decide +kernel
theorem dX5_addFilm_0 : decode cX5_addFilm 0 = .ok (.aload_n 0, 1) := by decide +kernel
theorem dX5_addFilm_1 : decode cX5_addFilm 1 = .ok (.getfield 12, 3) := by decide +kernel
theorem dX5_addFilm_4 : decode cX5_addFilm 4 = .ok (.invokevirtual 39, 3) := by decide +kernel
theorem dX5_addFilm_7 : decode cX5_addFilm 7 = .ok (.bipush 6, 2) := by decide +kernel
theorem dX5_addFilm_9 : decode cX5_addFilm 9 = .ok (.if_icmp .lt 13, 3) := by decide +kernel
theorem dX5_addFilm_12 : decode cX5_addFilm 12 = .ok (.new 43, 3) := by decide +kernel
theorem dX5_addFilm_15 : decode cX5_addFilm 15 = .ok (.dup, 1) := by decide +kernel
theorem dX5_addFilm_16 : decode cX5_addFilm 16 = .ok (.ldc 45, 2) := by decide +kernel
theorem dX5_addFilm_18 : decode cX5_addFilm 18 = .ok (.invokespecial 47, 3) := by decide +kernel
theorem dX5_addFilm_21 : decode cX5_addFilm 21 = .ok (.athrow, 1) := by decide +kernel
theorem dX5_addFilm_22 : decode cX5_addFilm 22 = .ok (.aload_n 0, 1) := by decide +kernel
theorem dX5_addFilm_23 : decode cX5_addFilm 23 = .ok (.getfield 12, 3) := by decide +kernel
theorem dX5_addFilm_26 : decode cX5_addFilm 26 = .ok (.new 50, 3) := by decide +kernel
theorem dX5_addFilm_29 : decode cX5_addFilm 29 = .ok (.dup, 1) := by decide +kernel
theorem dX5_addFilm_30 : decode cX5_addFilm 30 = .ok (.invokespecial 52, 3) := by decide +kernel
theorem dX5_addFilm_33 : decode cX5_addFilm 33 = .ok (.invokevirtual 53, 3) := by decide +kernel
theorem dX5_addFilm_36 : decode cX5_addFilm 36 = .ok (.pop, 1) := by decide +kernel
theorem dX5_addFilm_37 : decode cX5_addFilm 37 = .ok (.aload_n 0, 1) := by decide +kernel
theorem dX5_addFilm_38 : decode cX5_addFilm 38 = .ok (.getfield 12, 3) := by decide +kernel
theorem dX5_addFilm_41 : decode cX5_addFilm 41 = .ok (.invokevirtual 39, 3) := by decide +kernel
theorem dX5_addFilm_44 : decode cX5_addFilm 44 = .ok (.iconst 1, 1) := by decide +kernel
theorem dX5_addFilm_45 : decode cX5_addFilm 45 = .ok (.isub, 1) := by decide +kernel
theorem dX5_addFilm_46 : decode cX5_addFilm 46 = .ok (.ireturn, 1) := by decide +kernel
theorem dX5_addShot_0 : decode cX5_addShot 0 = .ok (.aload_n 0, 1) := by decide +kernel
theorem dX5_addShot_1 : decode cX5_addShot 1 = .ok (.iload_n 1, 1) := by decide +kernel
theorem dX5_addShot_2 : decode cX5_addShot 2 = .ok (.invokevirtual 57, 3) := by decide +kernel
theorem dX5_addShot_5 : decode cX5_addShot 5 = .ok (.astore 4, 2) := by decide +kernel
theorem dX5_addShot_7 : decode cX5_addShot 7 = .ok (.aload_n 0, 1) := by decide +kernel
theorem dX5_addShot_8 : decode cX5_addShot 8 = .ok (.iload_n 2, 1) := by decide +kernel
theorem dX5_addShot_9 : decode cX5_addShot 9 = .ok (.iload_n 3, 1) := by decide +kernel
theorem dX5_addShot_10 : decode cX5_addShot 10 = .ok (.invokevirtual 61, 3) := by decide +kernel
theorem dX5_addShot_13 : decode cX5_addShot 13 = .ok (.aload_n 0, 1) := by decide +kernel
theorem dX5_addShot_14 : decode cX5_addShot 14 = .ok (.getfield 16, 3) := by decide +kernel
theorem dX5_addShot_17 : decode cX5_addShot 17 = .ok (.invokevirtual 39, 3) := by decide +kernel
theorem dX5_addShot_20 : decode cX5_addShot 20 = .ok (.bipush 60, 2) := by decide +kernel
theorem dX5_addShot_22 : decode cX5_addShot 22 = .ok (.if_icmp .lt 13, 3) := by decide +kernel
theorem dX5_addShot_25 : decode cX5_addShot 25 = .ok (.new 43, 3) := by decide +kernel
theorem dX5_addShot_28 : decode cX5_addShot 28 = .ok (.dup, 1) := by decide +kernel
theorem dX5_addShot_29 : decode cX5_addShot 29 = .ok (.ldc 65, 2) := by decide +kernel
theorem dX5_addShot_31 : decode cX5_addShot 31 = .ok (.invokespecial 47, 3) := by decide +kernel
theorem dX5_addShot_34 : decode cX5_addShot 34 = .ok (.athrow, 1) := by decide +kernel
theorem dX5_addShot_35 : decode cX5_addShot 35 = .ok (.aload_n 0, 1) := by decide +kernel
theorem dX5_addShot_36 : decode cX5_addShot 36 = .ok (.aload 4, 2) := by decide +kernel
theorem dX5_addShot_38 : decode cX5_addShot 38 = .ok (.iload_n 2, 1) := by decide +kernel
theorem dX5_addShot_39 : decode cX5_addShot 39 = .ok (.iload_n 3, 1) := by decide +kernel
theorem dX5_addShot_40 : decode cX5_addShot 40 = .ok (.invokevirtual 67, 3) := by decide +kernel
theorem dX5_addShot_43 : decode cX5_addShot 43 = .ok (.astore 5, 2) := by decide +kernel
theorem dX5_addShot_45 : decode cX5_addShot 45 = .ok (.aload 4, 2) := by decide +kernel
theorem dX5_addShot_47 : decode cX5_addShot 47 = .ok (.getfield 71, 3) := by decide +kernel
theorem dX5_addShot_50 : decode cX5_addShot 50 = .ok (.aload 5, 2) := by decide +kernel
theorem dX5_addShot_52 : decode cX5_addShot 52 = .ok (.invokevirtual 53, 3) := by decide +kernel
theorem dX5_addShot_55 : decode cX5_addShot 55 = .ok (.pop, 1) := by decide +kernel
theorem dX5_addShot_56 : decode cX5_addShot 56 = .ok (.aload 5, 2) := by decide +kernel
theorem dX5_addShot_58 : decode cX5_addShot 58 = .ok (.getfield 74, 3) := by decide +kernel
theorem dX5_addShot_61 : decode cX5_addShot 61 = .ok (.ireturn, 1) := by decide +kernel
theorem dX5_addReel_0 : decode cX5_addReel 0 = .ok (.aload_n 0, 1) := by decide +kernel
theorem dX5_addReel_1 : decode cX5_addReel 1 = .ok (.iload_n 1, 1) := by decide +kernel
theorem dX5_addReel_2 : decode cX5_addReel 2 = .ok (.invokevirtual 57, 3) := by decide +kernel
theorem dX5_addReel_5 : decode cX5_addReel 5 = .ok (.astore_n 2, 1) := by decide +kernel
theorem dX5_addReel_6 : decode cX5_addReel 6 = .ok (.aload_n 0, 1) := by decide +kernel
theorem dX5_addReel_7 : decode cX5_addReel 7 = .ok (.getfield 19, 3) := by decide +kernel
theorem dX5_addReel_10 : decode cX5_addReel 10 = .ok (.invokevirtual 39, 3) := by decide +kernel
theorem dX5_addReel_13 : decode cX5_addReel 13 = .ok (.bipush 24, 2) := by decide +kernel
theorem dX5_addReel_15 : decode cX5_addReel 15 = .ok (.if_icmp .lt 13, 3) := by decide +kernel
theorem dX5_addReel_18 : decode cX5_addReel 18 = .ok (.new 43, 3) := by decide +kernel
theorem dX5_addReel_21 : decode cX5_addReel 21 = .ok (.dup, 1) := by decide +kernel
theorem dX5_addReel_22 : decode cX5_addReel 22 = .ok (.ldc 79, 2) := by decide +kernel
theorem dX5_addReel_24 : decode cX5_addReel 24 = .ok (.invokespecial 47, 3) := by decide +kernel
theorem dX5_addReel_27 : decode cX5_addReel 27 = .ok (.athrow, 1) := by decide +kernel
theorem dX5_addReel_28 : decode cX5_addReel 28 = .ok (.aload_n 0, 1) := by decide +kernel
theorem dX5_addReel_29 : decode cX5_addReel 29 = .ok (.aload_n 2, 1) := by decide +kernel
theorem dX5_addReel_30 : decode cX5_addReel 30 = .ok (.invokevirtual 81, 3) := by decide +kernel
theorem dX5_addReel_33 : decode cX5_addReel 33 = .ok (.getfield 85, 3) := by decide +kernel
theorem dX5_addReel_36 : decode cX5_addReel 36 = .ok (.ireturn, 1) := by decide +kernel
theorem dX5_put_0 : decode cX5_put 0 = .ok (.aload_n 0, 1) := by decide +kernel
theorem dX5_put_1 : decode cX5_put 1 = .ok (.iload_n 1, 1) := by decide +kernel
theorem dX5_put_2 : decode cX5_put 2 = .ok (.invokevirtual 88, 3) := by decide +kernel
theorem dX5_put_5 : decode cX5_put 5 = .ok (.astore_n 3, 1) := by decide +kernel
theorem dX5_put_6 : decode cX5_put 6 = .ok (.aload_n 0, 1) := by decide +kernel
theorem dX5_put_7 : decode cX5_put 7 = .ok (.iload_n 2, 1) := by decide +kernel
theorem dX5_put_8 : decode cX5_put 8 = .ok (.invokevirtual 92, 3) := by decide +kernel
theorem dX5_put_11 : decode cX5_put 11 = .ok (.astore 4, 2) := by decide +kernel
theorem dX5_put_13 : decode cX5_put 13 = .ok (.aload_n 3, 1) := by decide +kernel
theorem dX5_put_14 : decode cX5_put 14 = .ok (.getfield 96, 3) := by decide +kernel
theorem dX5_put_17 : decode cX5_put 17 = .ok (.aload 4, 2) := by decide +kernel
theorem dX5_put_19 : decode cX5_put 19 = .ok (.getfield 100, 3) := by decide +kernel
theorem dX5_put_22 : decode cX5_put 22 = .ok (.if_acmp .eq 13, 3) := by decide +kernel
theorem dX5_put_25 : decode cX5_put 25 = .ok (.new 101, 3) := by decide +kernel
theorem dX5_put_28 : decode cX5_put 28 = .ok (.dup, 1) := by decide +kernel
theorem dX5_put_29 : decode cX5_put 29 = .ok (.ldc 103, 2) := by decide +kernel
theorem dX5_put_31 : decode cX5_put 31 = .ok (.invokespecial 105, 3) := by decide +kernel
theorem dX5_put_34 : decode cX5_put 34 = .ok (.athrow, 1) := by decide +kernel
theorem dX5_put_35 : decode cX5_put 35 = .ok (.aload 4, 2) := by decide +kernel
theorem dX5_put_37 : decode cX5_put 37 = .ok (.invokevirtual 106, 3) := by decide +kernel
theorem dX5_put_40 : decode cX5_put 40 = .ok (.ifCond .eq 13, 3) := by decide +kernel
theorem dX5_put_43 : decode cX5_put 43 = .ok (.aload_n 0, 1) := by decide +kernel
theorem dX5_put_44 : decode cX5_put 44 = .ok (.aload 4, 2) := by decide +kernel
theorem dX5_put_46 : decode cX5_put 46 = .ok (.aload_n 3, 1) := by decide +kernel
theorem dX5_put_47 : decode cX5_put 47 = .ok (.invokevirtual 110, 3) := by decide +kernel
theorem dX5_put_50 : decode cX5_put 50 = .ok (.ifCond .eq 13, 3) := by decide +kernel
theorem dX5_put_53 : decode cX5_put 53 = .ok (.new 114, 3) := by decide +kernel
theorem dX5_put_56 : decode cX5_put 56 = .ok (.dup, 1) := by decide +kernel
theorem dX5_put_57 : decode cX5_put 57 = .ok (.ldc 116, 2) := by decide +kernel
theorem dX5_put_59 : decode cX5_put 59 = .ok (.invokespecial 118, 3) := by decide +kernel
theorem dX5_put_62 : decode cX5_put 62 = .ok (.athrow, 1) := by decide +kernel
theorem dX5_put_63 : decode cX5_put 63 = .ok (.aload_n 0, 1) := by decide +kernel
theorem dX5_put_64 : decode cX5_put 64 = .ok (.aload_n 3, 1) := by decide +kernel
theorem dX5_put_65 : decode cX5_put 65 = .ok (.getfield 96, 3) := by decide +kernel
theorem dX5_put_68 : decode cX5_put 68 = .ok (.invokevirtual 119, 3) := by decide +kernel
theorem dX5_put_71 : decode cX5_put 71 = .ok (.aload_n 3, 1) := by decide +kernel
theorem dX5_put_72 : decode cX5_put 72 = .ok (.aload 4, 2) := by decide +kernel
theorem dX5_put_74 : decode cX5_put 74 = .ok (.invokevirtual 123, 3) := by decide +kernel
theorem dX5_put_77 : decode cX5_put 77 = .ok (.aload_n 3, 1) := by decide +kernel
theorem dX5_put_78 : decode cX5_put 78 = .ok (.getfield 127, 3) := by decide +kernel
theorem dX5_put_81 : decode cX5_put 81 = .ok (.invokevirtual 39, 3) := by decide +kernel
theorem dX5_put_84 : decode cX5_put 84 = .ok (.ireturn, 1) := by decide +kernel
theorem dX5_found_0 : decode cX5_found 0 = .ok (.aload_n 0, 1) := by decide +kernel
theorem dX5_found_1 : decode cX5_found 1 = .ok (.iload_n 1, 1) := by decide +kernel
theorem dX5_found_2 : decode cX5_found 2 = .ok (.invokevirtual 57, 3) := by decide +kernel
theorem dX5_found_5 : decode cX5_found 5 = .ok (.astore 5, 2) := by decide +kernel
theorem dX5_found_7 : decode cX5_found 7 = .ok (.iload_n 2, 1) := by decide +kernel
theorem dX5_found_8 : decode cX5_found 8 = .ok (.ifCond .lt 15, 3) := by decide +kernel
theorem dX5_found_11 : decode cX5_found 11 = .ok (.iload_n 2, 1) := by decide +kernel
theorem dX5_found_12 : decode cX5_found 12 = .ok (.aload 5, 2) := by decide +kernel
theorem dX5_found_14 : decode cX5_found 14 = .ok (.getfield 71, 3) := by decide +kernel
theorem dX5_found_17 : decode cX5_found 17 = .ok (.invokevirtual 39, 3) := by decide +kernel
theorem dX5_found_20 : decode cX5_found 20 = .ok (.if_icmp .le 13, 3) := by decide +kernel
theorem dX5_found_23 : decode cX5_found 23 = .ok (.new 128, 3) := by decide +kernel
theorem dX5_found_26 : decode cX5_found 26 = .ok (.dup, 1) := by decide +kernel
theorem dX5_found_27 : decode cX5_found 27 = .ok (.ldc 130, 2) := by decide +kernel
theorem dX5_found_29 : decode cX5_found 29 = .ok (.invokespecial 132, 3) := by decide +kernel
theorem dX5_found_32 : decode cX5_found 32 = .ok (.athrow, 1) := by decide +kernel
theorem dX5_found_33 : decode cX5_found 33 = .ok (.aload_n 0, 1) := by decide +kernel
theorem dX5_found_34 : decode cX5_found 34 = .ok (.iload_n 3, 1) := by decide +kernel
theorem dX5_found_35 : decode cX5_found 35 = .ok (.iload 4, 2) := by decide +kernel
theorem dX5_found_37 : decode cX5_found 37 = .ok (.invokevirtual 61, 3) := by decide +kernel
theorem dX5_found_40 : decode cX5_found 40 = .ok (.aload_n 0, 1) := by decide +kernel
theorem dX5_found_41 : decode cX5_found 41 = .ok (.aload 5, 2) := by decide +kernel
theorem dX5_found_43 : decode cX5_found 43 = .ok (.invokevirtual 119, 3) := by decide +kernel
theorem dX5_found_46 : decode cX5_found 46 = .ok (.aload_n 0, 1) := by decide +kernel
theorem dX5_found_47 : decode cX5_found 47 = .ok (.getfield 16, 3) := by decide +kernel
theorem dX5_found_50 : decode cX5_found 50 = .ok (.invokevirtual 39, 3) := by decide +kernel
theorem dX5_found_53 : decode cX5_found 53 = .ok (.bipush 60, 2) := by decide +kernel
theorem dX5_found_55 : decode cX5_found 55 = .ok (.if_icmp .ge 15, 3) := by decide +kernel
theorem dX5_found_58 : decode cX5_found 58 = .ok (.aload_n 0, 1) := by decide +kernel
theorem dX5_found_59 : decode cX5_found 59 = .ok (.getfield 19, 3) := by decide +kernel
theorem dX5_found_62 : decode cX5_found 62 = .ok (.invokevirtual 39, 3) := by decide +kernel
theorem dX5_found_65 : decode cX5_found 65 = .ok (.bipush 24, 2) := by decide +kernel
theorem dX5_found_67 : decode cX5_found 67 = .ok (.if_icmp .lt 13, 3) := by decide +kernel
theorem dX5_found_70 : decode cX5_found 70 = .ok (.new 43, 3) := by decide +kernel
theorem dX5_found_73 : decode cX5_found 73 = .ok (.dup, 1) := by decide +kernel
theorem dX5_found_74 : decode cX5_found 74 = .ok (.ldc 133, 2) := by decide +kernel
theorem dX5_found_76 : decode cX5_found 76 = .ok (.invokespecial 47, 3) := by decide +kernel
theorem dX5_found_79 : decode cX5_found 79 = .ok (.athrow, 1) := by decide +kernel
theorem dX5_found_80 : decode cX5_found 80 = .ok (.aload_n 0, 1) := by decide +kernel
theorem dX5_found_81 : decode cX5_found 81 = .ok (.aload 5, 2) := by decide +kernel
theorem dX5_found_83 : decode cX5_found 83 = .ok (.iload_n 3, 1) := by decide +kernel
theorem dX5_found_84 : decode cX5_found 84 = .ok (.iload 4, 2) := by decide +kernel
theorem dX5_found_86 : decode cX5_found 86 = .ok (.invokevirtual 67, 3) := by decide +kernel
theorem dX5_found_89 : decode cX5_found 89 = .ok (.astore 6, 2) := by decide +kernel
theorem dX5_found_91 : decode cX5_found 91 = .ok (.aload 5, 2) := by decide +kernel
theorem dX5_found_93 : decode cX5_found 93 = .ok (.getfield 71, 3) := by decide +kernel
theorem dX5_found_96 : decode cX5_found 96 = .ok (.iload_n 2, 1) := by decide +kernel
theorem dX5_found_97 : decode cX5_found 97 = .ok (.aload 6, 2) := by decide +kernel
theorem dX5_found_99 : decode cX5_found 99 = .ok (.invokevirtual 135, 3) := by decide +kernel
theorem dX5_found_102 : decode cX5_found 102 = .ok (.aload_n 0, 1) := by decide +kernel
theorem dX5_found_103 : decode cX5_found 103 = .ok (.aload 5, 2) := by decide +kernel
theorem dX5_found_105 : decode cX5_found 105 = .ok (.invokevirtual 81, 3) := by decide +kernel
theorem dX5_found_108 : decode cX5_found 108 = .ok (.astore 7, 2) := by decide +kernel
theorem dX5_found_110 : decode cX5_found 110 = .ok (.aload 7, 2) := by decide +kernel
theorem dX5_found_112 : decode cX5_found 112 = .ok (.aload 6, 2) := by decide +kernel
theorem dX5_found_114 : decode cX5_found 114 = .ok (.invokevirtual 123, 3) := by decide +kernel
theorem dX5_found_117 : decode cX5_found 117 = .ok (.aload 7, 2) := by decide +kernel
theorem dX5_found_119 : decode cX5_found 119 = .ok (.getfield 85, 3) := by decide +kernel
theorem dX5_found_122 : decode cX5_found 122 = .ok (.ireturn, 1) := by decide +kernel
theorem dX5_join_0 : decode cX5_join 0 = .ok (.aload_n 0, 1) := by decide +kernel
theorem dX5_join_1 : decode cX5_join 1 = .ok (.iload_n 1, 1) := by decide +kernel
theorem dX5_join_2 : decode cX5_join 2 = .ok (.invokevirtual 88, 3) := by decide +kernel
theorem dX5_join_5 : decode cX5_join 5 = .ok (.astore_n 3, 1) := by decide +kernel
theorem dX5_join_6 : decode cX5_join 6 = .ok (.aload_n 0, 1) := by decide +kernel
theorem dX5_join_7 : decode cX5_join 7 = .ok (.iload_n 2, 1) := by decide +kernel
theorem dX5_join_8 : decode cX5_join 8 = .ok (.invokevirtual 88, 3) := by decide +kernel
theorem dX5_join_11 : decode cX5_join 11 = .ok (.astore 4, 2) := by decide +kernel
theorem dX5_join_13 : decode cX5_join 13 = .ok (.aload_n 3, 1) := by decide +kernel
theorem dX5_join_14 : decode cX5_join 14 = .ok (.aload 4, 2) := by decide +kernel
theorem dX5_join_16 : decode cX5_join 16 = .ok (.if_acmp .eq 15, 3) := by decide +kernel
theorem dX5_join_19 : decode cX5_join 19 = .ok (.aload_n 3, 1) := by decide +kernel
theorem dX5_join_20 : decode cX5_join 20 = .ok (.getfield 96, 3) := by decide +kernel
theorem dX5_join_23 : decode cX5_join 23 = .ok (.aload 4, 2) := by decide +kernel
theorem dX5_join_25 : decode cX5_join 25 = .ok (.getfield 96, 3) := by decide +kernel
theorem dX5_join_28 : decode cX5_join 28 = .ok (.if_acmp .eq 13, 3) := by decide +kernel
theorem dX5_join_31 : decode cX5_join 31 = .ok (.new 101, 3) := by decide +kernel
theorem dX5_join_34 : decode cX5_join 34 = .ok (.dup, 1) := by decide +kernel
theorem dX5_join_35 : decode cX5_join 35 = .ok (.ldc 138, 2) := by decide +kernel
theorem dX5_join_37 : decode cX5_join 37 = .ok (.invokespecial 105, 3) := by decide +kernel
theorem dX5_join_40 : decode cX5_join 40 = .ok (.athrow, 1) := by decide +kernel
theorem dX5_join_41 : decode cX5_join 41 = .ok (.aload_n 0, 1) := by decide +kernel
theorem dX5_join_42 : decode cX5_join 42 = .ok (.aload_n 3, 1) := by decide +kernel
theorem dX5_join_43 : decode cX5_join 43 = .ok (.aload 4, 2) := by decide +kernel
theorem dX5_join_45 : decode cX5_join 45 = .ok (.invokevirtual 140, 3) := by decide +kernel
theorem dX5_join_48 : decode cX5_join 48 = .ok (.ifCond .ne 13, 3) := by decide +kernel
theorem dX5_join_51 : decode cX5_join 51 = .ok (.new 114, 3) := by decide +kernel
theorem dX5_join_54 : decode cX5_join 54 = .ok (.dup, 1) := by decide +kernel
theorem dX5_join_55 : decode cX5_join 55 = .ok (.ldc 144, 2) := by decide +kernel
theorem dX5_join_57 : decode cX5_join 57 = .ok (.invokespecial 118, 3) := by decide +kernel
theorem dX5_join_60 : decode cX5_join 60 = .ok (.athrow, 1) := by decide +kernel
theorem dX5_join_61 : decode cX5_join 61 = .ok (.aload_n 0, 1) := by decide +kernel
theorem dX5_join_62 : decode cX5_join 62 = .ok (.aload_n 3, 1) := by decide +kernel
theorem dX5_join_63 : decode cX5_join 63 = .ok (.getfield 96, 3) := by decide +kernel
theorem dX5_join_66 : decode cX5_join 66 = .ok (.invokevirtual 119, 3) := by decide +kernel
theorem dX5_join_69 : decode cX5_join 69 = .ok (.aload 4, 2) := by decide +kernel
theorem dX5_join_71 : decode cX5_join 71 = .ok (.getfield 127, 3) := by decide +kernel
theorem dX5_join_74 : decode cX5_join 74 = .ok (.invokevirtual 39, 3) := by decide +kernel
theorem dX5_join_77 : decode cX5_join 77 = .ok (.istore 5, 2) := by decide +kernel
theorem dX5_join_79 : decode cX5_join 79 = .ok (.iconst 0, 1) := by decide +kernel
theorem dX5_join_80 : decode cX5_join 80 = .ok (.istore 6, 2) := by decide +kernel
theorem dX5_join_82 : decode cX5_join 82 = .ok (.iload 6, 2) := by decide +kernel
theorem dX5_join_84 : decode cX5_join 84 = .ok (.iload 5, 2) := by decide +kernel
theorem dX5_join_86 : decode cX5_join 86 = .ok (.if_icmp .ge 26, 3) := by decide +kernel
theorem dX5_join_89 : decode cX5_join 89 = .ok (.aload_n 3, 1) := by decide +kernel
theorem dX5_join_90 : decode cX5_join 90 = .ok (.aload 4, 2) := by decide +kernel
theorem dX5_join_92 : decode cX5_join 92 = .ok (.getfield 127, 3) := by decide +kernel
theorem dX5_join_95 : decode cX5_join 95 = .ok (.iload 6, 2) := by decide +kernel
theorem dX5_join_97 : decode cX5_join 97 = .ok (.invokevirtual 146, 3) := by decide +kernel
theorem dX5_join_100 : decode cX5_join 100 = .ok (.checkcast 75, 3) := by decide +kernel
theorem dX5_join_103 : decode cX5_join 103 = .ok (.invokevirtual 123, 3) := by decide +kernel
theorem dX5_join_106 : decode cX5_join 106 = .ok (.iinc 6 1, 3) := by decide +kernel
theorem dX5_join_109 : decode cX5_join 109 = .ok (.goto (-27), 3) := by decide +kernel
theorem dX5_join_112 : decode cX5_join 112 = .ok (.aload 4, 2) := by decide +kernel
theorem dX5_join_114 : decode cX5_join 114 = .ok (.getfield 127, 3) := by decide +kernel
theorem dX5_join_117 : decode cX5_join 117 = .ok (.invokevirtual 150, 3) := by decide +kernel
theorem dX5_join_120 : decode cX5_join 120 = .ok (.aload_n 3, 1) := by decide +kernel
theorem dX5_join_121 : decode cX5_join 121 = .ok (.getfield 127, 3) := by decide +kernel
theorem dX5_join_124 : decode cX5_join 124 = .ok (.invokevirtual 39, 3) := by decide +kernel
theorem dX5_join_127 : decode cX5_join 127 = .ok (.ireturn, 1) := by decide +kernel
theorem dX5_shots_0 : decode cX5_shots 0 = .ok (.aload_n 0, 1) := by decide +kernel
theorem dX5_shots_1 : decode cX5_shots 1 = .ok (.iload_n 1, 1) := by decide +kernel
theorem dX5_shots_2 : decode cX5_shots 2 = .ok (.invokevirtual 57, 3) := by decide +kernel
theorem dX5_shots_5 : decode cX5_shots 5 = .ok (.getfield 71, 3) := by decide +kernel
theorem dX5_shots_8 : decode cX5_shots 8 = .ok (.invokevirtual 39, 3) := by decide +kernel
theorem dX5_shots_11 : decode cX5_shots 11 = .ok (.ireturn, 1) := by decide +kernel
theorem dX5_shotOf_0 : decode cX5_shotOf 0 = .ok (.aload_n 0, 1) := by decide +kernel
theorem dX5_shotOf_1 : decode cX5_shotOf 1 = .ok (.iload_n 1, 1) := by decide +kernel
theorem dX5_shotOf_2 : decode cX5_shotOf 2 = .ok (.invokevirtual 57, 3) := by decide +kernel
theorem dX5_shotOf_5 : decode cX5_shotOf 5 = .ok (.astore_n 3, 1) := by decide +kernel
theorem dX5_shotOf_6 : decode cX5_shotOf 6 = .ok (.iload_n 2, 1) := by decide +kernel
theorem dX5_shotOf_7 : decode cX5_shotOf 7 = .ok (.ifCond .lt 14, 3) := by decide +kernel
theorem dX5_shotOf_10 : decode cX5_shotOf 10 = .ok (.iload_n 2, 1) := by decide +kernel
theorem dX5_shotOf_11 : decode cX5_shotOf 11 = .ok (.aload_n 3, 1) := by decide +kernel
theorem dX5_shotOf_12 : decode cX5_shotOf 12 = .ok (.getfield 71, 3) := by decide +kernel
theorem dX5_shotOf_15 : decode cX5_shotOf 15 = .ok (.invokevirtual 39, 3) := by decide +kernel
theorem dX5_shotOf_18 : decode cX5_shotOf 18 = .ok (.if_icmp .lt 13, 3) := by decide +kernel
theorem dX5_shotOf_21 : decode cX5_shotOf 21 = .ok (.new 128, 3) := by decide +kernel
theorem dX5_shotOf_24 : decode cX5_shotOf 24 = .ok (.dup, 1) := by decide +kernel
theorem dX5_shotOf_25 : decode cX5_shotOf 25 = .ok (.ldc 130, 2) := by decide +kernel
theorem dX5_shotOf_27 : decode cX5_shotOf 27 = .ok (.invokespecial 132, 3) := by decide +kernel
theorem dX5_shotOf_30 : decode cX5_shotOf 30 = .ok (.athrow, 1) := by decide +kernel
theorem dX5_shotOf_31 : decode cX5_shotOf 31 = .ok (.aload_n 3, 1) := by decide +kernel
theorem dX5_shotOf_32 : decode cX5_shotOf 32 = .ok (.getfield 71, 3) := by decide +kernel
theorem dX5_shotOf_35 : decode cX5_shotOf 35 = .ok (.iload_n 2, 1) := by decide +kernel
theorem dX5_shotOf_36 : decode cX5_shotOf 36 = .ok (.invokevirtual 146, 3) := by decide +kernel
theorem dX5_shotOf_39 : decode cX5_shotOf 39 = .ok (.checkcast 75, 3) := by decide +kernel
theorem dX5_shotOf_42 : decode cX5_shotOf 42 = .ok (.getfield 74, 3) := by decide +kernel
theorem dX5_shotOf_45 : decode cX5_shotOf 45 = .ok (.ireturn, 1) := by decide +kernel
theorem dX5_lengthOf_0 : decode cX5_lengthOf 0 = .ok (.aload_n 0, 1) := by decide +kernel
theorem dX5_lengthOf_1 : decode cX5_lengthOf 1 = .ok (.iload_n 1, 1) := by decide +kernel
theorem dX5_lengthOf_2 : decode cX5_lengthOf 2 = .ok (.invokevirtual 92, 3) := by decide +kernel
theorem dX5_lengthOf_5 : decode cX5_lengthOf 5 = .ok (.getfield 153, 3) := by decide +kernel
theorem dX5_lengthOf_8 : decode cX5_lengthOf 8 = .ok (.ireturn, 1) := by decide +kernel
theorem dX5_frameOf_0 : decode cX5_frameOf 0 = .ok (.aload_n 0, 1) := by decide +kernel
theorem dX5_frameOf_1 : decode cX5_frameOf 1 = .ok (.iload_n 1, 1) := by decide +kernel
theorem dX5_frameOf_2 : decode cX5_frameOf 2 = .ok (.invokevirtual 92, 3) := by decide +kernel
theorem dX5_frameOf_5 : decode cX5_frameOf 5 = .ok (.astore_n 2, 1) := by decide +kernel
theorem dX5_frameOf_6 : decode cX5_frameOf 6 = .ok (.aload_n 2, 1) := by decide +kernel
theorem dX5_frameOf_7 : decode cX5_frameOf 7 = .ok (.invokevirtual 106, 3) := by decide +kernel
theorem dX5_frameOf_10 : decode cX5_frameOf 10 = .ok (.ifCond .eq 13, 3) := by decide +kernel
theorem dX5_frameOf_13 : decode cX5_frameOf 13 = .ok (.new 156, 3) := by decide +kernel
theorem dX5_frameOf_16 : decode cX5_frameOf 16 = .ok (.dup, 1) := by decide +kernel
theorem dX5_frameOf_17 : decode cX5_frameOf 17 = .ok (.ldc 158, 2) := by decide +kernel
theorem dX5_frameOf_19 : decode cX5_frameOf 19 = .ok (.invokespecial 160, 3) := by decide +kernel
theorem dX5_frameOf_22 : decode cX5_frameOf 22 = .ok (.athrow, 1) := by decide +kernel
theorem dX5_frameOf_23 : decode cX5_frameOf 23 = .ok (.aload_n 2, 1) := by decide +kernel
theorem dX5_frameOf_24 : decode cX5_frameOf 24 = .ok (.getfield 100, 3) := by decide +kernel
theorem dX5_frameOf_27 : decode cX5_frameOf 27 = .ok (.aload_n 2, 1) := by decide +kernel
theorem dX5_frameOf_28 : decode cX5_frameOf 28 = .ok (.getfield 100, 3) := by decide +kernel
theorem dX5_frameOf_31 : decode cX5_frameOf 31 = .ok (.aload_n 2, 1) := by decide +kernel
theorem dX5_frameOf_32 : decode cX5_frameOf 32 = .ok (.invokevirtual 161, 3) := by decide +kernel
theorem dX5_frameOf_35 : decode cX5_frameOf 35 = .ok (.invokevirtual 165, 3) := by decide +kernel
theorem dX5_frameOf_38 : decode cX5_frameOf 38 = .ok (.ireturn, 1) := by decide +kernel
theorem dX5_shotAt_0 : decode cX5_shotAt 0 = .ok (.aload_n 0, 1) := by decide +kernel
theorem dX5_shotAt_1 : decode cX5_shotAt 1 = .ok (.iload_n 1, 1) := by decide +kernel
theorem dX5_shotAt_2 : decode cX5_shotAt 2 = .ok (.invokevirtual 57, 3) := by decide +kernel
theorem dX5_shotAt_5 : decode cX5_shotAt 5 = .ok (.astore_n 3, 1) := by decide +kernel
theorem dX5_shotAt_6 : decode cX5_shotAt 6 = .ok (.iload_n 2, 1) := by decide +kernel
theorem dX5_shotAt_7 : decode cX5_shotAt 7 = .ok (.ifCond .ge 13, 3) := by decide +kernel
theorem dX5_shotAt_10 : decode cX5_shotAt 10 = .ok (.new 156, 3) := by decide +kernel
theorem dX5_shotAt_13 : decode cX5_shotAt 13 = .ok (.dup, 1) := by decide +kernel
theorem dX5_shotAt_14 : decode cX5_shotAt 14 = .ok (.ldc 169, 2) := by decide +kernel
theorem dX5_shotAt_16 : decode cX5_shotAt 16 = .ok (.invokespecial 160, 3) := by decide +kernel
theorem dX5_shotAt_19 : decode cX5_shotAt 19 = .ok (.athrow, 1) := by decide +kernel
theorem dX5_shotAt_20 : decode cX5_shotAt 20 = .ok (.iconst 0, 1) := by decide +kernel
theorem dX5_shotAt_21 : decode cX5_shotAt 21 = .ok (.istore 4, 2) := by decide +kernel
theorem dX5_shotAt_23 : decode cX5_shotAt 23 = .ok (.iconst 0, 1) := by decide +kernel
theorem dX5_shotAt_24 : decode cX5_shotAt 24 = .ok (.istore 5, 2) := by decide +kernel
theorem dX5_shotAt_26 : decode cX5_shotAt 26 = .ok (.iload 5, 2) := by decide +kernel
theorem dX5_shotAt_28 : decode cX5_shotAt 28 = .ok (.aload_n 3, 1) := by decide +kernel
theorem dX5_shotAt_29 : decode cX5_shotAt 29 = .ok (.getfield 71, 3) := by decide +kernel
theorem dX5_shotAt_32 : decode cX5_shotAt 32 = .ok (.invokevirtual 39, 3) := by decide +kernel
theorem dX5_shotAt_35 : decode cX5_shotAt 35 = .ok (.if_icmp .ge 45, 3) := by decide +kernel
theorem dX5_shotAt_38 : decode cX5_shotAt 38 = .ok (.aload_n 3, 1) := by decide +kernel
theorem dX5_shotAt_39 : decode cX5_shotAt 39 = .ok (.getfield 71, 3) := by decide +kernel
theorem dX5_shotAt_42 : decode cX5_shotAt 42 = .ok (.iload 5, 2) := by decide +kernel
theorem dX5_shotAt_44 : decode cX5_shotAt 44 = .ok (.invokevirtual 146, 3) := by decide +kernel
theorem dX5_shotAt_47 : decode cX5_shotAt 47 = .ok (.checkcast 75, 3) := by decide +kernel
theorem dX5_shotAt_50 : decode cX5_shotAt 50 = .ok (.astore 6, 2) := by decide +kernel
theorem dX5_shotAt_52 : decode cX5_shotAt 52 = .ok (.iload 4, 2) := by decide +kernel
theorem dX5_shotAt_54 : decode cX5_shotAt 54 = .ok (.aload 6, 2) := by decide +kernel
theorem dX5_shotAt_56 : decode cX5_shotAt 56 = .ok (.invokevirtual 171, 3) := by decide +kernel
theorem dX5_shotAt_59 : decode cX5_shotAt 59 = .ok (.iadd, 1) := by decide +kernel
theorem dX5_shotAt_60 : decode cX5_shotAt 60 = .ok (.istore 4, 2) := by decide +kernel
theorem dX5_shotAt_62 : decode cX5_shotAt 62 = .ok (.iload_n 2, 1) := by decide +kernel
theorem dX5_shotAt_63 : decode cX5_shotAt 63 = .ok (.iload 4, 2) := by decide +kernel
theorem dX5_shotAt_65 : decode cX5_shotAt 65 = .ok (.if_icmp .ge 9, 3) := by decide +kernel
theorem dX5_shotAt_68 : decode cX5_shotAt 68 = .ok (.aload 6, 2) := by decide +kernel
theorem dX5_shotAt_70 : decode cX5_shotAt 70 = .ok (.getfield 74, 3) := by decide +kernel
theorem dX5_shotAt_73 : decode cX5_shotAt 73 = .ok (.ireturn, 1) := by decide +kernel
theorem dX5_shotAt_74 : decode cX5_shotAt 74 = .ok (.iinc 5 1, 3) := by decide +kernel
theorem dX5_shotAt_77 : decode cX5_shotAt 77 = .ok (.goto (-51), 3) := by decide +kernel
theorem dX5_shotAt_80 : decode cX5_shotAt 80 = .ok (.new 156, 3) := by decide +kernel
theorem dX5_shotAt_83 : decode cX5_shotAt 83 = .ok (.dup, 1) := by decide +kernel
theorem dX5_shotAt_84 : decode cX5_shotAt 84 = .ok (.ldc 169, 2) := by decide +kernel
theorem dX5_shotAt_86 : decode cX5_shotAt 86 = .ok (.invokespecial 160, 3) := by decide +kernel
theorem dX5_shotAt_89 : decode cX5_shotAt 89 = .ok (.athrow, 1) := by decide +kernel
theorem dX5_reelOf_0 : decode cX5_reelOf 0 = .ok (.aload_n 0, 1) := by decide +kernel
theorem dX5_reelOf_1 : decode cX5_reelOf 1 = .ok (.iload_n 1, 1) := by decide +kernel
theorem dX5_reelOf_2 : decode cX5_reelOf 2 = .ok (.invokevirtual 92, 3) := by decide +kernel
theorem dX5_reelOf_5 : decode cX5_reelOf 5 = .ok (.getfield 174, 3) := by decide +kernel
theorem dX5_reelOf_8 : decode cX5_reelOf 8 = .ok (.astore_n 2, 1) := by decide +kernel
theorem dX5_reelOf_9 : decode cX5_reelOf 9 = .ok (.aload_n 2, 1) := by decide +kernel
theorem dX5_reelOf_10 : decode cX5_reelOf 10 = .ok (.ifnonnull 7, 3) := by decide +kernel
theorem dX5_reelOf_13 : decode cX5_reelOf 13 = .ok (.iconst (-1), 1) := by decide +kernel
theorem dX5_reelOf_14 : decode cX5_reelOf 14 = .ok (.goto 7, 3) := by decide +kernel
theorem dX5_reelOf_17 : decode cX5_reelOf 17 = .ok (.aload_n 2, 1) := by decide +kernel
theorem dX5_reelOf_18 : decode cX5_reelOf 18 = .ok (.getfield 85, 3) := by decide +kernel
theorem dX5_reelOf_21 : decode cX5_reelOf 21 = .ok (.ireturn, 1) := by decide +kernel
theorem dX5_setLimit_0 : decode cX5_setLimit 0 = .ok (.iload_n 1, 1) := by decide +kernel
theorem dX5_setLimit_1 : decode cX5_setLimit 1 = .ok (.iconst 2, 1) := by decide +kernel
theorem dX5_setLimit_2 : decode cX5_setLimit 2 = .ok (.if_icmp .lt 9, 3) := by decide +kernel
theorem dX5_setLimit_5 : decode cX5_setLimit 5 = .ok (.iload_n 1, 1) := by decide +kernel
theorem dX5_setLimit_6 : decode cX5_setLimit 6 = .ok (.bipush 50, 2) := by decide +kernel
theorem dX5_setLimit_8 : decode cX5_setLimit 8 = .ok (.if_icmp .le 13, 3) := by decide +kernel
theorem dX5_setLimit_11 : decode cX5_setLimit 11 = .ok (.new 101, 3) := by decide +kernel
theorem dX5_setLimit_14 : decode cX5_setLimit 14 = .ok (.dup, 1) := by decide +kernel
theorem dX5_setLimit_15 : decode cX5_setLimit 15 = .ok (.ldc 178, 2) := by decide +kernel
theorem dX5_setLimit_17 : decode cX5_setLimit 17 = .ok (.invokespecial 105, 3) := by decide +kernel
theorem dX5_setLimit_20 : decode cX5_setLimit 20 = .ok (.athrow, 1) := by decide +kernel
theorem dX5_setLimit_21 : decode cX5_setLimit 21 = .ok (.aload_n 0, 1) := by decide +kernel
theorem dX5_setLimit_22 : decode cX5_setLimit 22 = .ok (.iload_n 1, 1) := by decide +kernel
theorem dX5_setLimit_23 : decode cX5_setLimit 23 = .ok (.invokevirtual 180, 3) := by decide +kernel
theorem dX5_setLimit_26 : decode cX5_setLimit 26 = .ok (.ifCond .eq 18, 3) := by decide +kernel
theorem dX5_setLimit_29 : decode cX5_setLimit 29 = .ok (.iload_n 1, 1) := by decide +kernel
theorem dX5_setLimit_30 : decode cX5_setLimit 30 = .ok (.aload_n 0, 1) := by decide +kernel
theorem dX5_setLimit_31 : decode cX5_setLimit 31 = .ok (.getfield 28, 3) := by decide +kernel
theorem dX5_setLimit_34 : decode cX5_setLimit 34 = .ok (.if_icmp .ge 20, 3) := by decide +kernel
theorem dX5_setLimit_37 : decode cX5_setLimit 37 = .ok (.aload_n 0, 1) := by decide +kernel
theorem dX5_setLimit_38 : decode cX5_setLimit 38 = .ok (.invokevirtual 184, 3) := by decide +kernel
theorem dX5_setLimit_41 : decode cX5_setLimit 41 = .ok (.ifCond .eq 13, 3) := by decide +kernel
theorem dX5_setLimit_44 : decode cX5_setLimit 44 = .ok (.new 114, 3) := by decide +kernel
theorem dX5_setLimit_47 : decode cX5_setLimit 47 = .ok (.dup, 1) := by decide +kernel
theorem dX5_setLimit_48 : decode cX5_setLimit 48 = .ok (.ldc 187, 2) := by decide +kernel
theorem dX5_setLimit_50 : decode cX5_setLimit 50 = .ok (.invokespecial 118, 3) := by decide +kernel
theorem dX5_setLimit_53 : decode cX5_setLimit 53 = .ok (.athrow, 1) := by decide +kernel
theorem dX5_setLimit_54 : decode cX5_setLimit 54 = .ok (.aload_n 0, 1) := by decide +kernel
theorem dX5_setLimit_55 : decode cX5_setLimit 55 = .ok (.getfield 28, 3) := by decide +kernel
theorem dX5_setLimit_58 : decode cX5_setLimit 58 = .ok (.istore_n 2, 1) := by decide +kernel
theorem dX5_setLimit_59 : decode cX5_setLimit 59 = .ok (.aload_n 0, 1) := by decide +kernel
theorem dX5_setLimit_60 : decode cX5_setLimit 60 = .ok (.iload_n 1, 1) := by decide +kernel
theorem dX5_setLimit_61 : decode cX5_setLimit 61 = .ok (.putfield 28, 3) := by decide +kernel
theorem dX5_setLimit_64 : decode cX5_setLimit 64 = .ok (.iload_n 2, 1) := by decide +kernel
theorem dX5_setLimit_65 : decode cX5_setLimit 65 = .ok (.ireturn, 1) := by decide +kernel
theorem dX5_run_0 : decode cX5_run 0 = .ok (.aload_n 0, 1) := by decide +kernel
theorem dX5_run_1 : decode cX5_run 1 = .ok (.iload_n 1, 1) := by decide +kernel
theorem dX5_run_2 : decode cX5_run 2 = .ok (.invokevirtual 88, 3) := by decide +kernel
theorem dX5_run_5 : decode cX5_run 5 = .ok (.astore_n 2, 1) := by decide +kernel
theorem dX5_run_6 : decode cX5_run 6 = .ok (.aload_n 2, 1) := by decide +kernel
theorem dX5_run_7 : decode cX5_run 7 = .ok (.iconst 1, 1) := by decide +kernel
theorem dX5_run_8 : decode cX5_run 8 = .ok (.aload_n 0, 1) := by decide +kernel
theorem dX5_run_9 : decode cX5_run 9 = .ok (.getfield 28, 3) := by decide +kernel
theorem dX5_run_12 : decode cX5_run 12 = .ok (.invokevirtual 189, 3) := by decide +kernel
theorem dX5_run_15 : decode cX5_run 15 = .ok (.ifCond .ne 13, 3) := by decide +kernel
theorem dX5_run_18 : decode cX5_run 18 = .ok (.new 114, 3) := by decide +kernel
theorem dX5_run_21 : decode cX5_run 21 = .ok (.dup, 1) := by decide +kernel
theorem dX5_run_22 : decode cX5_run 22 = .ok (.ldc 193, 2) := by decide +kernel
theorem dX5_run_24 : decode cX5_run 24 = .ok (.invokespecial 118, 3) := by decide +kernel
theorem dX5_run_27 : decode cX5_run 27 = .ok (.athrow, 1) := by decide +kernel
theorem dX5_run_28 : decode cX5_run 28 = .ok (.aload_n 0, 1) := by decide +kernel
theorem dX5_run_29 : decode cX5_run 29 = .ok (.aload_n 2, 1) := by decide +kernel
theorem dX5_run_30 : decode cX5_run 30 = .ok (.getfield 96, 3) := by decide +kernel
theorem dX5_run_33 : decode cX5_run 33 = .ok (.invokevirtual 119, 3) := by decide +kernel
theorem dX5_run_36 : decode cX5_run 36 = .ok (.aload_n 0, 1) := by decide +kernel
theorem dX5_run_37 : decode cX5_run 37 = .ok (.aload_n 2, 1) := by decide +kernel
theorem dX5_run_38 : decode cX5_run 38 = .ok (.iconst 1, 1) := by decide +kernel
theorem dX5_run_39 : decode cX5_run 39 = .ok (.invokevirtual 195, 3) := by decide +kernel
theorem dX5_run_42 : decode cX5_run 42 = .ok (.aload_n 2, 1) := by decide +kernel
theorem dX5_run_43 : decode cX5_run 43 = .ok (.invokevirtual 199, 3) := by decide +kernel
theorem dX5_run_46 : decode cX5_run 46 = .ok (.ireturn, 1) := by decide +kernel
theorem dX5_wear_0 : decode cX5_wear 0 = .ok (.aload_n 0, 1) := by decide +kernel
theorem dX5_wear_1 : decode cX5_wear 1 = .ok (.aload_n 0, 1) := by decide +kernel
theorem dX5_wear_2 : decode cX5_wear 2 = .ok (.iload_n 1, 1) := by decide +kernel
theorem dX5_wear_3 : decode cX5_wear 3 = .ok (.invokevirtual 88, 3) := by decide +kernel
theorem dX5_wear_6 : decode cX5_wear 6 = .ok (.iload_n 2, 1) := by decide +kernel
theorem dX5_wear_7 : decode cX5_wear 7 = .ok (.invokevirtual 202, 3) := by decide +kernel
theorem dX5_wear_10 : decode cX5_wear 10 = .ok (.getfield 206, 3) := by decide +kernel
theorem dX5_wear_13 : decode cX5_wear 13 = .ok (.ireturn, 1) := by decide +kernel
theorem dX5_mend_0 : decode cX5_mend 0 = .ok (.aload_n 0, 1) := by decide +kernel
theorem dX5_mend_1 : decode cX5_mend 1 = .ok (.iload_n 1, 1) := by decide +kernel
theorem dX5_mend_2 : decode cX5_mend 2 = .ok (.invokevirtual 88, 3) := by decide +kernel
theorem dX5_mend_5 : decode cX5_mend 5 = .ok (.astore_n 3, 1) := by decide +kernel
theorem dX5_mend_6 : decode cX5_mend 6 = .ok (.aload_n 0, 1) := by decide +kernel
theorem dX5_mend_7 : decode cX5_mend 7 = .ok (.aload_n 3, 1) := by decide +kernel
theorem dX5_mend_8 : decode cX5_mend 8 = .ok (.iload_n 2, 1) := by decide +kernel
theorem dX5_mend_9 : decode cX5_mend 9 = .ok (.invokevirtual 202, 3) := by decide +kernel
theorem dX5_mend_12 : decode cX5_mend 12 = .ok (.astore 4, 2) := by decide +kernel
theorem dX5_mend_14 : decode cX5_mend 14 = .ok (.aload 4, 2) := by decide +kernel
theorem dX5_mend_16 : decode cX5_mend 16 = .ok (.getfield 153, 3) := by decide +kernel
theorem dX5_mend_19 : decode cX5_mend 19 = .ok (.iconst 2, 1) := by decide +kernel
theorem dX5_mend_20 : decode cX5_mend 20 = .ok (.if_icmp .ge 13, 3) := by decide +kernel
theorem dX5_mend_23 : decode cX5_mend 23 = .ok (.new 114, 3) := by decide +kernel
theorem dX5_mend_26 : decode cX5_mend 26 = .ok (.dup, 1) := by decide +kernel
theorem dX5_mend_27 : decode cX5_mend 27 = .ok (.ldc 209, 2) := by decide +kernel
theorem dX5_mend_29 : decode cX5_mend 29 = .ok (.invokespecial 118, 3) := by decide +kernel
theorem dX5_mend_32 : decode cX5_mend 32 = .ok (.athrow, 1) := by decide +kernel
theorem dX5_mend_33 : decode cX5_mend 33 = .ok (.aload_n 0, 1) := by decide +kernel
theorem dX5_mend_34 : decode cX5_mend 34 = .ok (.aload_n 3, 1) := by decide +kernel
theorem dX5_mend_35 : decode cX5_mend 35 = .ok (.getfield 96, 3) := by decide +kernel
theorem dX5_mend_38 : decode cX5_mend 38 = .ok (.invokevirtual 119, 3) := by decide +kernel
theorem dX5_mend_41 : decode cX5_mend 41 = .ok (.aload 4, 2) := by decide +kernel
theorem dX5_mend_43 : decode cX5_mend 43 = .ok (.getfield 206, 3) := by decide +kernel
theorem dX5_mend_46 : decode cX5_mend 46 = .ok (.istore 5, 2) := by decide +kernel
theorem dX5_mend_48 : decode cX5_mend 48 = .ok (.aload 4, 2) := by decide +kernel
theorem dX5_mend_50 : decode cX5_mend 50 = .ok (.iconst 0, 1) := by decide +kernel
theorem dX5_mend_51 : decode cX5_mend 51 = .ok (.putfield 206, 3) := by decide +kernel
theorem dX5_mend_54 : decode cX5_mend 54 = .ok (.aload_n 0, 1) := by decide +kernel
theorem dX5_mend_55 : decode cX5_mend 55 = .ok (.aload 4, 2) := by decide +kernel
theorem dX5_mend_57 : decode cX5_mend 57 = .ok (.invokevirtual 211, 3) := by decide +kernel
theorem dX5_mend_60 : decode cX5_mend 60 = .ok (.iload 5, 2) := by decide +kernel
theorem dX5_mend_62 : decode cX5_mend 62 = .ok (.ireturn, 1) := by decide +kernel
theorem dX5_scan_0 : decode cX5_scan 0 = .ok (.aload_n 0, 1) := by decide +kernel
theorem dX5_scan_1 : decode cX5_scan 1 = .ok (.iload_n 1, 1) := by decide +kernel
theorem dX5_scan_2 : decode cX5_scan 2 = .ok (.invokevirtual 88, 3) := by decide +kernel
theorem dX5_scan_5 : decode cX5_scan 5 = .ok (.astore_n 3, 1) := by decide +kernel
theorem dX5_scan_6 : decode cX5_scan 6 = .ok (.iload_n 2, 1) := by decide +kernel
theorem dX5_scan_7 : decode cX5_scan 7 = .ok (.iconst 1, 1) := by decide +kernel
theorem dX5_scan_8 : decode cX5_scan 8 = .ok (.if_icmp .lt 8, 3) := by decide +kernel
theorem dX5_scan_11 : decode cX5_scan 11 = .ok (.iload_n 2, 1) := by decide +kernel
theorem dX5_scan_12 : decode cX5_scan 12 = .ok (.iconst 4, 1) := by decide +kernel
theorem dX5_scan_13 : decode cX5_scan 13 = .ok (.if_icmp .le 13, 3) := by decide +kernel
theorem dX5_scan_16 : decode cX5_scan 16 = .ok (.new 101, 3) := by decide +kernel
theorem dX5_scan_19 : decode cX5_scan 19 = .ok (.dup, 1) := by decide +kernel
theorem dX5_scan_20 : decode cX5_scan 20 = .ok (.ldc 214, 2) := by decide +kernel
theorem dX5_scan_22 : decode cX5_scan 22 = .ok (.invokespecial 105, 3) := by decide +kernel
theorem dX5_scan_25 : decode cX5_scan 25 = .ok (.athrow, 1) := by decide +kernel
theorem dX5_scan_26 : decode cX5_scan 26 = .ok (.aload_n 3, 1) := by decide +kernel
theorem dX5_scan_27 : decode cX5_scan 27 = .ok (.getfield 127, 3) := by decide +kernel
theorem dX5_scan_30 : decode cX5_scan 30 = .ok (.invokevirtual 216, 3) := by decide +kernel
theorem dX5_scan_33 : decode cX5_scan 33 = .ok (.ifCond .eq 13, 3) := by decide +kernel
theorem dX5_scan_36 : decode cX5_scan 36 = .ok (.new 114, 3) := by decide +kernel
theorem dX5_scan_39 : decode cX5_scan 39 = .ok (.dup, 1) := by decide +kernel
theorem dX5_scan_40 : decode cX5_scan 40 = .ok (.ldc 219, 2) := by decide +kernel
theorem dX5_scan_42 : decode cX5_scan 42 = .ok (.invokespecial 118, 3) := by decide +kernel
theorem dX5_scan_45 : decode cX5_scan 45 = .ok (.athrow, 1) := by decide +kernel
theorem dX5_scan_46 : decode cX5_scan 46 = .ok (.aload_n 0, 1) := by decide +kernel
theorem dX5_scan_47 : decode cX5_scan 47 = .ok (.aload_n 3, 1) := by decide +kernel
theorem dX5_scan_48 : decode cX5_scan 48 = .ok (.getfield 96, 3) := by decide +kernel
theorem dX5_scan_51 : decode cX5_scan 51 = .ok (.invokevirtual 119, 3) := by decide +kernel
theorem dX5_scan_54 : decode cX5_scan 54 = .ok (.iconst 0, 1) := by decide +kernel
theorem dX5_scan_55 : decode cX5_scan 55 = .ok (.istore 4, 2) := by decide +kernel
theorem dX5_scan_57 : decode cX5_scan 57 = .ok (.iconst 0, 1) := by decide +kernel
theorem dX5_scan_58 : decode cX5_scan 58 = .ok (.istore 5, 2) := by decide +kernel
theorem dX5_scan_60 : decode cX5_scan 60 = .ok (.iload 5, 2) := by decide +kernel
theorem dX5_scan_62 : decode cX5_scan 62 = .ok (.aload_n 3, 1) := by decide +kernel
theorem dX5_scan_63 : decode cX5_scan 63 = .ok (.getfield 127, 3) := by decide +kernel
theorem dX5_scan_66 : decode cX5_scan 66 = .ok (.invokevirtual 39, 3) := by decide +kernel
theorem dX5_scan_69 : decode cX5_scan 69 = .ok (.if_icmp .ge 43, 3) := by decide +kernel
theorem dX5_scan_72 : decode cX5_scan 72 = .ok (.aload_n 0, 1) := by decide +kernel
theorem dX5_scan_73 : decode cX5_scan 73 = .ok (.aload_n 3, 1) := by decide +kernel
theorem dX5_scan_74 : decode cX5_scan 74 = .ok (.iload 5, 2) := by decide +kernel
theorem dX5_scan_76 : decode cX5_scan 76 = .ok (.invokevirtual 221, 3) := by decide +kernel
theorem dX5_scan_79 : decode cX5_scan 79 = .ok (.istore 6, 2) := by decide +kernel
theorem dX5_scan_81 : decode cX5_scan 81 = .ok (.aload_n 3, 1) := by decide +kernel
theorem dX5_scan_82 : decode cX5_scan 82 = .ok (.getfield 127, 3) := by decide +kernel
theorem dX5_scan_85 : decode cX5_scan 85 = .ok (.iload 5, 2) := by decide +kernel
theorem dX5_scan_87 : decode cX5_scan 87 = .ok (.invokevirtual 146, 3) := by decide +kernel
theorem dX5_scan_90 : decode cX5_scan 90 = .ok (.checkcast 75, 3) := by decide +kernel
theorem dX5_scan_93 : decode cX5_scan 93 = .ok (.iload_n 2, 1) := by decide +kernel
theorem dX5_scan_94 : decode cX5_scan 94 = .ok (.iload 6, 2) := by decide +kernel
theorem dX5_scan_96 : decode cX5_scan 96 = .ok (.invokevirtual 225, 3) := by decide +kernel
theorem dX5_scan_99 : decode cX5_scan 99 = .ok (.iload 4, 2) := by decide +kernel
theorem dX5_scan_101 : decode cX5_scan 101 = .ok (.iload 6, 2) := by decide +kernel
theorem dX5_scan_103 : decode cX5_scan 103 = .ok (.iadd, 1) := by decide +kernel
theorem dX5_scan_104 : decode cX5_scan 104 = .ok (.istore 4, 2) := by decide +kernel
theorem dX5_scan_106 : decode cX5_scan 106 = .ok (.iinc 5 1, 3) := by decide +kernel
theorem dX5_scan_109 : decode cX5_scan 109 = .ok (.goto (-49), 3) := by decide +kernel
theorem dX5_scan_112 : decode cX5_scan 112 = .ok (.iload 4, 2) := by decide +kernel
theorem dX5_scan_114 : decode cX5_scan 114 = .ok (.ireturn, 1) := by decide +kernel
theorem dX5_scanned_0 : decode cX5_scanned 0 = .ok (.aload_n 0, 1) := by decide +kernel
theorem dX5_scanned_1 : decode cX5_scanned 1 = .ok (.iload_n 1, 1) := by decide +kernel
theorem dX5_scanned_2 : decode cX5_scanned 2 = .ok (.invokevirtual 92, 3) := by decide +kernel
theorem dX5_scanned_5 : decode cX5_scanned 5 = .ok (.getfield 228, 3) := by decide +kernel
theorem dX5_scanned_8 : decode cX5_scanned 8 = .ok (.ireturn, 1) := by decide +kernel
theorem dX5_missed_0 : decode cX5_missed 0 = .ok (.aload_n 0, 1) := by decide +kernel
theorem dX5_missed_1 : decode cX5_missed 1 = .ok (.iload_n 1, 1) := by decide +kernel
theorem dX5_missed_2 : decode cX5_missed 2 = .ok (.invokevirtual 92, 3) := by decide +kernel
theorem dX5_missed_5 : decode cX5_missed 5 = .ok (.getfield 231, 3) := by decide +kernel
theorem dX5_missed_8 : decode cX5_missed 8 = .ok (.ireturn, 1) := by decide +kernel
theorem dX5_grade_0 : decode cX5_grade 0 = .ok (.aload_n 0, 1) := by decide +kernel
theorem dX5_grade_1 : decode cX5_grade 1 = .ok (.iload_n 1, 1) := by decide +kernel
theorem dX5_grade_2 : decode cX5_grade 2 = .ok (.invokevirtual 92, 3) := by decide +kernel
theorem dX5_grade_5 : decode cX5_grade 5 = .ok (.astore_n 3, 1) := by decide +kernel
theorem dX5_grade_6 : decode cX5_grade 6 = .ok (.iload_n 2, 1) := by decide +kernel
theorem dX5_grade_7 : decode cX5_grade 7 = .ok (.iconst (-1), 1) := by decide +kernel
theorem dX5_grade_8 : decode cX5_grade 8 = .ok (.if_icmp .lt 9, 3) := by decide +kernel
theorem dX5_grade_11 : decode cX5_grade 11 = .ok (.iload_n 2, 1) := by decide +kernel
theorem dX5_grade_12 : decode cX5_grade 12 = .ok (.bipush 99, 2) := by decide +kernel
theorem dX5_grade_14 : decode cX5_grade 14 = .ok (.if_icmp .le 13, 3) := by decide +kernel
theorem dX5_grade_17 : decode cX5_grade 17 = .ok (.new 101, 3) := by decide +kernel
theorem dX5_grade_20 : decode cX5_grade 20 = .ok (.dup, 1) := by decide +kernel
theorem dX5_grade_21 : decode cX5_grade 21 = .ok (.ldc 234, 2) := by decide +kernel
theorem dX5_grade_23 : decode cX5_grade 23 = .ok (.invokespecial 105, 3) := by decide +kernel
theorem dX5_grade_26 : decode cX5_grade 26 = .ok (.athrow, 1) := by decide +kernel
theorem dX5_grade_27 : decode cX5_grade 27 = .ok (.iload_n 2, 1) := by decide +kernel
theorem dX5_grade_28 : decode cX5_grade 28 = .ok (.iconst (-1), 1) := by decide +kernel
theorem dX5_grade_29 : decode cX5_grade 29 = .ok (.if_icmp .ne 21, 3) := by decide +kernel
theorem dX5_grade_32 : decode cX5_grade 32 = .ok (.aload_n 3, 1) := by decide +kernel
theorem dX5_grade_33 : decode cX5_grade 33 = .ok (.getfield 236, 3) := by decide +kernel
theorem dX5_grade_36 : decode cX5_grade 36 = .ok (.iconst (-1), 1) := by decide +kernel
theorem dX5_grade_37 : decode cX5_grade 37 = .ok (.if_icmp .ne 13, 3) := by decide +kernel
theorem dX5_grade_40 : decode cX5_grade 40 = .ok (.new 114, 3) := by decide +kernel
theorem dX5_grade_43 : decode cX5_grade 43 = .ok (.dup, 1) := by decide +kernel
theorem dX5_grade_44 : decode cX5_grade 44 = .ok (.ldc 239, 2) := by decide +kernel
theorem dX5_grade_46 : decode cX5_grade 46 = .ok (.invokespecial 118, 3) := by decide +kernel
theorem dX5_grade_49 : decode cX5_grade 49 = .ok (.athrow, 1) := by decide +kernel
theorem dX5_grade_50 : decode cX5_grade 50 = .ok (.aload_n 3, 1) := by decide +kernel
theorem dX5_grade_51 : decode cX5_grade 51 = .ok (.invokevirtual 241, 3) := by decide +kernel
theorem dX5_grade_54 : decode cX5_grade 54 = .ok (.istore 4, 2) := by decide +kernel
theorem dX5_grade_56 : decode cX5_grade 56 = .ok (.aload_n 3, 1) := by decide +kernel
theorem dX5_grade_57 : decode cX5_grade 57 = .ok (.iload_n 2, 1) := by decide +kernel
theorem dX5_grade_58 : decode cX5_grade 58 = .ok (.putfield 236, 3) := by decide +kernel
theorem dX5_grade_61 : decode cX5_grade 61 = .ok (.aload_n 3, 1) := by decide +kernel
theorem dX5_grade_62 : decode cX5_grade 62 = .ok (.aconst_null, 1) := by decide +kernel
theorem dX5_grade_63 : decode cX5_grade 63 = .ok (.putfield 244, 3) := by decide +kernel
theorem dX5_grade_66 : decode cX5_grade 66 = .ok (.iload_n 2, 1) := by decide +kernel
theorem dX5_grade_67 : decode cX5_grade 67 = .ok (.iconst (-1), 1) := by decide +kernel
theorem dX5_grade_68 : decode cX5_grade 68 = .ok (.if_icmp .ne 11, 3) := by decide +kernel
theorem dX5_grade_71 : decode cX5_grade 71 = .ok (.aload_n 3, 1) := by decide +kernel
theorem dX5_grade_72 : decode cX5_grade 72 = .ok (.getfield 100, 3) := by decide +kernel
theorem dX5_grade_75 : decode cX5_grade 75 = .ok (.aload_n 3, 1) := by decide +kernel
theorem dX5_grade_76 : decode cX5_grade 76 = .ok (.invokevirtual 248, 3) := by decide +kernel
theorem dX5_grade_79 : decode cX5_grade 79 = .ok (.iload 4, 2) := by decide +kernel
theorem dX5_grade_81 : decode cX5_grade 81 = .ok (.ireturn, 1) := by decide +kernel
theorem dX5_passOn_0 : decode cX5_passOn 0 = .ok (.aload_n 0, 1) := by decide +kernel
theorem dX5_passOn_1 : decode cX5_passOn 1 = .ok (.iload_n 1, 1) := by decide +kernel
theorem dX5_passOn_2 : decode cX5_passOn 2 = .ok (.invokevirtual 92, 3) := by decide +kernel
theorem dX5_passOn_5 : decode cX5_passOn 5 = .ok (.astore_n 2, 1) := by decide +kernel
theorem dX5_passOn_6 : decode cX5_passOn 6 = .ok (.aload_n 2, 1) := by decide +kernel
theorem dX5_passOn_7 : decode cX5_passOn 7 = .ok (.getfield 236, 3) := by decide +kernel
theorem dX5_passOn_10 : decode cX5_passOn 10 = .ok (.iconst (-1), 1) := by decide +kernel
theorem dX5_passOn_11 : decode cX5_passOn 11 = .ok (.if_icmp .ne 13, 3) := by decide +kernel
theorem dX5_passOn_14 : decode cX5_passOn 14 = .ok (.new 114, 3) := by decide +kernel
theorem dX5_passOn_17 : decode cX5_passOn 17 = .ok (.dup, 1) := by decide +kernel
theorem dX5_passOn_18 : decode cX5_passOn 18 = .ok (.ldc 239, 2) := by decide +kernel
theorem dX5_passOn_20 : decode cX5_passOn 20 = .ok (.invokespecial 118, 3) := by decide +kernel
theorem dX5_passOn_23 : decode cX5_passOn 23 = .ok (.athrow, 1) := by decide +kernel
theorem dX5_passOn_24 : decode cX5_passOn 24 = .ok (.aload_n 2, 1) := by decide +kernel
theorem dX5_passOn_25 : decode cX5_passOn 25 = .ok (.getfield 100, 3) := by decide +kernel
theorem dX5_passOn_28 : decode cX5_passOn 28 = .ok (.getfield 71, 3) := by decide +kernel
theorem dX5_passOn_31 : decode cX5_passOn 31 = .ok (.astore_n 3, 1) := by decide +kernel
theorem dX5_passOn_32 : decode cX5_passOn 32 = .ok (.iconst 0, 1) := by decide +kernel
theorem dX5_passOn_33 : decode cX5_passOn 33 = .ok (.istore 4, 2) := by decide +kernel
theorem dX5_passOn_35 : decode cX5_passOn 35 = .ok (.iconst 0, 1) := by decide +kernel
theorem dX5_passOn_36 : decode cX5_passOn 36 = .ok (.istore 5, 2) := by decide +kernel
theorem dX5_passOn_38 : decode cX5_passOn 38 = .ok (.iload 5, 2) := by decide +kernel
theorem dX5_passOn_40 : decode cX5_passOn 40 = .ok (.aload_n 3, 1) := by decide +kernel
theorem dX5_passOn_41 : decode cX5_passOn 41 = .ok (.invokevirtual 39, 3) := by decide +kernel
theorem dX5_passOn_44 : decode cX5_passOn 44 = .ok (.if_icmp .ge 56, 3) := by decide +kernel
theorem dX5_passOn_47 : decode cX5_passOn 47 = .ok (.aload_n 3, 1) := by decide +kernel
theorem dX5_passOn_48 : decode cX5_passOn 48 = .ok (.iload 5, 2) := by decide +kernel
theorem dX5_passOn_50 : decode cX5_passOn 50 = .ok (.invokevirtual 146, 3) := by decide +kernel
theorem dX5_passOn_53 : decode cX5_passOn 53 = .ok (.checkcast 75, 3) := by decide +kernel
theorem dX5_passOn_56 : decode cX5_passOn 56 = .ok (.astore 6, 2) := by decide +kernel
theorem dX5_passOn_58 : decode cX5_passOn 58 = .ok (.aload 6, 2) := by decide +kernel
theorem dX5_passOn_60 : decode cX5_passOn 60 = .ok (.aload_n 2, 1) := by decide +kernel
theorem dX5_passOn_61 : decode cX5_passOn 61 = .ok (.if_acmp .eq 33, 3) := by decide +kernel
theorem dX5_passOn_64 : decode cX5_passOn 64 = .ok (.aload 6, 2) := by decide +kernel
theorem dX5_passOn_66 : decode cX5_passOn 66 = .ok (.getfield 251, 3) := by decide +kernel
theorem dX5_passOn_69 : decode cX5_passOn 69 = .ok (.aload_n 2, 1) := by decide +kernel
theorem dX5_passOn_70 : decode cX5_passOn 70 = .ok (.getfield 251, 3) := by decide +kernel
theorem dX5_passOn_73 : decode cX5_passOn 73 = .ok (.if_icmp .ne 21, 3) := by decide +kernel
theorem dX5_passOn_76 : decode cX5_passOn 76 = .ok (.aload 6, 2) := by decide +kernel
theorem dX5_passOn_78 : decode cX5_passOn 78 = .ok (.getfield 236, 3) := by decide +kernel
theorem dX5_passOn_81 : decode cX5_passOn 81 = .ok (.iconst (-1), 1) := by decide +kernel
theorem dX5_passOn_82 : decode cX5_passOn 82 = .ok (.if_icmp .ne 12, 3) := by decide +kernel
theorem dX5_passOn_85 : decode cX5_passOn 85 = .ok (.aload 6, 2) := by decide +kernel
theorem dX5_passOn_87 : decode cX5_passOn 87 = .ok (.aload_n 2, 1) := by decide +kernel
theorem dX5_passOn_88 : decode cX5_passOn 88 = .ok (.putfield 244, 3) := by decide +kernel
theorem dX5_passOn_91 : decode cX5_passOn 91 = .ok (.iinc 4 1, 3) := by decide +kernel
theorem dX5_passOn_94 : decode cX5_passOn 94 = .ok (.iinc 5 1, 3) := by decide +kernel
theorem dX5_passOn_97 : decode cX5_passOn 97 = .ok (.goto (-59), 3) := by decide +kernel
theorem dX5_passOn_100 : decode cX5_passOn 100 = .ok (.iload 4, 2) := by decide +kernel
theorem dX5_passOn_102 : decode cX5_passOn 102 = .ok (.ireturn, 1) := by decide +kernel
theorem dX5_gradeOf_0 : decode cX5_gradeOf 0 = .ok (.aload_n 0, 1) := by decide +kernel
theorem dX5_gradeOf_1 : decode cX5_gradeOf 1 = .ok (.iload_n 1, 1) := by decide +kernel
theorem dX5_gradeOf_2 : decode cX5_gradeOf 2 = .ok (.invokevirtual 92, 3) := by decide +kernel
theorem dX5_gradeOf_5 : decode cX5_gradeOf 5 = .ok (.invokevirtual 241, 3) := by decide +kernel
theorem dX5_gradeOf_8 : decode cX5_gradeOf 8 = .ok (.ireturn, 1) := by decide +kernel
theorem dX5_gradeFrom_0 : decode cX5_gradeFrom 0 = .ok (.aload_n 0, 1) := by decide +kernel
theorem dX5_gradeFrom_1 : decode cX5_gradeFrom 1 = .ok (.iload_n 1, 1) := by decide +kernel
theorem dX5_gradeFrom_2 : decode cX5_gradeFrom 2 = .ok (.invokevirtual 92, 3) := by decide +kernel
theorem dX5_gradeFrom_5 : decode cX5_gradeFrom 5 = .ok (.astore_n 2, 1) := by decide +kernel
theorem dX5_gradeFrom_6 : decode cX5_gradeFrom 6 = .ok (.aload_n 2, 1) := by decide +kernel
theorem dX5_gradeFrom_7 : decode cX5_gradeFrom 7 = .ok (.getfield 236, 3) := by decide +kernel
theorem dX5_gradeFrom_10 : decode cX5_gradeFrom 10 = .ok (.iconst (-1), 1) := by decide +kernel
theorem dX5_gradeFrom_11 : decode cX5_gradeFrom 11 = .ok (.if_icmp .eq 8, 3) := by decide +kernel
theorem dX5_gradeFrom_14 : decode cX5_gradeFrom 14 = .ok (.aload_n 2, 1) := by decide +kernel
theorem dX5_gradeFrom_15 : decode cX5_gradeFrom 15 = .ok (.getfield 74, 3) := by decide +kernel
theorem dX5_gradeFrom_18 : decode cX5_gradeFrom 18 = .ok (.ireturn, 1) := by decide +kernel
theorem dX5_gradeFrom_19 : decode cX5_gradeFrom 19 = .ok (.aload_n 2, 1) := by decide +kernel
theorem dX5_gradeFrom_20 : decode cX5_gradeFrom 20 = .ok (.getfield 244, 3) := by decide +kernel
theorem dX5_gradeFrom_23 : decode cX5_gradeFrom 23 = .ok (.astore_n 3, 1) := by decide +kernel
theorem dX5_gradeFrom_24 : decode cX5_gradeFrom 24 = .ok (.aload_n 3, 1) := by decide +kernel
theorem dX5_gradeFrom_25 : decode cX5_gradeFrom 25 = .ok (.ifnonnull 7, 3) := by decide +kernel
theorem dX5_gradeFrom_28 : decode cX5_gradeFrom 28 = .ok (.iconst (-1), 1) := by decide +kernel
theorem dX5_gradeFrom_29 : decode cX5_gradeFrom 29 = .ok (.goto 7, 3) := by decide +kernel
theorem dX5_gradeFrom_32 : decode cX5_gradeFrom 32 = .ok (.aload_n 3, 1) := by decide +kernel
theorem dX5_gradeFrom_33 : decode cX5_gradeFrom 33 = .ok (.getfield 74, 3) := by decide +kernel
theorem dX5_gradeFrom_36 : decode cX5_gradeFrom 36 = .ok (.ireturn, 1) := by decide +kernel
theorem dX5_addVersion_0 : decode cX5_addVersion 0 = .ok (.aload_n 0, 1) := by decide +kernel
theorem dX5_addVersion_1 : decode cX5_addVersion 1 = .ok (.iload_n 1, 1) := by decide +kernel
theorem dX5_addVersion_2 : decode cX5_addVersion 2 = .ok (.invokevirtual 57, 3) := by decide +kernel
theorem dX5_addVersion_5 : decode cX5_addVersion 5 = .ok (.astore_n 3, 1) := by decide +kernel
theorem dX5_addVersion_6 : decode cX5_addVersion 6 = .ok (.iload_n 2, 1) := by decide +kernel
theorem dX5_addVersion_7 : decode cX5_addVersion 7 = .ok (.ifCond .lt 9, 3) := by decide +kernel
theorem dX5_addVersion_10 : decode cX5_addVersion 10 = .ok (.iload_n 2, 1) := by decide +kernel
theorem dX5_addVersion_11 : decode cX5_addVersion 11 = .ok (.bipush 7, 2) := by decide +kernel
theorem dX5_addVersion_13 : decode cX5_addVersion 13 = .ok (.if_icmp .le 13, 3) := by decide +kernel
theorem dX5_addVersion_16 : decode cX5_addVersion 16 = .ok (.new 101, 3) := by decide +kernel
theorem dX5_addVersion_19 : decode cX5_addVersion 19 = .ok (.dup, 1) := by decide +kernel
theorem dX5_addVersion_20 : decode cX5_addVersion 20 = .ok (.ldc 254, 2) := by decide +kernel
theorem dX5_addVersion_22 : decode cX5_addVersion 22 = .ok (.invokespecial 105, 3) := by decide +kernel
theorem dX5_addVersion_25 : decode cX5_addVersion 25 = .ok (.athrow, 1) := by decide +kernel
theorem dX5_addVersion_26 : decode cX5_addVersion 26 = .ok (.aload_n 0, 1) := by decide +kernel
theorem dX5_addVersion_27 : decode cX5_addVersion 27 = .ok (.aload_n 3, 1) := by decide +kernel
theorem dX5_addVersion_28 : decode cX5_addVersion 28 = .ok (.iload_n 2, 1) := by decide +kernel
theorem dX5_addVersion_29 : decode cX5_addVersion 29 = .ok (.invokevirtual 256, 3) := by decide +kernel
theorem dX5_addVersion_32 : decode cX5_addVersion 32 = .ok (.ifCond .eq 14, 3) := by decide +kernel
theorem dX5_addVersion_35 : decode cX5_addVersion 35 = .ok (.new 114, 3) := by decide +kernel
theorem dX5_addVersion_38 : decode cX5_addVersion 38 = .ok (.dup, 1) := by decide +kernel
theorem dX5_addVersion_39 : decode cX5_addVersion 39 = .ok (.ldc_w 260, 3) := by decide +kernel
theorem dX5_addVersion_42 : decode cX5_addVersion 42 = .ok (.invokespecial 118, 3) := by decide +kernel
theorem dX5_addVersion_45 : decode cX5_addVersion 45 = .ok (.athrow, 1) := by decide +kernel
theorem dX5_addVersion_46 : decode cX5_addVersion 46 = .ok (.aload_n 0, 1) := by decide +kernel
theorem dX5_addVersion_47 : decode cX5_addVersion 47 = .ok (.getfield 22, 3) := by decide +kernel
theorem dX5_addVersion_50 : decode cX5_addVersion 50 = .ok (.invokevirtual 39, 3) := by decide +kernel
theorem dX5_addVersion_53 : decode cX5_addVersion 53 = .ok (.bipush 10, 2) := by decide +kernel
theorem dX5_addVersion_55 : decode cX5_addVersion 55 = .ok (.if_icmp .lt 14, 3) := by decide +kernel
theorem dX5_addVersion_58 : decode cX5_addVersion 58 = .ok (.new 43, 3) := by decide +kernel
theorem dX5_addVersion_61 : decode cX5_addVersion 61 = .ok (.dup, 1) := by decide +kernel
theorem dX5_addVersion_62 : decode cX5_addVersion 62 = .ok (.ldc_w 262, 3) := by decide +kernel
theorem dX5_addVersion_65 : decode cX5_addVersion 65 = .ok (.invokespecial 47, 3) := by decide +kernel
theorem dX5_addVersion_68 : decode cX5_addVersion 68 = .ok (.athrow, 1) := by decide +kernel
theorem dX5_addVersion_69 : decode cX5_addVersion 69 = .ok (.aload_n 0, 1) := by decide +kernel
theorem dX5_addVersion_70 : decode cX5_addVersion 70 = .ok (.getfield 22, 3) := by decide +kernel
theorem dX5_addVersion_73 : decode cX5_addVersion 73 = .ok (.new 264, 3) := by decide +kernel
theorem dX5_addVersion_76 : decode cX5_addVersion 76 = .ok (.dup, 1) := by decide +kernel
theorem dX5_addVersion_77 : decode cX5_addVersion 77 = .ok (.aload_n 3, 1) := by decide +kernel
theorem dX5_addVersion_78 : decode cX5_addVersion 78 = .ok (.iload_n 2, 1) := by decide +kernel
theorem dX5_addVersion_79 : decode cX5_addVersion 79 = .ok (.invokespecial 266, 3) := by decide +kernel
theorem dX5_addVersion_82 : decode cX5_addVersion 82 = .ok (.invokevirtual 53, 3) := by decide +kernel
theorem dX5_addVersion_85 : decode cX5_addVersion 85 = .ok (.pop, 1) := by decide +kernel
theorem dX5_addVersion_86 : decode cX5_addVersion 86 = .ok (.aload_n 0, 1) := by decide +kernel
theorem dX5_addVersion_87 : decode cX5_addVersion 87 = .ok (.getfield 22, 3) := by decide +kernel
theorem dX5_addVersion_90 : decode cX5_addVersion 90 = .ok (.invokevirtual 39, 3) := by decide +kernel
theorem dX5_addVersion_93 : decode cX5_addVersion 93 = .ok (.iconst 1, 1) := by decide +kernel
theorem dX5_addVersion_94 : decode cX5_addVersion 94 = .ok (.isub, 1) := by decide +kernel
theorem dX5_addVersion_95 : decode cX5_addVersion 95 = .ok (.ireturn, 1) := by decide +kernel
theorem dX5_leaveOut_0 : decode cX5_leaveOut 0 = .ok (.aload_n 0, 1) := by decide +kernel
theorem dX5_leaveOut_1 : decode cX5_leaveOut 1 = .ok (.iload_n 1, 1) := by decide +kernel
theorem dX5_leaveOut_2 : decode cX5_leaveOut 2 = .ok (.invokevirtual 269, 3) := by decide +kernel
theorem dX5_leaveOut_5 : decode cX5_leaveOut 5 = .ok (.astore 5, 2) := by decide +kernel
theorem dX5_leaveOut_7 : decode cX5_leaveOut 7 = .ok (.iload_n 2, 1) := by decide +kernel
theorem dX5_leaveOut_8 : decode cX5_leaveOut 8 = .ok (.ifCond .lt 20, 3) := by decide +kernel
theorem dX5_leaveOut_11 : decode cX5_leaveOut 11 = .ok (.iload_n 3, 1) := by decide +kernel
theorem dX5_leaveOut_12 : decode cX5_leaveOut 12 = .ok (.iload_n 2, 1) := by decide +kernel
theorem dX5_leaveOut_13 : decode cX5_leaveOut 13 = .ok (.if_icmp .le 15, 3) := by decide +kernel
theorem dX5_leaveOut_16 : decode cX5_leaveOut 16 = .ok (.iload_n 3, 1) := by decide +kernel
theorem dX5_leaveOut_17 : decode cX5_leaveOut 17 = .ok (.aload 5, 2) := by decide +kernel
theorem dX5_leaveOut_19 : decode cX5_leaveOut 19 = .ok (.getfield 273, 3) := by decide +kernel
theorem dX5_leaveOut_22 : decode cX5_leaveOut 22 = .ok (.invokevirtual 274, 3) := by decide +kernel
theorem dX5_leaveOut_25 : decode cX5_leaveOut 25 = .ok (.if_icmp .le 14, 3) := by decide +kernel
theorem dX5_leaveOut_28 : decode cX5_leaveOut 28 = .ok (.new 101, 3) := by decide +kernel
theorem dX5_leaveOut_31 : decode cX5_leaveOut 31 = .ok (.dup, 1) := by decide +kernel
theorem dX5_leaveOut_32 : decode cX5_leaveOut 32 = .ok (.ldc_w 277, 3) := by decide +kernel
theorem dX5_leaveOut_35 : decode cX5_leaveOut 35 = .ok (.invokespecial 105, 3) := by decide +kernel
theorem dX5_leaveOut_38 : decode cX5_leaveOut 38 = .ok (.athrow, 1) := by decide +kernel
theorem dX5_leaveOut_39 : decode cX5_leaveOut 39 = .ok (.aload 5, 2) := by decide +kernel
theorem dX5_leaveOut_41 : decode cX5_leaveOut 41 = .ok (.getfield 273, 3) := by decide +kernel
theorem dX5_leaveOut_44 : decode cX5_leaveOut 44 = .ok (.getfield 71, 3) := by decide +kernel
theorem dX5_leaveOut_47 : decode cX5_leaveOut 47 = .ok (.astore 6, 2) := by decide +kernel
theorem dX5_leaveOut_49 : decode cX5_leaveOut 49 = .ok (.iconst 0, 1) := by decide +kernel
theorem dX5_leaveOut_50 : decode cX5_leaveOut 50 = .ok (.istore 7, 2) := by decide +kernel
theorem dX5_leaveOut_52 : decode cX5_leaveOut 52 = .ok (.iconst 0, 1) := by decide +kernel
theorem dX5_leaveOut_53 : decode cX5_leaveOut 53 = .ok (.istore 8, 2) := by decide +kernel
theorem dX5_leaveOut_55 : decode cX5_leaveOut 55 = .ok (.iconst 0, 1) := by decide +kernel
theorem dX5_leaveOut_56 : decode cX5_leaveOut 56 = .ok (.istore 9, 2) := by decide +kernel
theorem dX5_leaveOut_58 : decode cX5_leaveOut 58 = .ok (.iload 9, 2) := by decide +kernel
theorem dX5_leaveOut_60 : decode cX5_leaveOut 60 = .ok (.aload 6, 2) := by decide +kernel
theorem dX5_leaveOut_62 : decode cX5_leaveOut 62 = .ok (.invokevirtual 39, 3) := by decide +kernel
theorem dX5_leaveOut_65 : decode cX5_leaveOut 65 = .ok (.if_icmp .ge 66, 3) := by decide +kernel
theorem dX5_leaveOut_68 : decode cX5_leaveOut 68 = .ok (.aload 6, 2) := by decide +kernel
theorem dX5_leaveOut_70 : decode cX5_leaveOut 70 = .ok (.iload 9, 2) := by decide +kernel
theorem dX5_leaveOut_72 : decode cX5_leaveOut 72 = .ok (.invokevirtual 146, 3) := by decide +kernel
theorem dX5_leaveOut_75 : decode cX5_leaveOut 75 = .ok (.checkcast 75, 3) := by decide +kernel
theorem dX5_leaveOut_78 : decode cX5_leaveOut 78 = .ok (.astore 10, 2) := by decide +kernel
theorem dX5_leaveOut_80 : decode cX5_leaveOut 80 = .ok (.aload 10, 2) := by decide +kernel
theorem dX5_leaveOut_82 : decode cX5_leaveOut 82 = .ok (.invokevirtual 171, 3) := by decide +kernel
theorem dX5_leaveOut_85 : decode cX5_leaveOut 85 = .ok (.istore 11, 2) := by decide +kernel
theorem dX5_leaveOut_87 : decode cX5_leaveOut 87 = .ok (.iload 7, 2) := by decide +kernel
theorem dX5_leaveOut_89 : decode cX5_leaveOut 89 = .ok (.aload 5, 2) := by decide +kernel
theorem dX5_leaveOut_91 : decode cX5_leaveOut 91 = .ok (.aload 10, 2) := by decide +kernel
theorem dX5_leaveOut_93 : decode cX5_leaveOut 93 = .ok (.iload_n 2, 1) := by decide +kernel
theorem dX5_leaveOut_94 : decode cX5_leaveOut 94 = .ok (.iload 8, 2) := by decide +kernel
theorem dX5_leaveOut_96 : decode cX5_leaveOut 96 = .ok (.isub, 1) := by decide +kernel
theorem dX5_leaveOut_97 : decode cX5_leaveOut 97 = .ok (.iconst 0, 1) := by decide +kernel
theorem dX5_leaveOut_98 : decode cX5_leaveOut 98 = .ok (.invokestatic 279, 3) := by decide +kernel
theorem dX5_leaveOut_101 : decode cX5_leaveOut 101 = .ok (.iload_n 3, 1) := by decide +kernel
theorem dX5_leaveOut_102 : decode cX5_leaveOut 102 = .ok (.iload 8, 2) := by decide +kernel
theorem dX5_leaveOut_104 : decode cX5_leaveOut 104 = .ok (.isub, 1) := by decide +kernel
theorem dX5_leaveOut_105 : decode cX5_leaveOut 105 = .ok (.iload 11, 2) := by decide +kernel
theorem dX5_leaveOut_107 : decode cX5_leaveOut 107 = .ok (.invokestatic 285, 3) := by decide +kernel
theorem dX5_leaveOut_110 : decode cX5_leaveOut 110 = .ok (.iload 4, 2) := by decide +kernel
theorem dX5_leaveOut_112 : decode cX5_leaveOut 112 = .ok (.invokevirtual 288, 3) := by decide +kernel
theorem dX5_leaveOut_115 : decode cX5_leaveOut 115 = .ok (.iadd, 1) := by decide +kernel
theorem dX5_leaveOut_116 : decode cX5_leaveOut 116 = .ok (.istore 7, 2) := by decide +kernel
theorem dX5_leaveOut_118 : decode cX5_leaveOut 118 = .ok (.iload 8, 2) := by decide +kernel
theorem dX5_leaveOut_120 : decode cX5_leaveOut 120 = .ok (.iload 11, 2) := by decide +kernel
theorem dX5_leaveOut_122 : decode cX5_leaveOut 122 = .ok (.iadd, 1) := by decide +kernel
theorem dX5_leaveOut_123 : decode cX5_leaveOut 123 = .ok (.istore 8, 2) := by decide +kernel
theorem dX5_leaveOut_125 : decode cX5_leaveOut 125 = .ok (.iinc 9 1, 3) := by decide +kernel
theorem dX5_leaveOut_128 : decode cX5_leaveOut 128 = .ok (.goto (-70), 3) := by decide +kernel
theorem dX5_leaveOut_131 : decode cX5_leaveOut 131 = .ok (.iload 7, 2) := by decide +kernel
theorem dX5_leaveOut_133 : decode cX5_leaveOut 133 = .ok (.ireturn, 1) := by decide +kernel
theorem dX5_frames_0 : decode cX5_frames 0 = .ok (.aload_n 0, 1) := by decide +kernel
theorem dX5_frames_1 : decode cX5_frames 1 = .ok (.iload_n 1, 1) := by decide +kernel
theorem dX5_frames_2 : decode cX5_frames 2 = .ok (.invokevirtual 269, 3) := by decide +kernel
theorem dX5_frames_5 : decode cX5_frames 5 = .ok (.invokevirtual 292, 3) := by decide +kernel
theorem dX5_frames_8 : decode cX5_frames 8 = .ok (.ireturn, 1) := by decide +kernel
theorem dX5_lend_0 : decode cX5_lend 0 = .ok (.aload_n 0, 1) := by decide +kernel
theorem dX5_lend_1 : decode cX5_lend 1 = .ok (.iload_n 1, 1) := by decide +kernel
theorem dX5_lend_2 : decode cX5_lend 2 = .ok (.invokevirtual 269, 3) := by decide +kernel
theorem dX5_lend_5 : decode cX5_lend 5 = .ok (.getfield 273, 3) := by decide +kernel
theorem dX5_lend_8 : decode cX5_lend 8 = .ok (.astore 5, 2) := by decide +kernel
theorem dX5_lend_10 : decode cX5_lend 10 = .ok (.iload_n 2, 1) := by decide +kernel
theorem dX5_lend_11 : decode cX5_lend 11 = .ok (.iconst 1, 1) := by decide +kernel
theorem dX5_lend_12 : decode cX5_lend 12 = .ok (.if_icmp .lt 31, 3) := by decide +kernel
theorem dX5_lend_15 : decode cX5_lend 15 = .ok (.iload_n 2, 1) := by decide +kernel
theorem dX5_lend_16 : decode cX5_lend 16 = .ok (.bipush 9, 2) := by decide +kernel
theorem dX5_lend_18 : decode cX5_lend 18 = .ok (.if_icmp .gt 25, 3) := by decide +kernel
theorem dX5_lend_21 : decode cX5_lend 21 = .ok (.iload_n 3, 1) := by decide +kernel
theorem dX5_lend_22 : decode cX5_lend 22 = .ok (.ifCond .lt 21, 3) := by decide +kernel
theorem dX5_lend_25 : decode cX5_lend 25 = .ok (.iload_n 3, 1) := by decide +kernel
theorem dX5_lend_26 : decode cX5_lend 26 = .ok (.iconst 3, 1) := by decide +kernel
theorem dX5_lend_27 : decode cX5_lend 27 = .ok (.if_icmp .gt 16, 3) := by decide +kernel
theorem dX5_lend_30 : decode cX5_lend 30 = .ok (.iload 4, 2) := by decide +kernel
theorem dX5_lend_32 : decode cX5_lend 32 = .ok (.iconst 1, 1) := by decide +kernel
theorem dX5_lend_33 : decode cX5_lend 33 = .ok (.if_icmp .lt 10, 3) := by decide +kernel
theorem dX5_lend_36 : decode cX5_lend 36 = .ok (.iload 4, 2) := by decide +kernel
theorem dX5_lend_38 : decode cX5_lend 38 = .ok (.bipush 99, 2) := by decide +kernel
theorem dX5_lend_40 : decode cX5_lend 40 = .ok (.if_icmp .le 14, 3) := by decide +kernel
theorem dX5_lend_43 : decode cX5_lend 43 = .ok (.new 101, 3) := by decide +kernel
theorem dX5_lend_46 : decode cX5_lend 46 = .ok (.dup, 1) := by decide +kernel
theorem dX5_lend_47 : decode cX5_lend 47 = .ok (.ldc_w 295, 3) := by decide +kernel
theorem dX5_lend_50 : decode cX5_lend 50 = .ok (.invokespecial 105, 3) := by decide +kernel
theorem dX5_lend_53 : decode cX5_lend 53 = .ok (.athrow, 1) := by decide +kernel
theorem dX5_lend_54 : decode cX5_lend 54 = .ok (.aload_n 0, 1) := by decide +kernel
theorem dX5_lend_55 : decode cX5_lend 55 = .ok (.aload 5, 2) := by decide +kernel
theorem dX5_lend_57 : decode cX5_lend 57 = .ok (.invokevirtual 119, 3) := by decide +kernel
theorem dX5_lend_60 : decode cX5_lend 60 = .ok (.aload_n 0, 1) := by decide +kernel
theorem dX5_lend_61 : decode cX5_lend 61 = .ok (.aload 5, 2) := by decide +kernel
theorem dX5_lend_63 : decode cX5_lend 63 = .ok (.iload_n 2, 1) := by decide +kernel
theorem dX5_lend_64 : decode cX5_lend 64 = .ok (.iconst 1, 1) := by decide +kernel
theorem dX5_lend_65 : decode cX5_lend 65 = .ok (.iload_n 3, 1) := by decide +kernel
theorem dX5_lend_66 : decode cX5_lend 66 = .ok (.iadd, 1) := by decide +kernel
theorem dX5_lend_67 : decode cX5_lend 67 = .ok (.imul, 1) := by decide +kernel
theorem dX5_lend_68 : decode cX5_lend 68 = .ok (.invokevirtual 297, 3) := by decide +kernel
theorem dX5_lend_71 : decode cX5_lend 71 = .ok (.ifCond .ne 13, 3) := by decide +kernel
theorem dX5_lend_74 : decode cX5_lend 74 = .ok (.new 114, 3) := by decide +kernel
theorem dX5_lend_77 : decode cX5_lend 77 = .ok (.dup, 1) := by decide +kernel
theorem dX5_lend_78 : decode cX5_lend 78 = .ok (.ldc 193, 2) := by decide +kernel
theorem dX5_lend_80 : decode cX5_lend 80 = .ok (.invokespecial 118, 3) := by decide +kernel
theorem dX5_lend_83 : decode cX5_lend 83 = .ok (.athrow, 1) := by decide +kernel
theorem dX5_lend_84 : decode cX5_lend 84 = .ok (.aload_n 0, 1) := by decide +kernel
theorem dX5_lend_85 : decode cX5_lend 85 = .ok (.getfield 25, 3) := by decide +kernel
theorem dX5_lend_88 : decode cX5_lend 88 = .ok (.invokevirtual 39, 3) := by decide +kernel
theorem dX5_lend_91 : decode cX5_lend 91 = .ok (.bipush 20, 2) := by decide +kernel
theorem dX5_lend_93 : decode cX5_lend 93 = .ok (.if_icmp .lt 14, 3) := by decide +kernel
theorem dX5_lend_96 : decode cX5_lend 96 = .ok (.new 43, 3) := by decide +kernel
theorem dX5_lend_99 : decode cX5_lend 99 = .ok (.dup, 1) := by decide +kernel
theorem dX5_lend_100 : decode cX5_lend 100 = .ok (.ldc_w 300, 3) := by decide +kernel
theorem dX5_lend_103 : decode cX5_lend 103 = .ok (.invokespecial 47, 3) := by decide +kernel
theorem dX5_lend_106 : decode cX5_lend 106 = .ok (.athrow, 1) := by decide +kernel
theorem dX5_lend_107 : decode cX5_lend 107 = .ok (.aload_n 0, 1) := by decide +kernel
theorem dX5_lend_108 : decode cX5_lend 108 = .ok (.getfield 25, 3) := by decide +kernel
theorem dX5_lend_111 : decode cX5_lend 111 = .ok (.new 302, 3) := by decide +kernel
theorem dX5_lend_114 : decode cX5_lend 114 = .ok (.dup, 1) := by decide +kernel
theorem dX5_lend_115 : decode cX5_lend 115 = .ok (.aload 5, 2) := by decide +kernel
theorem dX5_lend_117 : decode cX5_lend 117 = .ok (.iload_n 2, 1) := by decide +kernel
theorem dX5_lend_118 : decode cX5_lend 118 = .ok (.iconst 1, 1) := by decide +kernel
theorem dX5_lend_119 : decode cX5_lend 119 = .ok (.iload_n 3, 1) := by decide +kernel
theorem dX5_lend_120 : decode cX5_lend 120 = .ok (.iadd, 1) := by decide +kernel
theorem dX5_lend_121 : decode cX5_lend 121 = .ok (.aload_n 0, 1) := by decide +kernel
theorem dX5_lend_122 : decode cX5_lend 122 = .ok (.getfield 32, 3) := by decide +kernel
theorem dX5_lend_125 : decode cX5_lend 125 = .ok (.iload 4, 2) := by decide +kernel
theorem dX5_lend_127 : decode cX5_lend 127 = .ok (.iadd, 1) := by decide +kernel
theorem dX5_lend_128 : decode cX5_lend 128 = .ok (.invokespecial 304, 3) := by decide +kernel
theorem dX5_lend_131 : decode cX5_lend 131 = .ok (.invokevirtual 53, 3) := by decide +kernel
theorem dX5_lend_134 : decode cX5_lend 134 = .ok (.pop, 1) := by decide +kernel
theorem dX5_lend_135 : decode cX5_lend 135 = .ok (.aload 5, 2) := by decide +kernel
theorem dX5_lend_137 : decode cX5_lend 137 = .ok (.iconst 1, 1) := by decide +kernel
theorem dX5_lend_138 : decode cX5_lend 138 = .ok (.putfield 307, 3) := by decide +kernel
theorem dX5_lend_141 : decode cX5_lend 141 = .ok (.aload_n 0, 1) := by decide +kernel
theorem dX5_lend_142 : decode cX5_lend 142 = .ok (.getfield 25, 3) := by decide +kernel
theorem dX5_lend_145 : decode cX5_lend 145 = .ok (.invokevirtual 39, 3) := by decide +kernel
theorem dX5_lend_148 : decode cX5_lend 148 = .ok (.iconst 1, 1) := by decide +kernel
theorem dX5_lend_149 : decode cX5_lend 149 = .ok (.isub, 1) := by decide +kernel
theorem dX5_lend_150 : decode cX5_lend 150 = .ok (.ireturn, 1) := by decide +kernel
theorem dX5_show_0 : decode cX5_show 0 = .ok (.aload_n 0, 1) := by decide +kernel
theorem dX5_show_1 : decode cX5_show 1 = .ok (.iload_n 1, 1) := by decide +kernel
theorem dX5_show_2 : decode cX5_show 2 = .ok (.invokevirtual 311, 3) := by decide +kernel
theorem dX5_show_5 : decode cX5_show 5 = .ok (.astore_n 2, 1) := by decide +kernel
theorem dX5_show_6 : decode cX5_show 6 = .ok (.aload_n 2, 1) := by decide +kernel
theorem dX5_show_7 : decode cX5_show 7 = .ok (.getfield 315, 3) := by decide +kernel
theorem dX5_show_10 : decode cX5_show 10 = .ok (.ifCond .ne 10, 3) := by decide +kernel
theorem dX5_show_13 : decode cX5_show 13 = .ok (.aload_n 2, 1) := by decide +kernel
theorem dX5_show_14 : decode cX5_show 14 = .ok (.getfield 318, 3) := by decide +kernel
theorem dX5_show_17 : decode cX5_show 17 = .ok (.ifCond .gt 14, 3) := by decide +kernel
theorem dX5_show_20 : decode cX5_show 20 = .ok (.new 114, 3) := by decide +kernel
theorem dX5_show_23 : decode cX5_show 23 = .ok (.dup, 1) := by decide +kernel
theorem dX5_show_24 : decode cX5_show 24 = .ok (.ldc_w 321, 3) := by decide +kernel
theorem dX5_show_27 : decode cX5_show 27 = .ok (.invokespecial 118, 3) := by decide +kernel
theorem dX5_show_30 : decode cX5_show 30 = .ok (.athrow, 1) := by decide +kernel
theorem dX5_show_31 : decode cX5_show 31 = .ok (.iconst 0, 1) := by decide +kernel
theorem dX5_show_32 : decode cX5_show 32 = .ok (.istore_n 3, 1) := by decide +kernel
theorem dX5_show_33 : decode cX5_show 33 = .ok (.iload_n 3, 1) := by decide +kernel
theorem dX5_show_34 : decode cX5_show 34 = .ok (.aload_n 0, 1) := by decide +kernel
theorem dX5_show_35 : decode cX5_show 35 = .ok (.getfield 19, 3) := by decide +kernel
theorem dX5_show_38 : decode cX5_show 38 = .ok (.invokevirtual 39, 3) := by decide +kernel
theorem dX5_show_41 : decode cX5_show 41 = .ok (.if_icmp .ge 44, 3) := by decide +kernel
theorem dX5_show_44 : decode cX5_show 44 = .ok (.aload_n 0, 1) := by decide +kernel
theorem dX5_show_45 : decode cX5_show 45 = .ok (.getfield 19, 3) := by decide +kernel
theorem dX5_show_48 : decode cX5_show 48 = .ok (.iload_n 3, 1) := by decide +kernel
theorem dX5_show_49 : decode cX5_show 49 = .ok (.invokevirtual 146, 3) := by decide +kernel
theorem dX5_show_52 : decode cX5_show 52 = .ok (.checkcast 86, 3) := by decide +kernel
theorem dX5_show_55 : decode cX5_show 55 = .ok (.astore 4, 2) := by decide +kernel
theorem dX5_show_57 : decode cX5_show 57 = .ok (.aload 4, 2) := by decide +kernel
theorem dX5_show_59 : decode cX5_show 59 = .ok (.getfield 96, 3) := by decide +kernel
theorem dX5_show_62 : decode cX5_show 62 = .ok (.aload_n 2, 1) := by decide +kernel
theorem dX5_show_63 : decode cX5_show 63 = .ok (.getfield 323, 3) := by decide +kernel
theorem dX5_show_66 : decode cX5_show 66 = .ok (.if_acmp .ne 13, 3) := by decide +kernel
theorem dX5_show_69 : decode cX5_show 69 = .ok (.aload_n 0, 1) := by decide +kernel
theorem dX5_show_70 : decode cX5_show 70 = .ok (.aload 4, 2) := by decide +kernel
theorem dX5_show_72 : decode cX5_show 72 = .ok (.aload_n 2, 1) := by decide +kernel
theorem dX5_show_73 : decode cX5_show 73 = .ok (.getfield 324, 3) := by decide +kernel
theorem dX5_show_76 : decode cX5_show 76 = .ok (.invokevirtual 195, 3) := by decide +kernel
theorem dX5_show_79 : decode cX5_show 79 = .ok (.iinc 3 1, 3) := by decide +kernel
theorem dX5_show_82 : decode cX5_show 82 = .ok (.goto (-49), 3) := by decide +kernel
theorem dX5_show_85 : decode cX5_show 85 = .ok (.aload_n 2, 1) := by decide +kernel
theorem dX5_show_86 : decode cX5_show 86 = .ok (.dup, 1) := by decide +kernel
theorem dX5_show_87 : decode cX5_show 87 = .ok (.getfield 318, 3) := by decide +kernel
theorem dX5_show_90 : decode cX5_show 90 = .ok (.iconst 1, 1) := by decide +kernel
theorem dX5_show_91 : decode cX5_show 91 = .ok (.isub, 1) := by decide +kernel
theorem dX5_show_92 : decode cX5_show 92 = .ok (.putfield 318, 3) := by decide +kernel
theorem dX5_show_95 : decode cX5_show 95 = .ok (.aload_n 2, 1) := by decide +kernel
theorem dX5_show_96 : decode cX5_show 96 = .ok (.getfield 318, 3) := by decide +kernel
theorem dX5_show_99 : decode cX5_show 99 = .ok (.ireturn, 1) := by decide +kernel
theorem dX5_giveBack_0 : decode cX5_giveBack 0 = .ok (.aload_n 0, 1) := by decide +kernel
theorem dX5_giveBack_1 : decode cX5_giveBack 1 = .ok (.iload_n 1, 1) := by decide +kernel
theorem dX5_giveBack_2 : decode cX5_giveBack 2 = .ok (.invokevirtual 311, 3) := by decide +kernel
theorem dX5_giveBack_5 : decode cX5_giveBack 5 = .ok (.astore_n 2, 1) := by decide +kernel
theorem dX5_giveBack_6 : decode cX5_giveBack 6 = .ok (.aload_n 2, 1) := by decide +kernel
theorem dX5_giveBack_7 : decode cX5_giveBack 7 = .ok (.getfield 315, 3) := by decide +kernel
theorem dX5_giveBack_10 : decode cX5_giveBack 10 = .ok (.ifCond .eq 14, 3) := by decide +kernel
theorem dX5_giveBack_13 : decode cX5_giveBack 13 = .ok (.new 114, 3) := by decide +kernel
theorem dX5_giveBack_16 : decode cX5_giveBack 16 = .ok (.dup, 1) := by decide +kernel
theorem dX5_giveBack_17 : decode cX5_giveBack 17 = .ok (.ldc_w 327, 3) := by decide +kernel
theorem dX5_giveBack_20 : decode cX5_giveBack 20 = .ok (.invokespecial 118, 3) := by decide +kernel
theorem dX5_giveBack_23 : decode cX5_giveBack 23 = .ok (.athrow, 1) := by decide +kernel
theorem dX5_giveBack_24 : decode cX5_giveBack 24 = .ok (.aload_n 2, 1) := by decide +kernel
theorem dX5_giveBack_25 : decode cX5_giveBack 25 = .ok (.iconst 1, 1) := by decide +kernel
theorem dX5_giveBack_26 : decode cX5_giveBack 26 = .ok (.putfield 315, 3) := by decide +kernel
theorem dX5_giveBack_29 : decode cX5_giveBack 29 = .ok (.aload_n 2, 1) := by decide +kernel
theorem dX5_giveBack_30 : decode cX5_giveBack 30 = .ok (.getfield 323, 3) := by decide +kernel
theorem dX5_giveBack_33 : decode cX5_giveBack 33 = .ok (.iconst 0, 1) := by decide +kernel
theorem dX5_giveBack_34 : decode cX5_giveBack 34 = .ok (.putfield 307, 3) := by decide +kernel
theorem dX5_giveBack_37 : decode cX5_giveBack 37 = .ok (.aload_n 0, 1) := by decide +kernel
theorem dX5_giveBack_38 : decode cX5_giveBack 38 = .ok (.getfield 32, 3) := by decide +kernel
theorem dX5_giveBack_41 : decode cX5_giveBack 41 = .ok (.aload_n 2, 1) := by decide +kernel
theorem dX5_giveBack_42 : decode cX5_giveBack 42 = .ok (.getfield 329, 3) := by decide +kernel
theorem dX5_giveBack_45 : decode cX5_giveBack 45 = .ok (.isub, 1) := by decide +kernel
theorem dX5_giveBack_46 : decode cX5_giveBack 46 = .ok (.iconst 0, 1) := by decide +kernel
theorem dX5_giveBack_47 : decode cX5_giveBack 47 = .ok (.invokestatic 279, 3) := by decide +kernel
theorem dX5_giveBack_50 : decode cX5_giveBack 50 = .ok (.ireturn, 1) := by decide +kernel
theorem dX5_advance_0 : decode cX5_advance 0 = .ok (.iload_n 1, 1) := by decide +kernel
theorem dX5_advance_1 : decode cX5_advance 1 = .ok (.iconst 1, 1) := by decide +kernel
theorem dX5_advance_2 : decode cX5_advance 2 = .ok (.if_icmp .lt 9, 3) := by decide +kernel
theorem dX5_advance_5 : decode cX5_advance 5 = .ok (.iload_n 1, 1) := by decide +kernel
theorem dX5_advance_6 : decode cX5_advance 6 = .ok (.bipush 99, 2) := by decide +kernel
theorem dX5_advance_8 : decode cX5_advance 8 = .ok (.if_icmp .le 14, 3) := by decide +kernel
theorem dX5_advance_11 : decode cX5_advance 11 = .ok (.new 101, 3) := by decide +kernel
theorem dX5_advance_14 : decode cX5_advance 14 = .ok (.dup, 1) := by decide +kernel
theorem dX5_advance_15 : decode cX5_advance 15 = .ok (.ldc_w 332, 3) := by decide +kernel
theorem dX5_advance_18 : decode cX5_advance 18 = .ok (.invokespecial 105, 3) := by decide +kernel
theorem dX5_advance_21 : decode cX5_advance 21 = .ok (.athrow, 1) := by decide +kernel
theorem dX5_advance_22 : decode cX5_advance 22 = .ok (.aload_n 0, 1) := by decide +kernel
theorem dX5_advance_23 : decode cX5_advance 23 = .ok (.dup, 1) := by decide +kernel
theorem dX5_advance_24 : decode cX5_advance 24 = .ok (.getfield 32, 3) := by decide +kernel
theorem dX5_advance_27 : decode cX5_advance 27 = .ok (.iload_n 1, 1) := by decide +kernel
theorem dX5_advance_28 : decode cX5_advance 28 = .ok (.iadd, 1) := by decide +kernel
theorem dX5_advance_29 : decode cX5_advance 29 = .ok (.putfield 32, 3) := by decide +kernel
theorem dX5_advance_32 : decode cX5_advance 32 = .ok (.iconst 0, 1) := by decide +kernel
theorem dX5_advance_33 : decode cX5_advance 33 = .ok (.istore_n 2, 1) := by decide +kernel
theorem dX5_advance_34 : decode cX5_advance 34 = .ok (.iconst 0, 1) := by decide +kernel
theorem dX5_advance_35 : decode cX5_advance 35 = .ok (.istore_n 3, 1) := by decide +kernel
theorem dX5_advance_36 : decode cX5_advance 36 = .ok (.iload_n 3, 1) := by decide +kernel
theorem dX5_advance_37 : decode cX5_advance 37 = .ok (.aload_n 0, 1) := by decide +kernel
theorem dX5_advance_38 : decode cX5_advance 38 = .ok (.getfield 25, 3) := by decide +kernel
theorem dX5_advance_41 : decode cX5_advance 41 = .ok (.invokevirtual 39, 3) := by decide +kernel
theorem dX5_advance_44 : decode cX5_advance 44 = .ok (.if_icmp .ge 45, 3) := by decide +kernel
theorem dX5_advance_47 : decode cX5_advance 47 = .ok (.aload_n 0, 1) := by decide +kernel
theorem dX5_advance_48 : decode cX5_advance 48 = .ok (.getfield 25, 3) := by decide +kernel
theorem dX5_advance_51 : decode cX5_advance 51 = .ok (.iload_n 3, 1) := by decide +kernel
theorem dX5_advance_52 : decode cX5_advance 52 = .ok (.invokevirtual 146, 3) := by decide +kernel
theorem dX5_advance_55 : decode cX5_advance 55 = .ok (.checkcast 302, 3) := by decide +kernel
theorem dX5_advance_58 : decode cX5_advance 58 = .ok (.astore 4, 2) := by decide +kernel
theorem dX5_advance_60 : decode cX5_advance 60 = .ok (.aload 4, 2) := by decide +kernel
theorem dX5_advance_62 : decode cX5_advance 62 = .ok (.getfield 315, 3) := by decide +kernel
theorem dX5_advance_65 : decode cX5_advance 65 = .ok (.ifCond .ne 18, 3) := by decide +kernel
theorem dX5_advance_68 : decode cX5_advance 68 = .ok (.aload_n 0, 1) := by decide +kernel
theorem dX5_advance_69 : decode cX5_advance 69 = .ok (.getfield 32, 3) := by decide +kernel
theorem dX5_advance_72 : decode cX5_advance 72 = .ok (.aload 4, 2) := by decide +kernel
theorem dX5_advance_74 : decode cX5_advance 74 = .ok (.getfield 329, 3) := by decide +kernel
theorem dX5_advance_77 : decode cX5_advance 77 = .ok (.if_icmp .le 6, 3) := by decide +kernel
theorem dX5_advance_80 : decode cX5_advance 80 = .ok (.iinc 2 1, 3) := by decide +kernel
theorem dX5_advance_83 : decode cX5_advance 83 = .ok (.iinc 3 1, 3) := by decide +kernel
theorem dX5_advance_86 : decode cX5_advance 86 = .ok (.goto (-50), 3) := by decide +kernel
theorem dX5_advance_89 : decode cX5_advance 89 = .ok (.iload_n 2, 1) := by decide +kernel
theorem dX5_advance_90 : decode cX5_advance 90 = .ok (.ireturn, 1) := by decide +kernel
theorem dX5_shown_0 : decode cX5_shown 0 = .ok (.aload_n 0, 1) := by decide +kernel
theorem dX5_shown_1 : decode cX5_shown 1 = .ok (.getfield 35, 3) := by decide +kernel
theorem dX5_shown_4 : decode cX5_shown 4 = .ok (.lreturn, 1) := by decide +kernel
theorem dX5_keptShare_0 : decode cX5_keptShare 0 = .ok (.aload_n 0, 1) := by decide +kernel
theorem dX5_keptShare_1 : decode cX5_keptShare 1 = .ok (.getfield 16, 3) := by decide +kernel
theorem dX5_keptShare_4 : decode cX5_keptShare 4 = .ok (.invokevirtual 39, 3) := by decide +kernel
theorem dX5_keptShare_7 : decode cX5_keptShare 7 = .ok (.istore_n 1, 1) := by decide +kernel
theorem dX5_keptShare_8 : decode cX5_keptShare 8 = .ok (.iload_n 1, 1) := by decide +kernel
theorem dX5_keptShare_9 : decode cX5_keptShare 9 = .ok (.ifCond .ne 14, 3) := by decide +kernel
theorem dX5_keptShare_12 : decode cX5_keptShare 12 = .ok (.new 334, 3) := by decide +kernel
theorem dX5_keptShare_15 : decode cX5_keptShare 15 = .ok (.dup, 1) := by decide +kernel
theorem dX5_keptShare_16 : decode cX5_keptShare 16 = .ok (.ldc_w 336, 3) := by decide +kernel
theorem dX5_keptShare_19 : decode cX5_keptShare 19 = .ok (.invokespecial 338, 3) := by decide +kernel
theorem dX5_keptShare_22 : decode cX5_keptShare 22 = .ok (.athrow, 1) := by decide +kernel
theorem dX5_keptShare_23 : decode cX5_keptShare 23 = .ok (.iconst 0, 1) := by decide +kernel
theorem dX5_keptShare_24 : decode cX5_keptShare 24 = .ok (.istore_n 2, 1) := by decide +kernel
theorem dX5_keptShare_25 : decode cX5_keptShare 25 = .ok (.iconst 0, 1) := by decide +kernel
theorem dX5_keptShare_26 : decode cX5_keptShare 26 = .ok (.istore_n 3, 1) := by decide +kernel
theorem dX5_keptShare_27 : decode cX5_keptShare 27 = .ok (.iload_n 3, 1) := by decide +kernel
theorem dX5_keptShare_28 : decode cX5_keptShare 28 = .ok (.iload_n 1, 1) := by decide +kernel
theorem dX5_keptShare_29 : decode cX5_keptShare 29 = .ok (.if_icmp .ge 29, 3) := by decide +kernel
theorem dX5_keptShare_32 : decode cX5_keptShare 32 = .ok (.aload_n 0, 1) := by decide +kernel
theorem dX5_keptShare_33 : decode cX5_keptShare 33 = .ok (.getfield 16, 3) := by decide +kernel
theorem dX5_keptShare_36 : decode cX5_keptShare 36 = .ok (.iload_n 3, 1) := by decide +kernel
theorem dX5_keptShare_37 : decode cX5_keptShare 37 = .ok (.invokevirtual 146, 3) := by decide +kernel
theorem dX5_keptShare_40 : decode cX5_keptShare 40 = .ok (.checkcast 75, 3) := by decide +kernel
theorem dX5_keptShare_43 : decode cX5_keptShare 43 = .ok (.invokevirtual 106, 3) := by decide +kernel
theorem dX5_keptShare_46 : decode cX5_keptShare 46 = .ok (.ifCond .ne 6, 3) := by decide +kernel
theorem dX5_keptShare_49 : decode cX5_keptShare 49 = .ok (.iinc 2 1, 3) := by decide +kernel
theorem dX5_keptShare_52 : decode cX5_keptShare 52 = .ok (.iinc 3 1, 3) := by decide +kernel
theorem dX5_keptShare_55 : decode cX5_keptShare 55 = .ok (.goto (-28), 3) := by decide +kernel
theorem dX5_keptShare_58 : decode cX5_keptShare 58 = .ok (.iload_n 2, 1) := by decide +kernel
theorem dX5_keptShare_59 : decode cX5_keptShare 59 = .ok (.i2f, 1) := by decide +kernel
theorem dX5_keptShare_60 : decode cX5_keptShare 60 = .ok (.iload_n 1, 1) := by decide +kernel
theorem dX5_keptShare_61 : decode cX5_keptShare 61 = .ok (.i2f, 1) := by decide +kernel
theorem dX5_keptShare_62 : decode cX5_keptShare 62 = .ok (.fdiv, 1) := by decide +kernel
theorem dX5_keptShare_63 : decode cX5_keptShare 63 = .ok (.freturn, 1) := by decide +kernel
theorem dX5_meanWear_0 : decode cX5_meanWear 0 = .ok (.iconst 0, 1) := by decide +kernel
theorem dX5_meanWear_1 : decode cX5_meanWear 1 = .ok (.istore_n 1, 1) := by decide +kernel
theorem dX5_meanWear_2 : decode cX5_meanWear 2 = .ok (.iconst 0, 1) := by decide +kernel
theorem dX5_meanWear_3 : decode cX5_meanWear 3 = .ok (.istore_n 2, 1) := by decide +kernel
theorem dX5_meanWear_4 : decode cX5_meanWear 4 = .ok (.iconst 0, 1) := by decide +kernel
theorem dX5_meanWear_5 : decode cX5_meanWear 5 = .ok (.istore_n 3, 1) := by decide +kernel
theorem dX5_meanWear_6 : decode cX5_meanWear 6 = .ok (.iload_n 3, 1) := by decide +kernel
theorem dX5_meanWear_7 : decode cX5_meanWear 7 = .ok (.aload_n 0, 1) := by decide +kernel
theorem dX5_meanWear_8 : decode cX5_meanWear 8 = .ok (.getfield 19, 3) := by decide +kernel
theorem dX5_meanWear_11 : decode cX5_meanWear 11 = .ok (.invokevirtual 39, 3) := by decide +kernel
theorem dX5_meanWear_14 : decode cX5_meanWear 14 = .ok (.if_icmp .ge 38, 3) := by decide +kernel
theorem dX5_meanWear_17 : decode cX5_meanWear 17 = .ok (.aload_n 0, 1) := by decide +kernel
theorem dX5_meanWear_18 : decode cX5_meanWear 18 = .ok (.getfield 19, 3) := by decide +kernel
theorem dX5_meanWear_21 : decode cX5_meanWear 21 = .ok (.iload_n 3, 1) := by decide +kernel
theorem dX5_meanWear_22 : decode cX5_meanWear 22 = .ok (.invokevirtual 146, 3) := by decide +kernel
theorem dX5_meanWear_25 : decode cX5_meanWear 25 = .ok (.checkcast 86, 3) := by decide +kernel
theorem dX5_meanWear_28 : decode cX5_meanWear 28 = .ok (.astore 4, 2) := by decide +kernel
theorem dX5_meanWear_30 : decode cX5_meanWear 30 = .ok (.iload_n 1, 1) := by decide +kernel
theorem dX5_meanWear_31 : decode cX5_meanWear 31 = .ok (.aload 4, 2) := by decide +kernel
theorem dX5_meanWear_33 : decode cX5_meanWear 33 = .ok (.invokevirtual 339, 3) := by decide +kernel
theorem dX5_meanWear_36 : decode cX5_meanWear 36 = .ok (.iadd, 1) := by decide +kernel
theorem dX5_meanWear_37 : decode cX5_meanWear 37 = .ok (.istore_n 1, 1) := by decide +kernel
theorem dX5_meanWear_38 : decode cX5_meanWear 38 = .ok (.iload_n 2, 1) := by decide +kernel
theorem dX5_meanWear_39 : decode cX5_meanWear 39 = .ok (.aload 4, 2) := by decide +kernel
theorem dX5_meanWear_41 : decode cX5_meanWear 41 = .ok (.invokevirtual 342, 3) := by decide +kernel
theorem dX5_meanWear_44 : decode cX5_meanWear 44 = .ok (.iadd, 1) := by decide +kernel
theorem dX5_meanWear_45 : decode cX5_meanWear 45 = .ok (.istore_n 2, 1) := by decide +kernel
theorem dX5_meanWear_46 : decode cX5_meanWear 46 = .ok (.iinc 3 1, 3) := by decide +kernel
theorem dX5_meanWear_49 : decode cX5_meanWear 49 = .ok (.goto (-43), 3) := by decide +kernel
theorem dX5_meanWear_52 : decode cX5_meanWear 52 = .ok (.iload_n 2, 1) := by decide +kernel
theorem dX5_meanWear_53 : decode cX5_meanWear 53 = .ok (.ifCond .ne 14, 3) := by decide +kernel
theorem dX5_meanWear_56 : decode cX5_meanWear 56 = .ok (.new 334, 3) := by decide +kernel
theorem dX5_meanWear_59 : decode cX5_meanWear 59 = .ok (.dup, 1) := by decide +kernel
theorem dX5_meanWear_60 : decode cX5_meanWear 60 = .ok (.ldc_w 345, 3) := by decide +kernel
theorem dX5_meanWear_63 : decode cX5_meanWear 63 = .ok (.invokespecial 338, 3) := by decide +kernel
theorem dX5_meanWear_66 : decode cX5_meanWear 66 = .ok (.athrow, 1) := by decide +kernel
theorem dX5_meanWear_67 : decode cX5_meanWear 67 = .ok (.iload_n 1, 1) := by decide +kernel
theorem dX5_meanWear_68 : decode cX5_meanWear 68 = .ok (.i2d, 1) := by decide +kernel
theorem dX5_meanWear_69 : decode cX5_meanWear 69 = .ok (.iload_n 2, 1) := by decide +kernel
theorem dX5_meanWear_70 : decode cX5_meanWear 70 = .ok (.i2d, 1) := by decide +kernel
theorem dX5_meanWear_71 : decode cX5_meanWear 71 = .ok (.ddiv, 1) := by decide +kernel
theorem dX5_meanWear_72 : decode cX5_meanWear 72 = .ok (.dreturn, 1) := by decide +kernel
theorem dX5_isSound_0 : decode cX5_isSound 0 = .ok (.aload_n 0, 1) := by decide +kernel
theorem dX5_isSound_1 : decode cX5_isSound 1 = .ok (.aload_n 0, 1) := by decide +kernel
theorem dX5_isSound_2 : decode cX5_isSound 2 = .ok (.getfield 28, 3) := by decide +kernel
theorem dX5_isSound_5 : decode cX5_isSound 5 = .ok (.invokevirtual 180, 3) := by decide +kernel
theorem dX5_isSound_8 : decode cX5_isSound 8 = .ok (.ifCond .eq 21, 3) := by decide +kernel
theorem dX5_isSound_11 : decode cX5_isSound 11 = .ok (.aload_n 0, 1) := by decide +kernel
theorem dX5_isSound_12 : decode cX5_isSound 12 = .ok (.invokevirtual 347, 3) := by decide +kernel
theorem dX5_isSound_15 : decode cX5_isSound 15 = .ok (.ifCond .eq 14, 3) := by decide +kernel
theorem dX5_isSound_18 : decode cX5_isSound 18 = .ok (.aload_n 0, 1) := by decide +kernel
theorem dX5_isSound_19 : decode cX5_isSound 19 = .ok (.invokevirtual 350, 3) := by decide +kernel
theorem dX5_isSound_22 : decode cX5_isSound 22 = .ok (.ifCond .eq 7, 3) := by decide +kernel
theorem dX5_isSound_25 : decode cX5_isSound 25 = .ok (.iconst 1, 1) := by decide +kernel
theorem dX5_isSound_26 : decode cX5_isSound 26 = .ok (.goto 4, 3) := by decide +kernel
theorem dX5_isSound_29 : decode cX5_isSound 29 = .ok (.iconst 0, 1) := by decide +kernel
theorem dX5_isSound_30 : decode cX5_isSound 30 = .ok (.ireturn, 1) := by decide +kernel
theorem dX5_filmNumbered_0 : decode cX5_filmNumbered 0 = .ok (.iload_n 1, 1) := by decide +kernel
theorem dX5_filmNumbered_1 : decode cX5_filmNumbered 1 = .ok (.ifCond .lt 14, 3) := by decide +kernel
theorem dX5_filmNumbered_4 : decode cX5_filmNumbered 4 = .ok (.iload_n 1, 1) := by decide +kernel
theorem dX5_filmNumbered_5 : decode cX5_filmNumbered 5 = .ok (.aload_n 0, 1) := by decide +kernel
theorem dX5_filmNumbered_6 : decode cX5_filmNumbered 6 = .ok (.getfield 12, 3) := by decide +kernel
theorem dX5_filmNumbered_9 : decode cX5_filmNumbered 9 = .ok (.invokevirtual 39, 3) := by decide +kernel
theorem dX5_filmNumbered_12 : decode cX5_filmNumbered 12 = .ok (.if_icmp .lt 14, 3) := by decide +kernel
theorem dX5_filmNumbered_15 : decode cX5_filmNumbered 15 = .ok (.new 128, 3) := by decide +kernel
theorem dX5_filmNumbered_18 : decode cX5_filmNumbered 18 = .ok (.dup, 1) := by decide +kernel
theorem dX5_filmNumbered_19 : decode cX5_filmNumbered 19 = .ok (.ldc_w 353, 3) := by decide +kernel
theorem dX5_filmNumbered_22 : decode cX5_filmNumbered 22 = .ok (.invokespecial 132, 3) := by decide +kernel
theorem dX5_filmNumbered_25 : decode cX5_filmNumbered 25 = .ok (.athrow, 1) := by decide +kernel
theorem dX5_filmNumbered_26 : decode cX5_filmNumbered 26 = .ok (.aload_n 0, 1) := by decide +kernel
theorem dX5_filmNumbered_27 : decode cX5_filmNumbered 27 = .ok (.getfield 12, 3) := by decide +kernel
theorem dX5_filmNumbered_30 : decode cX5_filmNumbered 30 = .ok (.iload_n 1, 1) := by decide +kernel
theorem dX5_filmNumbered_31 : decode cX5_filmNumbered 31 = .ok (.invokevirtual 146, 3) := by decide +kernel
theorem dX5_filmNumbered_34 : decode cX5_filmNumbered 34 = .ok (.checkcast 50, 3) := by decide +kernel
theorem dX5_filmNumbered_37 : decode cX5_filmNumbered 37 = .ok (.areturn, 1) := by decide +kernel
theorem dX5_shotNumbered_0 : decode cX5_shotNumbered 0 = .ok (.iload_n 1, 1) := by decide +kernel
theorem dX5_shotNumbered_1 : decode cX5_shotNumbered 1 = .ok (.ifCond .lt 14, 3) := by decide +kernel
theorem dX5_shotNumbered_4 : decode cX5_shotNumbered 4 = .ok (.iload_n 1, 1) := by decide +kernel
theorem dX5_shotNumbered_5 : decode cX5_shotNumbered 5 = .ok (.aload_n 0, 1) := by decide +kernel
theorem dX5_shotNumbered_6 : decode cX5_shotNumbered 6 = .ok (.getfield 16, 3) := by decide +kernel
theorem dX5_shotNumbered_9 : decode cX5_shotNumbered 9 = .ok (.invokevirtual 39, 3) := by decide +kernel
theorem dX5_shotNumbered_12 : decode cX5_shotNumbered 12 = .ok (.if_icmp .lt 14, 3) := by decide +kernel
theorem dX5_shotNumbered_15 : decode cX5_shotNumbered 15 = .ok (.new 128, 3) := by decide +kernel
theorem dX5_shotNumbered_18 : decode cX5_shotNumbered 18 = .ok (.dup, 1) := by decide +kernel
theorem dX5_shotNumbered_19 : decode cX5_shotNumbered 19 = .ok (.ldc_w 355, 3) := by decide +kernel
theorem dX5_shotNumbered_22 : decode cX5_shotNumbered 22 = .ok (.invokespecial 132, 3) := by decide +kernel
theorem dX5_shotNumbered_25 : decode cX5_shotNumbered 25 = .ok (.athrow, 1) := by decide +kernel
theorem dX5_shotNumbered_26 : decode cX5_shotNumbered 26 = .ok (.aload_n 0, 1) := by decide +kernel
theorem dX5_shotNumbered_27 : decode cX5_shotNumbered 27 = .ok (.getfield 16, 3) := by decide +kernel
theorem dX5_shotNumbered_30 : decode cX5_shotNumbered 30 = .ok (.iload_n 1, 1) := by decide +kernel
theorem dX5_shotNumbered_31 : decode cX5_shotNumbered 31 = .ok (.invokevirtual 146, 3) := by decide +kernel
theorem dX5_shotNumbered_34 : decode cX5_shotNumbered 34 = .ok (.checkcast 75, 3) := by decide +kernel
theorem dX5_shotNumbered_37 : decode cX5_shotNumbered 37 = .ok (.areturn, 1) := by decide +kernel
theorem dX5_reelNumbered_0 : decode cX5_reelNumbered 0 = .ok (.iload_n 1, 1) := by decide +kernel
theorem dX5_reelNumbered_1 : decode cX5_reelNumbered 1 = .ok (.ifCond .lt 14, 3) := by decide +kernel
theorem dX5_reelNumbered_4 : decode cX5_reelNumbered 4 = .ok (.iload_n 1, 1) := by decide +kernel
theorem dX5_reelNumbered_5 : decode cX5_reelNumbered 5 = .ok (.aload_n 0, 1) := by decide +kernel
theorem dX5_reelNumbered_6 : decode cX5_reelNumbered 6 = .ok (.getfield 19, 3) := by decide +kernel
theorem dX5_reelNumbered_9 : decode cX5_reelNumbered 9 = .ok (.invokevirtual 39, 3) := by decide +kernel
theorem dX5_reelNumbered_12 : decode cX5_reelNumbered 12 = .ok (.if_icmp .lt 14, 3) := by decide +kernel
theorem dX5_reelNumbered_15 : decode cX5_reelNumbered 15 = .ok (.new 128, 3) := by decide +kernel
theorem dX5_reelNumbered_18 : decode cX5_reelNumbered 18 = .ok (.dup, 1) := by decide +kernel
theorem dX5_reelNumbered_19 : decode cX5_reelNumbered 19 = .ok (.ldc_w 357, 3) := by decide +kernel
theorem dX5_reelNumbered_22 : decode cX5_reelNumbered 22 = .ok (.invokespecial 132, 3) := by decide +kernel
theorem dX5_reelNumbered_25 : decode cX5_reelNumbered 25 = .ok (.athrow, 1) := by decide +kernel
theorem dX5_reelNumbered_26 : decode cX5_reelNumbered 26 = .ok (.aload_n 0, 1) := by decide +kernel
theorem dX5_reelNumbered_27 : decode cX5_reelNumbered 27 = .ok (.getfield 19, 3) := by decide +kernel
theorem dX5_reelNumbered_30 : decode cX5_reelNumbered 30 = .ok (.iload_n 1, 1) := by decide +kernel
theorem dX5_reelNumbered_31 : decode cX5_reelNumbered 31 = .ok (.invokevirtual 146, 3) := by decide +kernel
theorem dX5_reelNumbered_34 : decode cX5_reelNumbered 34 = .ok (.checkcast 86, 3) := by decide +kernel
theorem dX5_reelNumbered_37 : decode cX5_reelNumbered 37 = .ok (.areturn, 1) := by decide +kernel
theorem dX5_versionNumbered_0 : decode cX5_versionNumbered 0 = .ok (.iload_n 1, 1) := by decide +kernel
theorem dX5_versionNumbered_1 : decode cX5_versionNumbered 1 = .ok (.ifCond .lt 14, 3) := by decide +kernel
theorem dX5_versionNumbered_4 : decode cX5_versionNumbered 4 = .ok (.iload_n 1, 1) := by decide +kernel
theorem dX5_versionNumbered_5 : decode cX5_versionNumbered 5 = .ok (.aload_n 0, 1) := by decide +kernel
theorem dX5_versionNumbered_6 : decode cX5_versionNumbered 6 = .ok (.getfield 22, 3) := by decide +kernel
theorem dX5_versionNumbered_9 : decode cX5_versionNumbered 9 = .ok (.invokevirtual 39, 3) := by decide +kernel
theorem dX5_versionNumbered_12 : decode cX5_versionNumbered 12 = .ok (.if_icmp .lt 14, 3) := by decide +kernel
theorem dX5_versionNumbered_15 : decode cX5_versionNumbered 15 = .ok (.new 128, 3) := by decide +kernel
theorem dX5_versionNumbered_18 : decode cX5_versionNumbered 18 = .ok (.dup, 1) := by decide +kernel
theorem dX5_versionNumbered_19 : decode cX5_versionNumbered 19 = .ok (.ldc_w 359, 3) := by decide +kernel
theorem dX5_versionNumbered_22 : decode cX5_versionNumbered 22 = .ok (.invokespecial 132, 3) := by decide +kernel
theorem dX5_versionNumbered_25 : decode cX5_versionNumbered 25 = .ok (.athrow, 1) := by decide +kernel
theorem dX5_versionNumbered_26 : decode cX5_versionNumbered 26 = .ok (.aload_n 0, 1) := by decide +kernel
theorem dX5_versionNumbered_27 : decode cX5_versionNumbered 27 = .ok (.getfield 22, 3) := by decide +kernel
theorem dX5_versionNumbered_30 : decode cX5_versionNumbered 30 = .ok (.iload_n 1, 1) := by decide +kernel
theorem dX5_versionNumbered_31 : decode cX5_versionNumbered 31 = .ok (.invokevirtual 146, 3) := by decide +kernel
theorem dX5_versionNumbered_34 : decode cX5_versionNumbered 34 = .ok (.checkcast 264, 3) := by decide +kernel
theorem dX5_versionNumbered_37 : decode cX5_versionNumbered 37 = .ok (.areturn, 1) := by decide +kernel
theorem dX5_loanNumbered_0 : decode cX5_loanNumbered 0 = .ok (.iload_n 1, 1) := by decide +kernel
theorem dX5_loanNumbered_1 : decode cX5_loanNumbered 1 = .ok (.ifCond .lt 14, 3) := by decide +kernel
theorem dX5_loanNumbered_4 : decode cX5_loanNumbered 4 = .ok (.iload_n 1, 1) := by decide +kernel
theorem dX5_loanNumbered_5 : decode cX5_loanNumbered 5 = .ok (.aload_n 0, 1) := by decide +kernel
theorem dX5_loanNumbered_6 : decode cX5_loanNumbered 6 = .ok (.getfield 25, 3) := by decide +kernel
theorem dX5_loanNumbered_9 : decode cX5_loanNumbered 9 = .ok (.invokevirtual 39, 3) := by decide +kernel
theorem dX5_loanNumbered_12 : decode cX5_loanNumbered 12 = .ok (.if_icmp .lt 14, 3) := by decide +kernel
theorem dX5_loanNumbered_15 : decode cX5_loanNumbered 15 = .ok (.new 128, 3) := by decide +kernel
theorem dX5_loanNumbered_18 : decode cX5_loanNumbered 18 = .ok (.dup, 1) := by decide +kernel
theorem dX5_loanNumbered_19 : decode cX5_loanNumbered 19 = .ok (.ldc_w 361, 3) := by decide +kernel
theorem dX5_loanNumbered_22 : decode cX5_loanNumbered 22 = .ok (.invokespecial 132, 3) := by decide +kernel
theorem dX5_loanNumbered_25 : decode cX5_loanNumbered 25 = .ok (.athrow, 1) := by decide +kernel
theorem dX5_loanNumbered_26 : decode cX5_loanNumbered 26 = .ok (.aload_n 0, 1) := by decide +kernel
theorem dX5_loanNumbered_27 : decode cX5_loanNumbered 27 = .ok (.getfield 25, 3) := by decide +kernel
theorem dX5_loanNumbered_30 : decode cX5_loanNumbered 30 = .ok (.iload_n 1, 1) := by decide +kernel
theorem dX5_loanNumbered_31 : decode cX5_loanNumbered 31 = .ok (.invokevirtual 146, 3) := by decide +kernel
theorem dX5_loanNumbered_34 : decode cX5_loanNumbered 34 = .ok (.checkcast 302, 3) := by decide +kernel
theorem dX5_loanNumbered_37 : decode cX5_loanNumbered 37 = .ok (.areturn, 1) := by decide +kernel
theorem dX5_shotAheadOfSplice_0 : decode cX5_shotAheadOfSplice 0 = .ok (.iload_n 2, 1) := by decide +kernel
theorem dX5_shotAheadOfSplice_1 : decode cX5_shotAheadOfSplice 1 = .ok (.ifCond .lt 11, 3) := by decide +kernel
theorem dX5_shotAheadOfSplice_4 : decode cX5_shotAheadOfSplice 4 = .ok (.iload_n 2, 1) := by decide +kernel
theorem dX5_shotAheadOfSplice_5 : decode cX5_shotAheadOfSplice 5 = .ok (.aload_n 1, 1) := by decide +kernel
theorem dX5_shotAheadOfSplice_6 : decode cX5_shotAheadOfSplice 6 = .ok (.invokevirtual 342, 3) := by decide +kernel
theorem dX5_shotAheadOfSplice_9 : decode cX5_shotAheadOfSplice 9 = .ok (.if_icmp .lt 14, 3) := by decide +kernel
theorem dX5_shotAheadOfSplice_12 : decode cX5_shotAheadOfSplice 12 = .ok (.new 128, 3) := by decide +kernel
theorem dX5_shotAheadOfSplice_15 : decode cX5_shotAheadOfSplice 15 = .ok (.dup, 1) := by decide +kernel
theorem dX5_shotAheadOfSplice_16 : decode cX5_shotAheadOfSplice 16 = .ok (.ldc_w 363, 3) := by decide +kernel
theorem dX5_shotAheadOfSplice_19 : decode cX5_shotAheadOfSplice 19 = .ok (.invokespecial 132, 3) := by decide +kernel
theorem dX5_shotAheadOfSplice_22 : decode cX5_shotAheadOfSplice 22 = .ok (.athrow, 1) := by decide +kernel
theorem dX5_shotAheadOfSplice_23 : decode cX5_shotAheadOfSplice 23 = .ok (.aload_n 1, 1) := by decide +kernel
theorem dX5_shotAheadOfSplice_24 : decode cX5_shotAheadOfSplice 24 = .ok (.getfield 127, 3) := by decide +kernel
theorem dX5_shotAheadOfSplice_27 : decode cX5_shotAheadOfSplice 27 = .ok (.iload_n 2, 1) := by decide +kernel
theorem dX5_shotAheadOfSplice_28 : decode cX5_shotAheadOfSplice 28 = .ok (.invokevirtual 146, 3) := by decide +kernel
theorem dX5_shotAheadOfSplice_31 : decode cX5_shotAheadOfSplice 31 = .ok (.checkcast 75, 3) := by decide +kernel
theorem dX5_shotAheadOfSplice_34 : decode cX5_shotAheadOfSplice 34 = .ok (.areturn, 1) := by decide +kernel
theorem dX5_requireLengthAndScene_0 : decode cX5_requireLengthAndScene 0 = .ok (.iload_n 1, 1) := by decide +kernel
theorem dX5_requireLengthAndScene_1 : decode cX5_requireLengthAndScene 1 = .ok (.iconst 1, 1) := by decide +kernel
theorem dX5_requireLengthAndScene_2 : decode cX5_requireLengthAndScene 2 = .ok (.if_icmp .lt 20, 3) := by decide +kernel
theorem dX5_requireLengthAndScene_5 : decode cX5_requireLengthAndScene 5 = .ok (.iload_n 1, 1) := by decide +kernel
theorem dX5_requireLengthAndScene_6 : decode cX5_requireLengthAndScene 6 = .ok (.sipush 999, 3) := by decide +kernel
theorem dX5_requireLengthAndScene_9 : decode cX5_requireLengthAndScene 9 = .ok (.if_icmp .gt 13, 3) := by decide +kernel
theorem dX5_requireLengthAndScene_12 : decode cX5_requireLengthAndScene 12 = .ok (.iload_n 2, 1) := by decide +kernel
theorem dX5_requireLengthAndScene_13 : decode cX5_requireLengthAndScene 13 = .ok (.ifCond .lt 9, 3) := by decide +kernel
theorem dX5_requireLengthAndScene_16 : decode cX5_requireLengthAndScene 16 = .ok (.iload_n 2, 1) := by decide +kernel
theorem dX5_requireLengthAndScene_17 : decode cX5_requireLengthAndScene 17 = .ok (.bipush 9, 2) := by decide +kernel
theorem dX5_requireLengthAndScene_19 : decode cX5_requireLengthAndScene 19 = .ok (.if_icmp .le 14, 3) := by decide +kernel
theorem dX5_requireLengthAndScene_22 : decode cX5_requireLengthAndScene 22 = .ok (.new 101, 3) := by decide +kernel
theorem dX5_requireLengthAndScene_25 : decode cX5_requireLengthAndScene 25 = .ok (.dup, 1) := by decide +kernel
theorem dX5_requireLengthAndScene_26 : decode cX5_requireLengthAndScene 26 = .ok (.ldc_w 295, 3) := by decide +kernel
theorem dX5_requireLengthAndScene_29 : decode cX5_requireLengthAndScene 29 = .ok (.invokespecial 105, 3) := by decide +kernel
theorem dX5_requireLengthAndScene_32 : decode cX5_requireLengthAndScene 32 = .ok (.athrow, 1) := by decide +kernel
theorem dX5_requireLengthAndScene_33 : decode cX5_requireLengthAndScene 33 = .ok (.return_, 1) := by decide +kernel
theorem dX5_requireNotLent_0 : decode cX5_requireNotLent 0 = .ok (.aload_n 1, 1) := by decide +kernel
theorem dX5_requireNotLent_1 : decode cX5_requireNotLent 1 = .ok (.getfield 307, 3) := by decide +kernel
theorem dX5_requireNotLent_4 : decode cX5_requireNotLent 4 = .ok (.ifCond .eq 14, 3) := by decide +kernel
theorem dX5_requireNotLent_7 : decode cX5_requireNotLent 7 = .ok (.new 114, 3) := by decide +kernel
theorem dX5_requireNotLent_10 : decode cX5_requireNotLent 10 = .ok (.dup, 1) := by decide +kernel
theorem dX5_requireNotLent_11 : decode cX5_requireNotLent 11 = .ok (.ldc_w 365, 3) := by decide +kernel
theorem dX5_requireNotLent_14 : decode cX5_requireNotLent 14 = .ok (.invokespecial 118, 3) := by decide +kernel
theorem dX5_requireNotLent_17 : decode cX5_requireNotLent 17 = .ok (.athrow, 1) := by decide +kernel
theorem dX5_requireNotLent_18 : decode cX5_requireNotLent 18 = .ok (.return_, 1) := by decide +kernel
theorem dX5_isAnyFilmLent_0 : decode cX5_isAnyFilmLent 0 = .ok (.iconst 0, 1) := by decide +kernel
theorem dX5_isAnyFilmLent_1 : decode cX5_isAnyFilmLent 1 = .ok (.istore_n 1, 1) := by decide +kernel
theorem dX5_isAnyFilmLent_2 : decode cX5_isAnyFilmLent 2 = .ok (.iload_n 1, 1) := by decide +kernel
theorem dX5_isAnyFilmLent_3 : decode cX5_isAnyFilmLent 3 = .ok (.aload_n 0, 1) := by decide +kernel
theorem dX5_isAnyFilmLent_4 : decode cX5_isAnyFilmLent 4 = .ok (.getfield 12, 3) := by decide +kernel
theorem dX5_isAnyFilmLent_7 : decode cX5_isAnyFilmLent 7 = .ok (.invokevirtual 39, 3) := by decide +kernel
theorem dX5_isAnyFilmLent_10 : decode cX5_isAnyFilmLent 10 = .ok (.if_icmp .ge 28, 3) := by decide +kernel
theorem dX5_isAnyFilmLent_13 : decode cX5_isAnyFilmLent 13 = .ok (.aload_n 0, 1) := by decide +kernel
theorem dX5_isAnyFilmLent_14 : decode cX5_isAnyFilmLent 14 = .ok (.getfield 12, 3) := by decide +kernel
theorem dX5_isAnyFilmLent_17 : decode cX5_isAnyFilmLent 17 = .ok (.iload_n 1, 1) := by decide +kernel
theorem dX5_isAnyFilmLent_18 : decode cX5_isAnyFilmLent 18 = .ok (.invokevirtual 146, 3) := by decide +kernel
theorem dX5_isAnyFilmLent_21 : decode cX5_isAnyFilmLent 21 = .ok (.checkcast 50, 3) := by decide +kernel
theorem dX5_isAnyFilmLent_24 : decode cX5_isAnyFilmLent 24 = .ok (.getfield 307, 3) := by decide +kernel
theorem dX5_isAnyFilmLent_27 : decode cX5_isAnyFilmLent 27 = .ok (.ifCond .eq 5, 3) := by decide +kernel
theorem dX5_isAnyFilmLent_30 : decode cX5_isAnyFilmLent 30 = .ok (.iconst 1, 1) := by decide +kernel
theorem dX5_isAnyFilmLent_31 : decode cX5_isAnyFilmLent 31 = .ok (.ireturn, 1) := by decide +kernel
theorem dX5_isAnyFilmLent_32 : decode cX5_isAnyFilmLent 32 = .ok (.iinc 1 1, 3) := by decide +kernel
theorem dX5_isAnyFilmLent_35 : decode cX5_isAnyFilmLent 35 = .ok (.goto (-33), 3) := by decide +kernel
theorem dX5_isAnyFilmLent_38 : decode cX5_isAnyFilmLent 38 = .ok (.iconst 0, 1) := by decide +kernel
theorem dX5_isAnyFilmLent_39 : decode cX5_isAnyFilmLent 39 = .ok (.ireturn, 1) := by decide +kernel
theorem dX5_isAheadOfEnd_0 : decode cX5_isAheadOfEnd 0 = .ok (.aload_n 2, 1) := by decide +kernel
theorem dX5_isAheadOfEnd_1 : decode cX5_isAheadOfEnd 1 = .ok (.getfield 127, 3) := by decide +kernel
theorem dX5_isAheadOfEnd_4 : decode cX5_isAheadOfEnd 4 = .ok (.invokevirtual 39, 3) := by decide +kernel
theorem dX5_isAheadOfEnd_7 : decode cX5_isAheadOfEnd 7 = .ok (.istore_n 3, 1) := by decide +kernel
theorem dX5_isAheadOfEnd_8 : decode cX5_isAheadOfEnd 8 = .ok (.iload_n 3, 1) := by decide +kernel
theorem dX5_isAheadOfEnd_9 : decode cX5_isAheadOfEnd 9 = .ok (.ifCond .ne 5, 3) := by decide +kernel
theorem dX5_isAheadOfEnd_12 : decode cX5_isAheadOfEnd 12 = .ok (.iconst 0, 1) := by decide +kernel
theorem dX5_isAheadOfEnd_13 : decode cX5_isAheadOfEnd 13 = .ok (.ireturn, 1) := by decide +kernel
theorem dX5_isAheadOfEnd_14 : decode cX5_isAheadOfEnd 14 = .ok (.aload_n 1, 1) := by decide +kernel
theorem dX5_isAheadOfEnd_15 : decode cX5_isAheadOfEnd 15 = .ok (.getfield 100, 3) := by decide +kernel
theorem dX5_isAheadOfEnd_18 : decode cX5_isAheadOfEnd 18 = .ok (.aload_n 1, 1) := by decide +kernel
theorem dX5_isAheadOfEnd_19 : decode cX5_isAheadOfEnd 19 = .ok (.invokevirtual 161, 3) := by decide +kernel
theorem dX5_isAheadOfEnd_22 : decode cX5_isAheadOfEnd 22 = .ok (.aload_n 1, 1) := by decide +kernel
theorem dX5_isAheadOfEnd_23 : decode cX5_isAheadOfEnd 23 = .ok (.getfield 100, 3) := by decide +kernel
theorem dX5_isAheadOfEnd_26 : decode cX5_isAheadOfEnd 26 = .ok (.aload_n 2, 1) := by decide +kernel
theorem dX5_isAheadOfEnd_27 : decode cX5_isAheadOfEnd 27 = .ok (.getfield 127, 3) := by decide +kernel
theorem dX5_isAheadOfEnd_30 : decode cX5_isAheadOfEnd 30 = .ok (.iload_n 3, 1) := by decide +kernel
theorem dX5_isAheadOfEnd_31 : decode cX5_isAheadOfEnd 31 = .ok (.iconst 1, 1) := by decide +kernel
theorem dX5_isAheadOfEnd_32 : decode cX5_isAheadOfEnd 32 = .ok (.isub, 1) := by decide +kernel
theorem dX5_isAheadOfEnd_33 : decode cX5_isAheadOfEnd 33 = .ok (.invokevirtual 146, 3) := by decide +kernel
theorem dX5_isAheadOfEnd_36 : decode cX5_isAheadOfEnd 36 = .ok (.checkcast 75, 3) := by decide +kernel
theorem dX5_isAheadOfEnd_39 : decode cX5_isAheadOfEnd 39 = .ok (.invokevirtual 161, 3) := by decide +kernel
theorem dX5_isAheadOfEnd_42 : decode cX5_isAheadOfEnd 42 = .ok (.if_icmp .ge 7, 3) := by decide +kernel
theorem dX5_isAheadOfEnd_45 : decode cX5_isAheadOfEnd 45 = .ok (.iconst 1, 1) := by decide +kernel
theorem dX5_isAheadOfEnd_46 : decode cX5_isAheadOfEnd 46 = .ok (.goto 4, 3) := by decide +kernel
theorem dX5_isAheadOfEnd_49 : decode cX5_isAheadOfEnd 49 = .ok (.iconst 0, 1) := by decide +kernel
theorem dX5_isAheadOfEnd_50 : decode cX5_isAheadOfEnd 50 = .ok (.ireturn, 1) := by decide +kernel
theorem dX5_canBeJoined_0 : decode cX5_canBeJoined 0 = .ok (.aload_n 1, 1) := by decide +kernel
theorem dX5_canBeJoined_1 : decode cX5_canBeJoined 1 = .ok (.getfield 127, 3) := by decide +kernel
theorem dX5_canBeJoined_4 : decode cX5_canBeJoined 4 = .ok (.invokevirtual 216, 3) := by decide +kernel
theorem dX5_canBeJoined_7 : decode cX5_canBeJoined 7 = .ok (.ifCond .ne 13, 3) := by decide +kernel
theorem dX5_canBeJoined_10 : decode cX5_canBeJoined 10 = .ok (.aload_n 2, 1) := by decide +kernel
theorem dX5_canBeJoined_11 : decode cX5_canBeJoined 11 = .ok (.getfield 127, 3) := by decide +kernel
theorem dX5_canBeJoined_14 : decode cX5_canBeJoined 14 = .ok (.invokevirtual 216, 3) := by decide +kernel
theorem dX5_canBeJoined_17 : decode cX5_canBeJoined 17 = .ok (.ifCond .eq 5, 3) := by decide +kernel
theorem dX5_canBeJoined_20 : decode cX5_canBeJoined 20 = .ok (.iconst 0, 1) := by decide +kernel
theorem dX5_canBeJoined_21 : decode cX5_canBeJoined 21 = .ok (.ireturn, 1) := by decide +kernel
theorem dX5_canBeJoined_22 : decode cX5_canBeJoined 22 = .ok (.aload_n 0, 1) := by decide +kernel
theorem dX5_canBeJoined_23 : decode cX5_canBeJoined 23 = .ok (.aload_n 2, 1) := by decide +kernel
theorem dX5_canBeJoined_24 : decode cX5_canBeJoined 24 = .ok (.getfield 127, 3) := by decide +kernel
theorem dX5_canBeJoined_27 : decode cX5_canBeJoined 27 = .ok (.iconst 0, 1) := by decide +kernel
theorem dX5_canBeJoined_28 : decode cX5_canBeJoined 28 = .ok (.invokevirtual 146, 3) := by decide +kernel
theorem dX5_canBeJoined_31 : decode cX5_canBeJoined 31 = .ok (.checkcast 75, 3) := by decide +kernel
theorem dX5_canBeJoined_34 : decode cX5_canBeJoined 34 = .ok (.aload_n 1, 1) := by decide +kernel
theorem dX5_canBeJoined_35 : decode cX5_canBeJoined 35 = .ok (.invokevirtual 110, 3) := by decide +kernel
theorem dX5_canBeJoined_38 : decode cX5_canBeJoined 38 = .ok (.ifCond .ne 7, 3) := by decide +kernel
theorem dX5_canBeJoined_41 : decode cX5_canBeJoined 41 = .ok (.iconst 1, 1) := by decide +kernel
theorem dX5_canBeJoined_42 : decode cX5_canBeJoined 42 = .ok (.goto 4, 3) := by decide +kernel
theorem dX5_canBeJoined_45 : decode cX5_canBeJoined 45 = .ok (.iconst 0, 1) := by decide +kernel
theorem dX5_canBeJoined_46 : decode cX5_canBeJoined 46 = .ok (.ireturn, 1) := by decide +kernel
theorem dX5_canFilmTake_0 : decode cX5_canFilmTake 0 = .ok (.iconst 0, 1) := by decide +kernel
theorem dX5_canFilmTake_1 : decode cX5_canFilmTake 1 = .ok (.istore_n 3, 1) := by decide +kernel
theorem dX5_canFilmTake_2 : decode cX5_canFilmTake 2 = .ok (.iload_n 3, 1) := by decide +kernel
theorem dX5_canFilmTake_3 : decode cX5_canFilmTake 3 = .ok (.aload_n 0, 1) := by decide +kernel
theorem dX5_canFilmTake_4 : decode cX5_canFilmTake 4 = .ok (.getfield 19, 3) := by decide +kernel
theorem dX5_canFilmTake_7 : decode cX5_canFilmTake 7 = .ok (.invokevirtual 39, 3) := by decide +kernel
theorem dX5_canFilmTake_10 : decode cX5_canFilmTake 10 = .ok (.if_icmp .ge 46, 3) := by decide +kernel
theorem dX5_canFilmTake_13 : decode cX5_canFilmTake 13 = .ok (.aload_n 0, 1) := by decide +kernel
theorem dX5_canFilmTake_14 : decode cX5_canFilmTake 14 = .ok (.getfield 19, 3) := by decide +kernel
theorem dX5_canFilmTake_17 : decode cX5_canFilmTake 17 = .ok (.iload_n 3, 1) := by decide +kernel
theorem dX5_canFilmTake_18 : decode cX5_canFilmTake 18 = .ok (.invokevirtual 146, 3) := by decide +kernel
theorem dX5_canFilmTake_21 : decode cX5_canFilmTake 21 = .ok (.checkcast 86, 3) := by decide +kernel
theorem dX5_canFilmTake_24 : decode cX5_canFilmTake 24 = .ok (.astore 4, 2) := by decide +kernel
theorem dX5_canFilmTake_26 : decode cX5_canFilmTake 26 = .ok (.aload 4, 2) := by decide +kernel
theorem dX5_canFilmTake_28 : decode cX5_canFilmTake 28 = .ok (.getfield 96, 3) := by decide +kernel
theorem dX5_canFilmTake_31 : decode cX5_canFilmTake 31 = .ok (.aload_n 1, 1) := by decide +kernel
theorem dX5_canFilmTake_32 : decode cX5_canFilmTake 32 = .ok (.if_acmp .ne 18, 3) := by decide +kernel
theorem dX5_canFilmTake_35 : decode cX5_canFilmTake 35 = .ok (.aload 4, 2) := by decide +kernel
theorem dX5_canFilmTake_37 : decode cX5_canFilmTake 37 = .ok (.iload_n 2, 1) := by decide +kernel
theorem dX5_canFilmTake_38 : decode cX5_canFilmTake 38 = .ok (.aload_n 0, 1) := by decide +kernel
theorem dX5_canFilmTake_39 : decode cX5_canFilmTake 39 = .ok (.getfield 28, 3) := by decide +kernel
theorem dX5_canFilmTake_42 : decode cX5_canFilmTake 42 = .ok (.invokevirtual 189, 3) := by decide +kernel
theorem dX5_canFilmTake_45 : decode cX5_canFilmTake 45 = .ok (.ifCond .ne 5, 3) := by decide +kernel
theorem dX5_canFilmTake_48 : decode cX5_canFilmTake 48 = .ok (.iconst 0, 1) := by decide +kernel
theorem dX5_canFilmTake_49 : decode cX5_canFilmTake 49 = .ok (.ireturn, 1) := by decide +kernel
theorem dX5_canFilmTake_50 : decode cX5_canFilmTake 50 = .ok (.iinc 3 1, 3) := by decide +kernel
theorem dX5_canFilmTake_53 : decode cX5_canFilmTake 53 = .ok (.goto (-51), 3) := by decide +kernel
theorem dX5_canFilmTake_56 : decode cX5_canFilmTake 56 = .ok (.iconst 1, 1) := by decide +kernel
theorem dX5_canFilmTake_57 : decode cX5_canFilmTake 57 = .ok (.ireturn, 1) := by decide +kernel
theorem dX5_hasVersion_0 : decode cX5_hasVersion 0 = .ok (.iconst 0, 1) := by decide +kernel
theorem dX5_hasVersion_1 : decode cX5_hasVersion 1 = .ok (.istore_n 3, 1) := by decide +kernel
theorem dX5_hasVersion_2 : decode cX5_hasVersion 2 = .ok (.iload_n 3, 1) := by decide +kernel
theorem dX5_hasVersion_3 : decode cX5_hasVersion 3 = .ok (.aload_n 0, 1) := by decide +kernel
theorem dX5_hasVersion_4 : decode cX5_hasVersion 4 = .ok (.getfield 22, 3) := by decide +kernel
theorem dX5_hasVersion_7 : decode cX5_hasVersion 7 = .ok (.invokevirtual 39, 3) := by decide +kernel
theorem dX5_hasVersion_10 : decode cX5_hasVersion 10 = .ok (.if_icmp .ge 42, 3) := by decide +kernel
theorem dX5_hasVersion_13 : decode cX5_hasVersion 13 = .ok (.aload_n 0, 1) := by decide +kernel
theorem dX5_hasVersion_14 : decode cX5_hasVersion 14 = .ok (.getfield 22, 3) := by decide +kernel
theorem dX5_hasVersion_17 : decode cX5_hasVersion 17 = .ok (.iload_n 3, 1) := by decide +kernel
theorem dX5_hasVersion_18 : decode cX5_hasVersion 18 = .ok (.invokevirtual 146, 3) := by decide +kernel
theorem dX5_hasVersion_21 : decode cX5_hasVersion 21 = .ok (.checkcast 264, 3) := by decide +kernel
theorem dX5_hasVersion_24 : decode cX5_hasVersion 24 = .ok (.astore 4, 2) := by decide +kernel
theorem dX5_hasVersion_26 : decode cX5_hasVersion 26 = .ok (.aload 4, 2) := by decide +kernel
theorem dX5_hasVersion_28 : decode cX5_hasVersion 28 = .ok (.getfield 273, 3) := by decide +kernel
theorem dX5_hasVersion_31 : decode cX5_hasVersion 31 = .ok (.aload_n 1, 1) := by decide +kernel
theorem dX5_hasVersion_32 : decode cX5_hasVersion 32 = .ok (.if_acmp .ne 14, 3) := by decide +kernel
theorem dX5_hasVersion_35 : decode cX5_hasVersion 35 = .ok (.aload 4, 2) := by decide +kernel
theorem dX5_hasVersion_37 : decode cX5_hasVersion 37 = .ok (.getfield 367, 3) := by decide +kernel
theorem dX5_hasVersion_40 : decode cX5_hasVersion 40 = .ok (.iload_n 2, 1) := by decide +kernel
theorem dX5_hasVersion_41 : decode cX5_hasVersion 41 = .ok (.if_icmp .ne 5, 3) := by decide +kernel
theorem dX5_hasVersion_44 : decode cX5_hasVersion 44 = .ok (.iconst 1, 1) := by decide +kernel
theorem dX5_hasVersion_45 : decode cX5_hasVersion 45 = .ok (.ireturn, 1) := by decide +kernel
theorem dX5_hasVersion_46 : decode cX5_hasVersion 46 = .ok (.iinc 3 1, 3) := by decide +kernel
theorem dX5_hasVersion_49 : decode cX5_hasVersion 49 = .ok (.goto (-47), 3) := by decide +kernel
theorem dX5_hasVersion_52 : decode cX5_hasVersion 52 = .ok (.iconst 0, 1) := by decide +kernel
theorem dX5_hasVersion_53 : decode cX5_hasVersion 53 = .ok (.ireturn, 1) := by decide +kernel
theorem dX5_newShot_0 : decode cX5_newShot 0 = .ok (.new 75, 3) := by decide +kernel
theorem dX5_newShot_3 : decode cX5_newShot 3 = .ok (.dup, 1) := by decide +kernel
theorem dX5_newShot_4 : decode cX5_newShot 4 = .ok (.aload_n 1, 1) := by decide +kernel
theorem dX5_newShot_5 : decode cX5_newShot 5 = .ok (.aload_n 0, 1) := by decide +kernel
theorem dX5_newShot_6 : decode cX5_newShot 6 = .ok (.getfield 16, 3) := by decide +kernel
theorem dX5_newShot_9 : decode cX5_newShot 9 = .ok (.invokevirtual 39, 3) := by decide +kernel
theorem dX5_newShot_12 : decode cX5_newShot 12 = .ok (.iload_n 2, 1) := by decide +kernel
theorem dX5_newShot_13 : decode cX5_newShot 13 = .ok (.iload_n 3, 1) := by decide +kernel
theorem dX5_newShot_14 : decode cX5_newShot 14 = .ok (.invokespecial 370, 3) := by decide +kernel
theorem dX5_newShot_17 : decode cX5_newShot 17 = .ok (.astore 4, 2) := by decide +kernel
theorem dX5_newShot_19 : decode cX5_newShot 19 = .ok (.aload_n 0, 1) := by decide +kernel
theorem dX5_newShot_20 : decode cX5_newShot 20 = .ok (.getfield 16, 3) := by decide +kernel
theorem dX5_newShot_23 : decode cX5_newShot 23 = .ok (.aload 4, 2) := by decide +kernel
theorem dX5_newShot_25 : decode cX5_newShot 25 = .ok (.invokevirtual 53, 3) := by decide +kernel
theorem dX5_newShot_28 : decode cX5_newShot 28 = .ok (.pop, 1) := by decide +kernel
theorem dX5_newShot_29 : decode cX5_newShot 29 = .ok (.aload 4, 2) := by decide +kernel
theorem dX5_newShot_31 : decode cX5_newShot 31 = .ok (.areturn, 1) := by decide +kernel
theorem dX5_newReel_0 : decode cX5_newReel 0 = .ok (.new 86, 3) := by decide +kernel
theorem dX5_newReel_3 : decode cX5_newReel 3 = .ok (.dup, 1) := by decide +kernel
theorem dX5_newReel_4 : decode cX5_newReel 4 = .ok (.aload_n 1, 1) := by decide +kernel
theorem dX5_newReel_5 : decode cX5_newReel 5 = .ok (.aload_n 0, 1) := by decide +kernel
theorem dX5_newReel_6 : decode cX5_newReel 6 = .ok (.getfield 19, 3) := by decide +kernel
theorem dX5_newReel_9 : decode cX5_newReel 9 = .ok (.invokevirtual 39, 3) := by decide +kernel
theorem dX5_newReel_12 : decode cX5_newReel 12 = .ok (.invokespecial 371, 3) := by decide +kernel
theorem dX5_newReel_15 : decode cX5_newReel 15 = .ok (.astore_n 2, 1) := by decide +kernel
theorem dX5_newReel_16 : decode cX5_newReel 16 = .ok (.aload_n 0, 1) := by decide +kernel
theorem dX5_newReel_17 : decode cX5_newReel 17 = .ok (.getfield 19, 3) := by decide +kernel
theorem dX5_newReel_20 : decode cX5_newReel 20 = .ok (.aload_n 2, 1) := by decide +kernel
theorem dX5_newReel_21 : decode cX5_newReel 21 = .ok (.invokevirtual 53, 3) := by decide +kernel
theorem dX5_newReel_24 : decode cX5_newReel 24 = .ok (.pop, 1) := by decide +kernel
theorem dX5_newReel_25 : decode cX5_newReel 25 = .ok (.aload_n 2, 1) := by decide +kernel
theorem dX5_newReel_26 : decode cX5_newReel 26 = .ok (.areturn, 1) := by decide +kernel
theorem dX5_play_0 : decode cX5_play 0 = .ok (.aload_n 1, 1) := by decide +kernel
theorem dX5_play_1 : decode cX5_play 1 = .ok (.iload_n 2, 1) := by decide +kernel
theorem dX5_play_2 : decode cX5_play 2 = .ok (.invokevirtual 372, 3) := by decide +kernel
theorem dX5_play_5 : decode cX5_play 5 = .ok (.aload_n 0, 1) := by decide +kernel
theorem dX5_play_6 : decode cX5_play 6 = .ok (.dup, 1) := by decide +kernel
theorem dX5_play_7 : decode cX5_play 7 = .ok (.getfield 35, 3) := by decide +kernel
theorem dX5_play_10 : decode cX5_play 10 = .ok (.aload_n 1, 1) := by decide +kernel
theorem dX5_play_11 : decode cX5_play 11 = .ok (.invokevirtual 376, 3) := by decide +kernel
theorem dX5_play_14 : decode cX5_play 14 = .ok (.i2l, 1) := by decide +kernel
theorem dX5_play_15 : decode cX5_play 15 = .ok (.ladd, 1) := by decide +kernel
theorem dX5_play_16 : decode cX5_play 16 = .ok (.putfield 35, 3) := by decide +kernel
theorem dX5_play_19 : decode cX5_play 19 = .ok (.return_, 1) := by decide +kernel
theorem dX5_takeLastFrame_0 : decode cX5_takeLastFrame 0 = .ok (.iconst 0, 1) := by decide +kernel
theorem dX5_takeLastFrame_1 : decode cX5_takeLastFrame 1 = .ok (.istore_n 2, 1) := by decide +kernel
theorem dX5_takeLastFrame_2 : decode cX5_takeLastFrame 2 = .ok (.iload_n 2, 1) := by decide +kernel
theorem dX5_takeLastFrame_3 : decode cX5_takeLastFrame 3 = .ok (.aload_n 0, 1) := by decide +kernel
theorem dX5_takeLastFrame_4 : decode cX5_takeLastFrame 4 = .ok (.getfield 22, 3) := by decide +kernel
theorem dX5_takeLastFrame_7 : decode cX5_takeLastFrame 7 = .ok (.invokevirtual 39, 3) := by decide +kernel
theorem dX5_takeLastFrame_10 : decode cX5_takeLastFrame 10 = .ok (.if_icmp .ge 49, 3) := by decide +kernel
theorem dX5_takeLastFrame_13 : decode cX5_takeLastFrame 13 = .ok (.aload_n 0, 1) := by decide +kernel
theorem dX5_takeLastFrame_14 : decode cX5_takeLastFrame 14 = .ok (.getfield 22, 3) := by decide +kernel
theorem dX5_takeLastFrame_17 : decode cX5_takeLastFrame 17 = .ok (.iload_n 2, 1) := by decide +kernel
theorem dX5_takeLastFrame_18 : decode cX5_takeLastFrame 18 = .ok (.invokevirtual 146, 3) := by decide +kernel
theorem dX5_takeLastFrame_21 : decode cX5_takeLastFrame 21 = .ok (.checkcast 264, 3) := by decide +kernel
theorem dX5_takeLastFrame_24 : decode cX5_takeLastFrame 24 = .ok (.astore_n 3, 1) := by decide +kernel
theorem dX5_takeLastFrame_25 : decode cX5_takeLastFrame 25 = .ok (.aload_n 3, 1) := by decide +kernel
theorem dX5_takeLastFrame_26 : decode cX5_takeLastFrame 26 = .ok (.getfield 273, 3) := by decide +kernel
theorem dX5_takeLastFrame_29 : decode cX5_takeLastFrame 29 = .ok (.aload_n 1, 1) := by decide +kernel
theorem dX5_takeLastFrame_30 : decode cX5_takeLastFrame 30 = .ok (.getfield 100, 3) := by decide +kernel
theorem dX5_takeLastFrame_33 : decode cX5_takeLastFrame 33 = .ok (.if_acmp .ne 20, 3) := by decide +kernel
theorem dX5_takeLastFrame_36 : decode cX5_takeLastFrame 36 = .ok (.aload_n 3, 1) := by decide +kernel
theorem dX5_takeLastFrame_37 : decode cX5_takeLastFrame 37 = .ok (.aload_n 1, 1) := by decide +kernel
theorem dX5_takeLastFrame_38 : decode cX5_takeLastFrame 38 = .ok (.aload_n 1, 1) := by decide +kernel
theorem dX5_takeLastFrame_39 : decode cX5_takeLastFrame 39 = .ok (.getfield 153, 3) := by decide +kernel
theorem dX5_takeLastFrame_42 : decode cX5_takeLastFrame 42 = .ok (.iconst 1, 1) := by decide +kernel
theorem dX5_takeLastFrame_43 : decode cX5_takeLastFrame 43 = .ok (.isub, 1) := by decide +kernel
theorem dX5_takeLastFrame_44 : decode cX5_takeLastFrame 44 = .ok (.aload_n 1, 1) := by decide +kernel
theorem dX5_takeLastFrame_45 : decode cX5_takeLastFrame 45 = .ok (.getfield 153, 3) := by decide +kernel
theorem dX5_takeLastFrame_48 : decode cX5_takeLastFrame 48 = .ok (.iconst 0, 1) := by decide +kernel
theorem dX5_takeLastFrame_49 : decode cX5_takeLastFrame 49 = .ok (.invokevirtual 288, 3) := by decide +kernel
theorem dX5_takeLastFrame_52 : decode cX5_takeLastFrame 52 = .ok (.pop, 1) := by decide +kernel
theorem dX5_takeLastFrame_53 : decode cX5_takeLastFrame 53 = .ok (.iinc 2 1, 3) := by decide +kernel
theorem dX5_takeLastFrame_56 : decode cX5_takeLastFrame 56 = .ok (.goto (-54), 3) := by decide +kernel
theorem dX5_takeLastFrame_59 : decode cX5_takeLastFrame 59 = .ok (.aload_n 1, 1) := by decide +kernel
theorem dX5_takeLastFrame_60 : decode cX5_takeLastFrame 60 = .ok (.dup, 1) := by decide +kernel
theorem dX5_takeLastFrame_61 : decode cX5_takeLastFrame 61 = .ok (.getfield 153, 3) := by decide +kernel
theorem dX5_takeLastFrame_64 : decode cX5_takeLastFrame 64 = .ok (.iconst 1, 1) := by decide +kernel
theorem dX5_takeLastFrame_65 : decode cX5_takeLastFrame 65 = .ok (.isub, 1) := by decide +kernel
theorem dX5_takeLastFrame_66 : decode cX5_takeLastFrame 66 = .ok (.putfield 153, 3) := by decide +kernel
theorem dX5_takeLastFrame_69 : decode cX5_takeLastFrame 69 = .ok (.aload_n 1, 1) := by decide +kernel
theorem dX5_takeLastFrame_70 : decode cX5_takeLastFrame 70 = .ok (.aload_n 1, 1) := by decide +kernel
theorem dX5_takeLastFrame_71 : decode cX5_takeLastFrame 71 = .ok (.getfield 231, 3) := by decide +kernel
theorem dX5_takeLastFrame_74 : decode cX5_takeLastFrame 74 = .ok (.aload_n 1, 1) := by decide +kernel
theorem dX5_takeLastFrame_75 : decode cX5_takeLastFrame 75 = .ok (.getfield 153, 3) := by decide +kernel
theorem dX5_takeLastFrame_78 : decode cX5_takeLastFrame 78 = .ok (.invokestatic 285, 3) := by decide +kernel
theorem dX5_takeLastFrame_81 : decode cX5_takeLastFrame 81 = .ok (.putfield 231, 3) := by decide +kernel
theorem dX5_takeLastFrame_84 : decode cX5_takeLastFrame 84 = .ok (.return_, 1) := by decide +kernel
theorem dX5_framesLostAt_0 : decode cX5_framesLostAt 0 = .ok (.iconst 0, 1) := by decide +kernel
theorem dX5_framesLostAt_1 : decode cX5_framesLostAt 1 = .ok (.istore_n 3, 1) := by decide +kernel
theorem dX5_framesLostAt_2 : decode cX5_framesLostAt 2 = .ok (.aload_n 0, 1) := by decide +kernel
theorem dX5_framesLostAt_3 : decode cX5_framesLostAt 3 = .ok (.aload_n 1, 1) := by decide +kernel
theorem dX5_framesLostAt_4 : decode cX5_framesLostAt 4 = .ok (.iload_n 2, 1) := by decide +kernel
theorem dX5_framesLostAt_5 : decode cX5_framesLostAt 5 = .ok (.iconst 1, 1) := by decide +kernel
theorem dX5_framesLostAt_6 : decode cX5_framesLostAt 6 = .ok (.isub, 1) := by decide +kernel
theorem dX5_framesLostAt_7 : decode cX5_framesLostAt 7 = .ok (.invokevirtual 377, 3) := by decide +kernel
theorem dX5_framesLostAt_10 : decode cX5_framesLostAt 10 = .ok (.ifCond .eq 6, 3) := by decide +kernel
theorem dX5_framesLostAt_13 : decode cX5_framesLostAt 13 = .ok (.iinc 3 1, 3) := by decide +kernel
theorem dX5_framesLostAt_16 : decode cX5_framesLostAt 16 = .ok (.aload_n 0, 1) := by decide +kernel
theorem dX5_framesLostAt_17 : decode cX5_framesLostAt 17 = .ok (.aload_n 1, 1) := by decide +kernel
theorem dX5_framesLostAt_18 : decode cX5_framesLostAt 18 = .ok (.iload_n 2, 1) := by decide +kernel
theorem dX5_framesLostAt_19 : decode cX5_framesLostAt 19 = .ok (.invokevirtual 377, 3) := by decide +kernel
theorem dX5_framesLostAt_22 : decode cX5_framesLostAt 22 = .ok (.ifCond .eq 6, 3) := by decide +kernel
theorem dX5_framesLostAt_25 : decode cX5_framesLostAt 25 = .ok (.iinc 3 1, 3) := by decide +kernel
theorem dX5_framesLostAt_28 : decode cX5_framesLostAt 28 = .ok (.iload_n 3, 1) := by decide +kernel
theorem dX5_framesLostAt_29 : decode cX5_framesLostAt 29 = .ok (.aload_n 1, 1) := by decide +kernel
theorem dX5_framesLostAt_30 : decode cX5_framesLostAt 30 = .ok (.getfield 127, 3) := by decide +kernel
theorem dX5_framesLostAt_33 : decode cX5_framesLostAt 33 = .ok (.iload_n 2, 1) := by decide +kernel
theorem dX5_framesLostAt_34 : decode cX5_framesLostAt 34 = .ok (.invokevirtual 146, 3) := by decide +kernel
theorem dX5_framesLostAt_37 : decode cX5_framesLostAt 37 = .ok (.checkcast 75, 3) := by decide +kernel
theorem dX5_framesLostAt_40 : decode cX5_framesLostAt 40 = .ok (.getfield 153, 3) := by decide +kernel
theorem dX5_framesLostAt_43 : decode cX5_framesLostAt 43 = .ok (.invokestatic 285, 3) := by decide +kernel
theorem dX5_framesLostAt_46 : decode cX5_framesLostAt 46 = .ok (.ireturn, 1) := by decide +kernel
theorem dX5_isWorn_0 : decode cX5_isWorn 0 = .ok (.iload_n 2, 1) := by decide +kernel
theorem dX5_isWorn_1 : decode cX5_isWorn 1 = .ok (.ifCond .lt 38, 3) := by decide +kernel
theorem dX5_isWorn_4 : decode cX5_isWorn 4 = .ok (.iload_n 2, 1) := by decide +kernel
theorem dX5_isWorn_5 : decode cX5_isWorn 5 = .ok (.aload_n 1, 1) := by decide +kernel
theorem dX5_isWorn_6 : decode cX5_isWorn 6 = .ok (.invokevirtual 342, 3) := by decide +kernel
theorem dX5_isWorn_9 : decode cX5_isWorn 9 = .ok (.if_icmp .ge 30, 3) := by decide +kernel
theorem dX5_isWorn_12 : decode cX5_isWorn 12 = .ok (.iconst 2, 1) := by decide +kernel
theorem dX5_isWorn_13 : decode cX5_isWorn 13 = .ok (.aload_n 1, 1) := by decide +kernel
theorem dX5_isWorn_14 : decode cX5_isWorn 14 = .ok (.getfield 127, 3) := by decide +kernel
theorem dX5_isWorn_17 : decode cX5_isWorn 17 = .ok (.iload_n 2, 1) := by decide +kernel
theorem dX5_isWorn_18 : decode cX5_isWorn 18 = .ok (.invokevirtual 146, 3) := by decide +kernel
theorem dX5_isWorn_21 : decode cX5_isWorn 21 = .ok (.checkcast 75, 3) := by decide +kernel
theorem dX5_isWorn_24 : decode cX5_isWorn 24 = .ok (.getfield 206, 3) := by decide +kernel
theorem dX5_isWorn_27 : decode cX5_isWorn 27 = .ok (.imul, 1) := by decide +kernel
theorem dX5_isWorn_28 : decode cX5_isWorn 28 = .ok (.aload_n 0, 1) := by decide +kernel
theorem dX5_isWorn_29 : decode cX5_isWorn 29 = .ok (.getfield 28, 3) := by decide +kernel
theorem dX5_isWorn_32 : decode cX5_isWorn 32 = .ok (.if_icmp .lt 7, 3) := by decide +kernel
theorem dX5_isWorn_35 : decode cX5_isWorn 35 = .ok (.iconst 1, 1) := by decide +kernel
theorem dX5_isWorn_36 : decode cX5_isWorn 36 = .ok (.goto 4, 3) := by decide +kernel
theorem dX5_isWorn_39 : decode cX5_isWorn 39 = .ok (.iconst 0, 1) := by decide +kernel
theorem dX5_isWorn_40 : decode cX5_isWorn 40 = .ok (.ireturn, 1) := by decide +kernel
theorem dX5_isWearWithin_0 : decode cX5_isWearWithin 0 = .ok (.iconst 0, 1) := by decide +kernel
theorem dX5_isWearWithin_1 : decode cX5_isWearWithin 1 = .ok (.istore_n 2, 1) := by decide +kernel
theorem dX5_isWearWithin_2 : decode cX5_isWearWithin 2 = .ok (.iload_n 2, 1) := by decide +kernel
theorem dX5_isWearWithin_3 : decode cX5_isWearWithin 3 = .ok (.aload_n 0, 1) := by decide +kernel
theorem dX5_isWearWithin_4 : decode cX5_isWearWithin 4 = .ok (.getfield 19, 3) := by decide +kernel
theorem dX5_isWearWithin_7 : decode cX5_isWearWithin 7 = .ok (.invokevirtual 39, 3) := by decide +kernel
theorem dX5_isWearWithin_10 : decode cX5_isWearWithin 10 = .ok (.if_icmp .ge 30, 3) := by decide +kernel
theorem dX5_isWearWithin_13 : decode cX5_isWearWithin 13 = .ok (.aload_n 0, 1) := by decide +kernel
theorem dX5_isWearWithin_14 : decode cX5_isWearWithin 14 = .ok (.getfield 19, 3) := by decide +kernel
theorem dX5_isWearWithin_17 : decode cX5_isWearWithin 17 = .ok (.iload_n 2, 1) := by decide +kernel
theorem dX5_isWearWithin_18 : decode cX5_isWearWithin 18 = .ok (.invokevirtual 146, 3) := by decide +kernel
theorem dX5_isWearWithin_21 : decode cX5_isWearWithin 21 = .ok (.checkcast 86, 3) := by decide +kernel
theorem dX5_isWearWithin_24 : decode cX5_isWearWithin 24 = .ok (.iconst 0, 1) := by decide +kernel
theorem dX5_isWearWithin_25 : decode cX5_isWearWithin 25 = .ok (.iload_n 1, 1) := by decide +kernel
theorem dX5_isWearWithin_26 : decode cX5_isWearWithin 26 = .ok (.invokevirtual 189, 3) := by decide +kernel
theorem dX5_isWearWithin_29 : decode cX5_isWearWithin 29 = .ok (.ifCond .ne 5, 3) := by decide +kernel
theorem dX5_isWearWithin_32 : decode cX5_isWearWithin 32 = .ok (.iconst 0, 1) := by decide +kernel
theorem dX5_isWearWithin_33 : decode cX5_isWearWithin 33 = .ok (.ireturn, 1) := by decide +kernel
theorem dX5_isWearWithin_34 : decode cX5_isWearWithin 34 = .ok (.iinc 2 1, 3) := by decide +kernel
theorem dX5_isWearWithin_37 : decode cX5_isWearWithin 37 = .ok (.goto (-35), 3) := by decide +kernel
theorem dX5_isWearWithin_40 : decode cX5_isWearWithin 40 = .ok (.iconst 1, 1) := by decide +kernel
theorem dX5_isWearWithin_41 : decode cX5_isWearWithin 41 = .ok (.ireturn, 1) := by decide +kernel
theorem dX5_arePassedGradesSound_0 : decode cX5_arePassedGradesSound 0 = .ok (.iconst 0, 1) := by decide +kernel
theorem dX5_arePassedGradesSound_1 : decode cX5_arePassedGradesSound 1 = .ok (.istore_n 1, 1) := by decide +kernel
theorem dX5_arePassedGradesSound_2 : decode cX5_arePassedGradesSound 2 = .ok (.iload_n 1, 1) := by decide +kernel
theorem dX5_arePassedGradesSound_3 : decode cX5_arePassedGradesSound 3 = .ok (.aload_n 0, 1) := by decide +kernel
theorem dX5_arePassedGradesSound_4 : decode cX5_arePassedGradesSound 4 = .ok (.getfield 16, 3) := by decide +kernel
theorem dX5_arePassedGradesSound_7 : decode cX5_arePassedGradesSound 7 = .ok (.invokevirtual 39, 3) := by decide +kernel
theorem dX5_arePassedGradesSound_10 : decode cX5_arePassedGradesSound 10 = .ok (.if_icmp .ge 40, 3) := by decide +kernel
theorem dX5_arePassedGradesSound_13 : decode cX5_arePassedGradesSound 13 = .ok (.aload_n 0, 1) := by decide +kernel
theorem dX5_arePassedGradesSound_14 : decode cX5_arePassedGradesSound 14 = .ok (.getfield 16, 3) := by decide +kernel
theorem dX5_arePassedGradesSound_17 : decode cX5_arePassedGradesSound 17 = .ok (.iload_n 1, 1) := by decide +kernel
theorem dX5_arePassedGradesSound_18 : decode cX5_arePassedGradesSound 18 = .ok (.invokevirtual 146, 3) := by decide +kernel
theorem dX5_arePassedGradesSound_21 : decode cX5_arePassedGradesSound 21 = .ok (.checkcast 75, 3) := by decide +kernel
theorem dX5_arePassedGradesSound_24 : decode cX5_arePassedGradesSound 24 = .ok (.astore_n 2, 1) := by decide +kernel
theorem dX5_arePassedGradesSound_25 : decode cX5_arePassedGradesSound 25 = .ok (.aload_n 2, 1) := by decide +kernel
theorem dX5_arePassedGradesSound_26 : decode cX5_arePassedGradesSound 26 = .ok (.getfield 244, 3) := by decide +kernel
theorem dX5_arePassedGradesSound_29 : decode cX5_arePassedGradesSound 29 = .ok (.astore_n 3, 1) := by decide +kernel
theorem dX5_arePassedGradesSound_30 : decode cX5_arePassedGradesSound 30 = .ok (.aload_n 3, 1) := by decide +kernel
theorem dX5_arePassedGradesSound_31 : decode cX5_arePassedGradesSound 31 = .ok (.ifnull 13, 3) := by decide +kernel
theorem dX5_arePassedGradesSound_34 : decode cX5_arePassedGradesSound 34 = .ok (.aload_n 3, 1) := by decide +kernel
theorem dX5_arePassedGradesSound_35 : decode cX5_arePassedGradesSound 35 = .ok (.aload_n 2, 1) := by decide +kernel
theorem dX5_arePassedGradesSound_36 : decode cX5_arePassedGradesSound 36 = .ok (.invokevirtual 381, 3) := by decide +kernel
theorem dX5_arePassedGradesSound_39 : decode cX5_arePassedGradesSound 39 = .ok (.ifCond .ne 5, 3) := by decide +kernel
theorem dX5_arePassedGradesSound_42 : decode cX5_arePassedGradesSound 42 = .ok (.iconst 0, 1) := by decide +kernel
theorem dX5_arePassedGradesSound_43 : decode cX5_arePassedGradesSound 43 = .ok (.ireturn, 1) := by decide +kernel
theorem dX5_arePassedGradesSound_44 : decode cX5_arePassedGradesSound 44 = .ok (.iinc 1 1, 3) := by decide +kernel
theorem dX5_arePassedGradesSound_47 : decode cX5_arePassedGradesSound 47 = .ok (.goto (-45), 3) := by decide +kernel
theorem dX5_arePassedGradesSound_50 : decode cX5_arePassedGradesSound 50 = .ok (.iconst 1, 1) := by decide +kernel
theorem dX5_arePassedGradesSound_51 : decode cX5_arePassedGradesSound 51 = .ok (.ireturn, 1) := by decide +kernel
theorem dX5_areVersionLengthsSound_0 : decode cX5_areVersionLengthsSound 0 = .ok (.iconst 0, 1) := by decide +kernel
theorem dX5_areVersionLengthsSound_1 : decode cX5_areVersionLengthsSound 1 = .ok (.istore_n 1, 1) := by decide +kernel
theorem dX5_areVersionLengthsSound_2 : decode cX5_areVersionLengthsSound 2 = .ok (.iload_n 1, 1) := by decide +kernel
theorem dX5_areVersionLengthsSound_3 : decode cX5_areVersionLengthsSound 3 = .ok (.aload_n 0, 1) := by decide +kernel
theorem dX5_areVersionLengthsSound_4 : decode cX5_areVersionLengthsSound 4 = .ok (.getfield 22, 3) := by decide +kernel
theorem dX5_areVersionLengthsSound_7 : decode cX5_areVersionLengthsSound 7 = .ok (.invokevirtual 39, 3) := by decide +kernel
theorem dX5_areVersionLengthsSound_10 : decode cX5_areVersionLengthsSound 10 = .ok (.if_icmp .ge 34, 3) := by decide +kernel
theorem dX5_areVersionLengthsSound_13 : decode cX5_areVersionLengthsSound 13 = .ok (.aload_n 0, 1) := by decide +kernel
theorem dX5_areVersionLengthsSound_14 : decode cX5_areVersionLengthsSound 14 = .ok (.getfield 22, 3) := by decide +kernel
theorem dX5_areVersionLengthsSound_17 : decode cX5_areVersionLengthsSound 17 = .ok (.iload_n 1, 1) := by decide +kernel
theorem dX5_areVersionLengthsSound_18 : decode cX5_areVersionLengthsSound 18 = .ok (.invokevirtual 146, 3) := by decide +kernel
theorem dX5_areVersionLengthsSound_21 : decode cX5_areVersionLengthsSound 21 = .ok (.checkcast 264, 3) := by decide +kernel
theorem dX5_areVersionLengthsSound_24 : decode cX5_areVersionLengthsSound 24 = .ok (.astore_n 2, 1) := by decide +kernel
theorem dX5_areVersionLengthsSound_25 : decode cX5_areVersionLengthsSound 25 = .ok (.aload_n 2, 1) := by decide +kernel
theorem dX5_areVersionLengthsSound_26 : decode cX5_areVersionLengthsSound 26 = .ok (.invokevirtual 292, 3) := by decide +kernel
theorem dX5_areVersionLengthsSound_29 : decode cX5_areVersionLengthsSound 29 = .ok (.aload_n 2, 1) := by decide +kernel
theorem dX5_areVersionLengthsSound_30 : decode cX5_areVersionLengthsSound 30 = .ok (.invokevirtual 385, 3) := by decide +kernel
theorem dX5_areVersionLengthsSound_33 : decode cX5_areVersionLengthsSound 33 = .ok (.if_icmp .eq 5, 3) := by decide +kernel
theorem dX5_areVersionLengthsSound_36 : decode cX5_areVersionLengthsSound 36 = .ok (.iconst 0, 1) := by decide +kernel
theorem dX5_areVersionLengthsSound_37 : decode cX5_areVersionLengthsSound 37 = .ok (.ireturn, 1) := by decide +kernel
theorem dX5_areVersionLengthsSound_38 : decode cX5_areVersionLengthsSound 38 = .ok (.iinc 1 1, 3) := by decide +kernel
theorem dX5_areVersionLengthsSound_41 : decode cX5_areVersionLengthsSound 41 = .ok (.goto (-39), 3) := by decide +kernel
theorem dX5_areVersionLengthsSound_44 : decode cX5_areVersionLengthsSound 44 = .ok (.iconst 1, 1) := by decide +kernel
theorem dX5_areVersionLengthsSound_45 : decode cX5_areVersionLengthsSound 45 = .ok (.ireturn, 1) := by decide +kernel
theorem dJ13_bitCount_95d88_0 : decode cJ13_bitCount_95d88 0 = .ok (.lload_n 0, 1) := by decide +kernel
theorem dJ13_bitCount_95d88_1 : decode cJ13_bitCount_95d88 1 = .ok (.lload_n 0, 1) := by decide +kernel
theorem dJ13_bitCount_95d88_2 : decode cJ13_bitCount_95d88 2 = .ok (.iconst 1, 1) := by decide +kernel
theorem dJ13_bitCount_95d88_3 : decode cJ13_bitCount_95d88 3 = .ok (.lushr, 1) := by decide +kernel
theorem dJ13_bitCount_95d88_4 : decode cJ13_bitCount_95d88 4 = .ok (.ldc2_w 314, 3) := by decide +kernel
theorem dJ13_bitCount_95d88_7 : decode cJ13_bitCount_95d88 7 = .ok (.land, 1) := by decide +kernel
theorem dJ13_bitCount_95d88_8 : decode cJ13_bitCount_95d88 8 = .ok (.lsub, 1) := by decide +kernel
theorem dJ13_bitCount_95d88_9 : decode cJ13_bitCount_95d88 9 = .ok (.lstore_n 0, 1) := by decide +kernel
theorem dJ13_bitCount_95d88_10 : decode cJ13_bitCount_95d88 10 = .ok (.lload_n 0, 1) := by decide +kernel
theorem dJ13_bitCount_95d88_11 : decode cJ13_bitCount_95d88 11 = .ok (.ldc2_w 316, 3) := by decide +kernel
theorem dJ13_bitCount_95d88_14 : decode cJ13_bitCount_95d88 14 = .ok (.land, 1) := by decide +kernel
theorem dJ13_bitCount_95d88_15 : decode cJ13_bitCount_95d88 15 = .ok (.lload_n 0, 1) := by decide +kernel
theorem dJ13_bitCount_95d88_16 : decode cJ13_bitCount_95d88 16 = .ok (.iconst 2, 1) := by decide +kernel
theorem dJ13_bitCount_95d88_17 : decode cJ13_bitCount_95d88 17 = .ok (.lushr, 1) := by decide +kernel
theorem dJ13_bitCount_95d88_18 : decode cJ13_bitCount_95d88 18 = .ok (.ldc2_w 316, 3) := by decide +kernel
theorem dJ13_bitCount_95d88_21 : decode cJ13_bitCount_95d88 21 = .ok (.land, 1) := by decide +kernel
theorem dJ13_bitCount_95d88_22 : decode cJ13_bitCount_95d88 22 = .ok (.ladd, 1) := by decide +kernel
theorem dJ13_bitCount_95d88_23 : decode cJ13_bitCount_95d88 23 = .ok (.lstore_n 0, 1) := by decide +kernel
theorem dJ13_bitCount_95d88_24 : decode cJ13_bitCount_95d88 24 = .ok (.lload_n 0, 1) := by decide +kernel
theorem dJ13_bitCount_95d88_25 : decode cJ13_bitCount_95d88 25 = .ok (.lload_n 0, 1) := by decide +kernel
theorem dJ13_bitCount_95d88_26 : decode cJ13_bitCount_95d88 26 = .ok (.iconst 4, 1) := by decide +kernel
theorem dJ13_bitCount_95d88_27 : decode cJ13_bitCount_95d88 27 = .ok (.lushr, 1) := by decide +kernel
theorem dJ13_bitCount_95d88_28 : decode cJ13_bitCount_95d88 28 = .ok (.ladd, 1) := by decide +kernel
theorem dJ13_bitCount_95d88_29 : decode cJ13_bitCount_95d88 29 = .ok (.ldc2_w 318, 3) := by decide +kernel
theorem dJ13_bitCount_95d88_32 : decode cJ13_bitCount_95d88 32 = .ok (.land, 1) := by decide +kernel
theorem dJ13_bitCount_95d88_33 : decode cJ13_bitCount_95d88 33 = .ok (.lstore_n 0, 1) := by decide +kernel
theorem dJ13_bitCount_95d88_34 : decode cJ13_bitCount_95d88 34 = .ok (.lload_n 0, 1) := by decide +kernel
theorem dJ13_bitCount_95d88_35 : decode cJ13_bitCount_95d88 35 = .ok (.lload_n 0, 1) := by decide +kernel
theorem dJ13_bitCount_95d88_36 : decode cJ13_bitCount_95d88 36 = .ok (.bipush 8, 2) := by decide +kernel
theorem dJ13_bitCount_95d88_38 : decode cJ13_bitCount_95d88 38 = .ok (.lushr, 1) := by decide +kernel
theorem dJ13_bitCount_95d88_39 : decode cJ13_bitCount_95d88 39 = .ok (.ladd, 1) := by decide +kernel
theorem dJ13_bitCount_95d88_40 : decode cJ13_bitCount_95d88 40 = .ok (.lstore_n 0, 1) := by decide +kernel
theorem dJ13_bitCount_95d88_41 : decode cJ13_bitCount_95d88 41 = .ok (.lload_n 0, 1) := by decide +kernel
theorem dJ13_bitCount_95d88_42 : decode cJ13_bitCount_95d88 42 = .ok (.lload_n 0, 1) := by decide +kernel
theorem dJ13_bitCount_95d88_43 : decode cJ13_bitCount_95d88 43 = .ok (.bipush 16, 2) := by decide +kernel
theorem dJ13_bitCount_95d88_45 : decode cJ13_bitCount_95d88 45 = .ok (.lushr, 1) := by decide +kernel
theorem dJ13_bitCount_95d88_46 : decode cJ13_bitCount_95d88 46 = .ok (.ladd, 1) := by decide +kernel
theorem dJ13_bitCount_95d88_47 : decode cJ13_bitCount_95d88 47 = .ok (.lstore_n 0, 1) := by decide +kernel
theorem dJ13_bitCount_95d88_48 : decode cJ13_bitCount_95d88 48 = .ok (.lload_n 0, 1) := by decide +kernel
theorem dJ13_bitCount_95d88_49 : decode cJ13_bitCount_95d88 49 = .ok (.lload_n 0, 1) := by decide +kernel
theorem dJ13_bitCount_95d88_50 : decode cJ13_bitCount_95d88 50 = .ok (.bipush 32, 2) := by decide +kernel
theorem dJ13_bitCount_95d88_52 : decode cJ13_bitCount_95d88 52 = .ok (.lushr, 1) := by decide +kernel
theorem dJ13_bitCount_95d88_53 : decode cJ13_bitCount_95d88 53 = .ok (.ladd, 1) := by decide +kernel
theorem dJ13_bitCount_95d88_54 : decode cJ13_bitCount_95d88 54 = .ok (.lstore_n 0, 1) := by decide +kernel
theorem dJ13_bitCount_95d88_55 : decode cJ13_bitCount_95d88 55 = .ok (.lload_n 0, 1) := by decide +kernel
theorem dJ13_bitCount_95d88_56 : decode cJ13_bitCount_95d88 56 = .ok (.l2i, 1) := by decide +kernel
theorem dJ13_bitCount_95d88_57 : decode cJ13_bitCount_95d88 57 = .ok (.bipush 127, 2) := by decide +kernel
theorem dJ13_bitCount_95d88_59 : decode cJ13_bitCount_95d88 59 = .ok (.iand, 1) := by decide +kernel
theorem dJ13_bitCount_95d88_60 : decode cJ13_bitCount_95d88 60 = .ok (.ireturn, 1) := by decide +kernel
theorem dJxa1e45_init_da8c8_0 : decode cJxa1e45_init_da8c8 0 = .ok (.aload_n 0, 1) := by decide +kernel
theorem dJxa1e45_init_da8c8_1 : decode cJxa1e45_init_da8c8 1 = .ok (.invokespecial 1, 3) := by decide +kernel
theorem dJxa1e45_init_da8c8_4 : decode cJxa1e45_init_da8c8 4 = .ok (.return_, 1) := by decide +kernel
theorem dJxc12de_init_da8c8_0 : decode cJxc12de_init_da8c8 0 = .ok (.aload_n 0, 1) := by decide +kernel
theorem dJxc12de_init_da8c8_1 : decode cJxc12de_init_da8c8 1 = .ok (.invokespecial 1, 3) := by decide +kernel
theorem dJxc12de_init_da8c8_4 : decode cJxc12de_init_da8c8 4 = .ok (.aload_n 0, 1) := by decide +kernel
theorem dJxc12de_init_da8c8_5 : decode cJxc12de_init_da8c8 5 = .ok (.iconst 0, 1) := by decide +kernel
theorem dJxc12de_init_da8c8_6 : decode cJxc12de_init_da8c8 6 = .ok (.putfield 7, 3) := by decide +kernel
theorem dJxc12de_init_da8c8_9 : decode cJxc12de_init_da8c8 9 = .ok (.return_, 1) := by decide +kernel
theorem dJx4a65c_init_da8c8_0 : decode cJx4a65c_init_da8c8 0 = .ok (.aload_n 0, 1) := by decide +kernel
theorem dJx4a65c_init_da8c8_1 : decode cJx4a65c_init_da8c8 1 = .ok (.invokespecial 1, 3) := by decide +kernel
theorem dJx4a65c_init_da8c8_4 : decode cJx4a65c_init_da8c8 4 = .ok (.aload_n 0, 1) := by decide +kernel
theorem dJx4a65c_init_da8c8_5 : decode cJx4a65c_init_da8c8 5 = .ok (.getstatic 39, 3) := by decide +kernel
theorem dJx4a65c_init_da8c8_8 : decode cJx4a65c_init_da8c8 8 = .ok (.putfield 9, 3) := by decide +kernel
theorem dJx4a65c_init_da8c8_11 : decode cJx4a65c_init_da8c8 11 = .ok (.return_, 1) := by decide +kernel
theorem dJx4a65c_grow_92f84_0 : decode cJx4a65c_grow_92f84 0 = .ok (.aload_n 0, 1) := by decide +kernel
theorem dJx4a65c_grow_92f84_1 : decode cJx4a65c_grow_92f84 1 = .ok (.getfield 9, 3) := by decide +kernel
theorem dJx4a65c_grow_92f84_4 : decode cJx4a65c_grow_92f84 4 = .ok (.arraylength, 1) := by decide +kernel
theorem dJx4a65c_grow_92f84_5 : decode cJx4a65c_grow_92f84 5 = .ok (.istore_n 2, 1) := by decide +kernel
theorem dJx4a65c_grow_92f84_6 : decode cJx4a65c_grow_92f84 6 = .ok (.iload_n 2, 1) := by decide +kernel
theorem dJx4a65c_grow_92f84_7 : decode cJx4a65c_grow_92f84 7 = .ok (.ifCond .gt 13, 3) := by decide +kernel
theorem dJx4a65c_grow_92f84_10 : decode cJx4a65c_grow_92f84 10 = .ok (.aload_n 0, 1) := by decide +kernel
theorem dJx4a65c_grow_92f84_11 : decode cJx4a65c_grow_92f84 11 = .ok (.getfield 9, 3) := by decide +kernel
theorem dJx4a65c_grow_92f84_14 : decode cJx4a65c_grow_92f84 14 = .ok (.getstatic 39, 3) := by decide +kernel
theorem dJx4a65c_grow_92f84_17 : decode cJx4a65c_grow_92f84 17 = .ok (.if_acmp .eq 28, 3) := by decide +kernel
theorem dJx4a65c_grow_92f84_20 : decode cJx4a65c_grow_92f84 20 = .ok (.iload_n 2, 1) := by decide +kernel
theorem dJx4a65c_grow_92f84_21 : decode cJx4a65c_grow_92f84 21 = .ok (.iload_n 1, 1) := by decide +kernel
theorem dJx4a65c_grow_92f84_22 : decode cJx4a65c_grow_92f84 22 = .ok (.iload_n 2, 1) := by decide +kernel
theorem dJx4a65c_grow_92f84_23 : decode cJx4a65c_grow_92f84 23 = .ok (.isub, 1) := by decide +kernel
theorem dJx4a65c_grow_92f84_24 : decode cJx4a65c_grow_92f84 24 = .ok (.iload_n 2, 1) := by decide +kernel
theorem dJx4a65c_grow_92f84_25 : decode cJx4a65c_grow_92f84 25 = .ok (.iconst 1, 1) := by decide +kernel
theorem dJx4a65c_grow_92f84_26 : decode cJx4a65c_grow_92f84 26 = .ok (.ishr, 1) := by decide +kernel
theorem dJx4a65c_grow_92f84_27 : decode cJx4a65c_grow_92f84 27 = .ok (.invokestatic 73, 3) := by decide +kernel
theorem dJx4a65c_grow_92f84_30 : decode cJx4a65c_grow_92f84 30 = .ok (.istore_n 3, 1) := by decide +kernel
theorem dJx4a65c_grow_92f84_31 : decode cJx4a65c_grow_92f84 31 = .ok (.aload_n 0, 1) := by decide +kernel
theorem dJx4a65c_grow_92f84_32 : decode cJx4a65c_grow_92f84 32 = .ok (.aload_n 0, 1) := by decide +kernel
theorem dJx4a65c_grow_92f84_33 : decode cJx4a65c_grow_92f84 33 = .ok (.getfield 9, 3) := by decide +kernel
theorem dJx4a65c_grow_92f84_36 : decode cJx4a65c_grow_92f84 36 = .ok (.iload_n 3, 1) := by decide +kernel
theorem dJx4a65c_grow_92f84_37 : decode cJx4a65c_grow_92f84 37 = .ok (.invokestatic 66, 3) := by decide +kernel
theorem dJx4a65c_grow_92f84_40 : decode cJx4a65c_grow_92f84 40 = .ok (.dup_x1, 1) := by decide +kernel
theorem dJx4a65c_grow_92f84_41 : decode cJx4a65c_grow_92f84 41 = .ok (.putfield 9, 3) := by decide +kernel
theorem dJx4a65c_grow_92f84_44 : decode cJx4a65c_grow_92f84 44 = .ok (.areturn, 1) := by decide +kernel
theorem dJx4a65c_grow_92f84_45 : decode cJx4a65c_grow_92f84 45 = .ok (.aload_n 0, 1) := by decide +kernel
theorem dJx4a65c_grow_92f84_46 : decode cJx4a65c_grow_92f84 46 = .ok (.bipush 10, 2) := by decide +kernel
theorem dJx4a65c_grow_92f84_48 : decode cJx4a65c_grow_92f84 48 = .ok (.iload_n 1, 1) := by decide +kernel
theorem dJx4a65c_grow_92f84_49 : decode cJx4a65c_grow_92f84 49 = .ok (.invokestatic 79, 3) := by decide +kernel
theorem dJx4a65c_grow_92f84_52 : decode cJx4a65c_grow_92f84 52 = .ok (.anewarray 7, 3) := by decide +kernel
theorem dJx4a65c_grow_92f84_55 : decode cJx4a65c_grow_92f84 55 = .ok (.dup_x1, 1) := by decide +kernel
theorem dJx4a65c_grow_92f84_56 : decode cJx4a65c_grow_92f84 56 = .ok (.putfield 9, 3) := by decide +kernel
theorem dJx4a65c_grow_92f84_59 : decode cJx4a65c_grow_92f84 59 = .ok (.areturn, 1) := by decide +kernel
theorem dJx4a65c_grow_d5877_0 : decode cJx4a65c_grow_d5877 0 = .ok (.aload_n 0, 1) := by decide +kernel
theorem dJx4a65c_grow_d5877_1 : decode cJx4a65c_grow_d5877 1 = .ok (.aload_n 0, 1) := by decide +kernel
theorem dJx4a65c_grow_d5877_2 : decode cJx4a65c_grow_d5877 2 = .ok (.getfield 48, 3) := by decide +kernel
theorem dJx4a65c_grow_d5877_5 : decode cJx4a65c_grow_d5877 5 = .ok (.iconst 1, 1) := by decide +kernel
theorem dJx4a65c_grow_d5877_6 : decode cJx4a65c_grow_d5877 6 = .ok (.iadd, 1) := by decide +kernel
theorem dJx4a65c_grow_d5877_7 : decode cJx4a65c_grow_d5877 7 = .ok (.invokevirtual 69, 3) := by decide +kernel
theorem dJx4a65c_grow_d5877_10 : decode cJx4a65c_grow_d5877 10 = .ok (.areturn, 1) := by decide +kernel
theorem dJx4a65c_size_8abf5_0 : decode cJx4a65c_size_8abf5 0 = .ok (.aload_n 0, 1) := by decide +kernel
theorem dJx4a65c_size_8abf5_1 : decode cJx4a65c_size_8abf5 1 = .ok (.getfield 48, 3) := by decide +kernel
theorem dJx4a65c_size_8abf5_4 : decode cJx4a65c_size_8abf5 4 = .ok (.ireturn, 1) := by decide +kernel
theorem dJx4a65c_isEmpty_aae02_0 : decode cJx4a65c_isEmpty_aae02 0 = .ok (.aload_n 0, 1) := by decide +kernel
theorem dJx4a65c_isEmpty_aae02_1 : decode cJx4a65c_isEmpty_aae02 1 = .ok (.getfield 48, 3) := by decide +kernel
theorem dJx4a65c_isEmpty_aae02_4 : decode cJx4a65c_isEmpty_aae02 4 = .ok (.ifCond .ne 7, 3) := by decide +kernel
theorem dJx4a65c_isEmpty_aae02_7 : decode cJx4a65c_isEmpty_aae02 7 = .ok (.iconst 1, 1) := by decide +kernel
theorem dJx4a65c_isEmpty_aae02_8 : decode cJx4a65c_isEmpty_aae02 8 = .ok (.goto 4, 3) := by decide +kernel
theorem dJx4a65c_isEmpty_aae02_11 : decode cJx4a65c_isEmpty_aae02 11 = .ok (.iconst 0, 1) := by decide +kernel
theorem dJx4a65c_isEmpty_aae02_12 : decode cJx4a65c_isEmpty_aae02 12 = .ok (.ireturn, 1) := by decide +kernel
theorem dJx4a65c_elementData_915e3_0 : decode cJx4a65c_elementData_915e3 0 = .ok (.aload_n 0, 1) := by decide +kernel
theorem dJx4a65c_elementData_915e3_1 : decode cJx4a65c_elementData_915e3 1 = .ok (.getfield 9, 3) := by decide +kernel
theorem dJx4a65c_elementData_915e3_4 : decode cJx4a65c_elementData_915e3 4 = .ok (.iload_n 1, 1) := by decide +kernel
theorem dJx4a65c_elementData_915e3_5 : decode cJx4a65c_elementData_915e3 5 = .ok (.aaload, 1) := by decide +kernel
theorem dJx4a65c_elementData_915e3_6 : decode cJx4a65c_elementData_915e3 6 = .ok (.areturn, 1) := by decide +kernel
theorem dJx4a65c_get_915e3_0 : decode cJx4a65c_get_915e3 0 = .ok (.iload_n 1, 1) := by decide +kernel
theorem dJx4a65c_get_915e3_1 : decode cJx4a65c_get_915e3 1 = .ok (.aload_n 0, 1) := by decide +kernel
theorem dJx4a65c_get_915e3_2 : decode cJx4a65c_get_915e3 2 = .ok (.getfield 48, 3) := by decide +kernel
theorem dJx4a65c_get_915e3_5 : decode cJx4a65c_get_915e3 5 = .ok (.invokestatic 118, 3) := by decide +kernel
theorem dJx4a65c_get_915e3_8 : decode cJx4a65c_get_915e3 8 = .ok (.pop, 1) := by decide +kernel
theorem dJx4a65c_get_915e3_9 : decode cJx4a65c_get_915e3 9 = .ok (.aload_n 0, 1) := by decide +kernel
theorem dJx4a65c_get_915e3_10 : decode cJx4a65c_get_915e3 10 = .ok (.iload_n 1, 1) := by decide +kernel
theorem dJx4a65c_get_915e3_11 : decode cJx4a65c_get_915e3 11 = .ok (.invokevirtual 123, 3) := by decide +kernel
theorem dJx4a65c_get_915e3_14 : decode cJx4a65c_get_915e3 14 = .ok (.areturn, 1) := by decide +kernel
theorem dJx4a65c_add_72be8_0 : decode cJx4a65c_add_72be8 0 = .ok (.iload_n 3, 1) := by decide +kernel
theorem dJx4a65c_add_72be8_1 : decode cJx4a65c_add_72be8 1 = .ok (.aload_n 2, 1) := by decide +kernel
theorem dJx4a65c_add_72be8_2 : decode cJx4a65c_add_72be8 2 = .ok (.arraylength, 1) := by decide +kernel
theorem dJx4a65c_add_72be8_3 : decode cJx4a65c_add_72be8 3 = .ok (.if_icmp .ne 8, 3) := by decide +kernel
theorem dJx4a65c_add_72be8_6 : decode cJx4a65c_add_72be8 6 = .ok (.aload_n 0, 1) := by decide +kernel
theorem dJx4a65c_add_72be8_7 : decode cJx4a65c_add_72be8 7 = .ok (.invokevirtual 129, 3) := by decide +kernel
theorem dJx4a65c_add_72be8_10 : decode cJx4a65c_add_72be8 10 = .ok (.astore_n 2, 1) := by decide +kernel
theorem dJx4a65c_add_72be8_11 : decode cJx4a65c_add_72be8 11 = .ok (.aload_n 2, 1) := by decide +kernel
theorem dJx4a65c_add_72be8_12 : decode cJx4a65c_add_72be8 12 = .ok (.iload_n 3, 1) := by decide +kernel
theorem dJx4a65c_add_72be8_13 : decode cJx4a65c_add_72be8 13 = .ok (.aload_n 1, 1) := by decide +kernel
theorem dJx4a65c_add_72be8_14 : decode cJx4a65c_add_72be8 14 = .ok (.aastore, 1) := by decide +kernel
theorem dJx4a65c_add_72be8_15 : decode cJx4a65c_add_72be8 15 = .ok (.aload_n 0, 1) := by decide +kernel
theorem dJx4a65c_add_72be8_16 : decode cJx4a65c_add_72be8 16 = .ok (.iload_n 3, 1) := by decide +kernel
theorem dJx4a65c_add_72be8_17 : decode cJx4a65c_add_72be8 17 = .ok (.iconst 1, 1) := by decide +kernel
theorem dJx4a65c_add_72be8_18 : decode cJx4a65c_add_72be8 18 = .ok (.iadd, 1) := by decide +kernel
theorem dJx4a65c_add_72be8_19 : decode cJx4a65c_add_72be8 19 = .ok (.putfield 48, 3) := by decide +kernel
theorem dJx4a65c_add_72be8_22 : decode cJx4a65c_add_72be8 22 = .ok (.return_, 1) := by decide +kernel
theorem dJx4a65c_add_9ea2d_0 : decode cJx4a65c_add_9ea2d 0 = .ok (.aload_n 0, 1) := by decide +kernel
theorem dJx4a65c_add_9ea2d_1 : decode cJx4a65c_add_9ea2d 1 = .ok (.dup, 1) := by decide +kernel
theorem dJx4a65c_add_9ea2d_2 : decode cJx4a65c_add_9ea2d 2 = .ok (.getfield 63, 3) := by decide +kernel
theorem dJx4a65c_add_9ea2d_5 : decode cJx4a65c_add_9ea2d 5 = .ok (.iconst 1, 1) := by decide +kernel
theorem dJx4a65c_add_9ea2d_6 : decode cJx4a65c_add_9ea2d 6 = .ok (.iadd, 1) := by decide +kernel
theorem dJx4a65c_add_9ea2d_7 : decode cJx4a65c_add_9ea2d 7 = .ok (.putfield 63, 3) := by decide +kernel
theorem dJx4a65c_add_9ea2d_10 : decode cJx4a65c_add_9ea2d 10 = .ok (.aload_n 0, 1) := by decide +kernel
theorem dJx4a65c_add_9ea2d_11 : decode cJx4a65c_add_9ea2d 11 = .ok (.aload_n 1, 1) := by decide +kernel
theorem dJx4a65c_add_9ea2d_12 : decode cJx4a65c_add_9ea2d 12 = .ok (.aload_n 0, 1) := by decide +kernel
theorem dJx4a65c_add_9ea2d_13 : decode cJx4a65c_add_9ea2d 13 = .ok (.getfield 9, 3) := by decide +kernel
theorem dJx4a65c_add_9ea2d_16 : decode cJx4a65c_add_9ea2d 16 = .ok (.aload_n 0, 1) := by decide +kernel
theorem dJx4a65c_add_9ea2d_17 : decode cJx4a65c_add_9ea2d 17 = .ok (.getfield 48, 3) := by decide +kernel
theorem dJx4a65c_add_9ea2d_20 : decode cJx4a65c_add_9ea2d 20 = .ok (.invokevirtual 131, 3) := by decide +kernel
theorem dJx4a65c_add_9ea2d_23 : decode cJx4a65c_add_9ea2d 23 = .ok (.iconst 1, 1) := by decide +kernel
theorem dJx4a65c_add_9ea2d_24 : decode cJx4a65c_add_9ea2d 24 = .ok (.ireturn, 1) := by decide +kernel
theorem dJx4a65c_add_7a177_0 : decode cJx4a65c_add_7a177 0 = .ok (.aload_n 0, 1) := by decide +kernel
theorem dJx4a65c_add_7a177_1 : decode cJx4a65c_add_7a177 1 = .ok (.iload_n 1, 1) := by decide +kernel
theorem dJx4a65c_add_7a177_2 : decode cJx4a65c_add_7a177 2 = .ok (.invokevirtual 135, 3) := by decide +kernel
theorem dJx4a65c_add_7a177_5 : decode cJx4a65c_add_7a177 5 = .ok (.aload_n 0, 1) := by decide +kernel
theorem dJx4a65c_add_7a177_6 : decode cJx4a65c_add_7a177 6 = .ok (.dup, 1) := by decide +kernel
theorem dJx4a65c_add_7a177_7 : decode cJx4a65c_add_7a177 7 = .ok (.getfield 63, 3) := by decide +kernel
theorem dJx4a65c_add_7a177_10 : decode cJx4a65c_add_7a177 10 = .ok (.iconst 1, 1) := by decide +kernel
theorem dJx4a65c_add_7a177_11 : decode cJx4a65c_add_7a177 11 = .ok (.iadd, 1) := by decide +kernel
theorem dJx4a65c_add_7a177_12 : decode cJx4a65c_add_7a177 12 = .ok (.putfield 63, 3) := by decide +kernel
theorem dJx4a65c_add_7a177_15 : decode cJx4a65c_add_7a177 15 = .ok (.aload_n 0, 1) := by decide +kernel
theorem dJx4a65c_add_7a177_16 : decode cJx4a65c_add_7a177 16 = .ok (.getfield 48, 3) := by decide +kernel
theorem dJx4a65c_add_7a177_19 : decode cJx4a65c_add_7a177 19 = .ok (.dup, 1) := by decide +kernel
theorem dJx4a65c_add_7a177_20 : decode cJx4a65c_add_7a177 20 = .ok (.istore_n 3, 1) := by decide +kernel
theorem dJx4a65c_add_7a177_21 : decode cJx4a65c_add_7a177 21 = .ok (.aload_n 0, 1) := by decide +kernel
theorem dJx4a65c_add_7a177_22 : decode cJx4a65c_add_7a177 22 = .ok (.getfield 9, 3) := by decide +kernel
theorem dJx4a65c_add_7a177_25 : decode cJx4a65c_add_7a177 25 = .ok (.dup, 1) := by decide +kernel
theorem dJx4a65c_add_7a177_26 : decode cJx4a65c_add_7a177 26 = .ok (.astore 4, 2) := by decide +kernel
theorem dJx4a65c_add_7a177_28 : decode cJx4a65c_add_7a177 28 = .ok (.arraylength, 1) := by decide +kernel
theorem dJx4a65c_add_7a177_29 : decode cJx4a65c_add_7a177 29 = .ok (.if_icmp .ne 9, 3) := by decide +kernel
theorem dJx4a65c_add_7a177_32 : decode cJx4a65c_add_7a177 32 = .ok (.aload_n 0, 1) := by decide +kernel
theorem dJx4a65c_add_7a177_33 : decode cJx4a65c_add_7a177 33 = .ok (.invokevirtual 129, 3) := by decide +kernel
theorem dJx4a65c_add_7a177_36 : decode cJx4a65c_add_7a177 36 = .ok (.astore 4, 2) := by decide +kernel
theorem dJx4a65c_add_7a177_38 : decode cJx4a65c_add_7a177 38 = .ok (.aload 4, 2) := by decide +kernel
theorem dJx4a65c_add_7a177_40 : decode cJx4a65c_add_7a177 40 = .ok (.iload_n 1, 1) := by decide +kernel
theorem dJx4a65c_add_7a177_41 : decode cJx4a65c_add_7a177 41 = .ok (.aload 4, 2) := by decide +kernel
theorem dJx4a65c_add_7a177_43 : decode cJx4a65c_add_7a177 43 = .ok (.iload_n 1, 1) := by decide +kernel
theorem dJx4a65c_add_7a177_44 : decode cJx4a65c_add_7a177 44 = .ok (.iconst 1, 1) := by decide +kernel
theorem dJx4a65c_add_7a177_45 : decode cJx4a65c_add_7a177 45 = .ok (.iadd, 1) := by decide +kernel
theorem dJx4a65c_add_7a177_46 : decode cJx4a65c_add_7a177 46 = .ok (.iload_n 3, 1) := by decide +kernel
theorem dJx4a65c_add_7a177_47 : decode cJx4a65c_add_7a177 47 = .ok (.iload_n 1, 1) := by decide +kernel
theorem dJx4a65c_add_7a177_48 : decode cJx4a65c_add_7a177 48 = .ok (.isub, 1) := by decide +kernel
theorem dJx4a65c_add_7a177_49 : decode cJx4a65c_add_7a177 49 = .ok (.invokestatic 112, 3) := by decide +kernel
theorem dJx4a65c_add_7a177_52 : decode cJx4a65c_add_7a177 52 = .ok (.aload 4, 2) := by decide +kernel
theorem dJx4a65c_add_7a177_54 : decode cJx4a65c_add_7a177 54 = .ok (.iload_n 1, 1) := by decide +kernel
theorem dJx4a65c_add_7a177_55 : decode cJx4a65c_add_7a177 55 = .ok (.aload_n 2, 1) := by decide +kernel
theorem dJx4a65c_add_7a177_56 : decode cJx4a65c_add_7a177 56 = .ok (.aastore, 1) := by decide +kernel
theorem dJx4a65c_add_7a177_57 : decode cJx4a65c_add_7a177 57 = .ok (.aload_n 0, 1) := by decide +kernel
theorem dJx4a65c_add_7a177_58 : decode cJx4a65c_add_7a177 58 = .ok (.iload_n 3, 1) := by decide +kernel
theorem dJx4a65c_add_7a177_59 : decode cJx4a65c_add_7a177 59 = .ok (.iconst 1, 1) := by decide +kernel
theorem dJx4a65c_add_7a177_60 : decode cJx4a65c_add_7a177 60 = .ok (.iadd, 1) := by decide +kernel
theorem dJx4a65c_add_7a177_61 : decode cJx4a65c_add_7a177 61 = .ok (.putfield 48, 3) := by decide +kernel
theorem dJx4a65c_add_7a177_64 : decode cJx4a65c_add_7a177 64 = .ok (.return_, 1) := by decide +kernel
theorem dJx4a65c_clear_da8c8_0 : decode cJx4a65c_clear_da8c8 0 = .ok (.aload_n 0, 1) := by decide +kernel
theorem dJx4a65c_clear_da8c8_1 : decode cJx4a65c_clear_da8c8 1 = .ok (.dup, 1) := by decide +kernel
theorem dJx4a65c_clear_da8c8_2 : decode cJx4a65c_clear_da8c8 2 = .ok (.getfield 63, 3) := by decide +kernel
theorem dJx4a65c_clear_da8c8_5 : decode cJx4a65c_clear_da8c8 5 = .ok (.iconst 1, 1) := by decide +kernel
theorem dJx4a65c_clear_da8c8_6 : decode cJx4a65c_clear_da8c8 6 = .ok (.iadd, 1) := by decide +kernel
theorem dJx4a65c_clear_da8c8_7 : decode cJx4a65c_clear_da8c8 7 = .ok (.putfield 63, 3) := by decide +kernel
theorem dJx4a65c_clear_da8c8_10 : decode cJx4a65c_clear_da8c8 10 = .ok (.aload_n 0, 1) := by decide +kernel
theorem dJx4a65c_clear_da8c8_11 : decode cJx4a65c_clear_da8c8 11 = .ok (.getfield 9, 3) := by decide +kernel
theorem dJx4a65c_clear_da8c8_14 : decode cJx4a65c_clear_da8c8 14 = .ok (.astore_n 1, 1) := by decide +kernel
theorem dJx4a65c_clear_da8c8_15 : decode cJx4a65c_clear_da8c8 15 = .ok (.aload_n 0, 1) := by decide +kernel
theorem dJx4a65c_clear_da8c8_16 : decode cJx4a65c_clear_da8c8 16 = .ok (.getfield 48, 3) := by decide +kernel
theorem dJx4a65c_clear_da8c8_19 : decode cJx4a65c_clear_da8c8 19 = .ok (.istore_n 2, 1) := by decide +kernel
theorem dJx4a65c_clear_da8c8_20 : decode cJx4a65c_clear_da8c8 20 = .ok (.aload_n 0, 1) := by decide +kernel
theorem dJx4a65c_clear_da8c8_21 : decode cJx4a65c_clear_da8c8 21 = .ok (.iconst 0, 1) := by decide +kernel
theorem dJx4a65c_clear_da8c8_22 : decode cJx4a65c_clear_da8c8 22 = .ok (.dup_x1, 1) := by decide +kernel
theorem dJx4a65c_clear_da8c8_23 : decode cJx4a65c_clear_da8c8 23 = .ok (.putfield 48, 3) := by decide +kernel
theorem dJx4a65c_clear_da8c8_26 : decode cJx4a65c_clear_da8c8 26 = .ok (.istore_n 3, 1) := by decide +kernel
theorem dJx4a65c_clear_da8c8_27 : decode cJx4a65c_clear_da8c8 27 = .ok (.iload_n 3, 1) := by decide +kernel
theorem dJx4a65c_clear_da8c8_28 : decode cJx4a65c_clear_da8c8 28 = .ok (.iload_n 2, 1) := by decide +kernel
theorem dJx4a65c_clear_da8c8_29 : decode cJx4a65c_clear_da8c8 29 = .ok (.if_icmp .ge 13, 3) := by decide +kernel
theorem dJx4a65c_clear_da8c8_32 : decode cJx4a65c_clear_da8c8 32 = .ok (.aload_n 1, 1) := by decide +kernel
theorem dJx4a65c_clear_da8c8_33 : decode cJx4a65c_clear_da8c8 33 = .ok (.iload_n 3, 1) := by decide +kernel
theorem dJx4a65c_clear_da8c8_34 : decode cJx4a65c_clear_da8c8 34 = .ok (.aconst_null, 1) := by decide +kernel
theorem dJx4a65c_clear_da8c8_35 : decode cJx4a65c_clear_da8c8 35 = .ok (.aastore, 1) := by decide +kernel
theorem dJx4a65c_clear_da8c8_36 : decode cJx4a65c_clear_da8c8 36 = .ok (.iinc 3 1, 3) := by decide +kernel
theorem dJx4a65c_clear_da8c8_39 : decode cJx4a65c_clear_da8c8 39 = .ok (.goto (-12), 3) := by decide +kernel
theorem dJx4a65c_clear_da8c8_42 : decode cJx4a65c_clear_da8c8 42 = .ok (.return_, 1) := by decide +kernel
theorem dJx4a65c_rangeCheckForAdd_d00df_0 : decode cJx4a65c_rangeCheckForAdd_d00df 0 = .ok (.iload_n 1, 1) := by decide +kernel
theorem dJx4a65c_rangeCheckForAdd_d00df_1 : decode cJx4a65c_rangeCheckForAdd_d00df 1 = .ok (.aload_n 0, 1) := by decide +kernel
theorem dJx4a65c_rangeCheckForAdd_d00df_2 : decode cJx4a65c_rangeCheckForAdd_d00df 2 = .ok (.getfield 48, 3) := by decide +kernel
theorem dJx4a65c_rangeCheckForAdd_d00df_5 : decode cJx4a65c_rangeCheckForAdd_d00df 5 = .ok (.if_icmp .gt 7, 3) := by decide +kernel
theorem dJx4a65c_rangeCheckForAdd_d00df_8 : decode cJx4a65c_rangeCheckForAdd_d00df 8 = .ok (.iload_n 1, 1) := by decide +kernel
theorem dJx4a65c_rangeCheckForAdd_d00df_9 : decode cJx4a65c_rangeCheckForAdd_d00df 9 = .ok (.ifCond .ge 16, 3) := by decide +kernel
theorem dJx4a65c_rangeCheckForAdd_d00df_12 : decode cJx4a65c_rangeCheckForAdd_d00df 12 = .ok (.new 187, 3) := by decide +kernel
theorem dJx4a65c_rangeCheckForAdd_d00df_15 : decode cJx4a65c_rangeCheckForAdd_d00df 15 = .ok (.dup, 1) := by decide +kernel
theorem dJx4a65c_rangeCheckForAdd_d00df_16 : decode cJx4a65c_rangeCheckForAdd_d00df 16 = .ok (.aload_n 0, 1) := by decide +kernel
theorem dJx4a65c_rangeCheckForAdd_d00df_17 : decode cJx4a65c_rangeCheckForAdd_d00df 17 = .ok (.iload_n 1, 1) := by decide +kernel
theorem dJx4a65c_rangeCheckForAdd_d00df_18 : decode cJx4a65c_rangeCheckForAdd_d00df 18 = .ok (.invokevirtual 198, 3) := by decide +kernel
theorem dJx4a65c_rangeCheckForAdd_d00df_21 : decode cJx4a65c_rangeCheckForAdd_d00df 21 = .ok (.invokespecial 193, 3) := by decide +kernel
theorem dJx4a65c_rangeCheckForAdd_d00df_24 : decode cJx4a65c_rangeCheckForAdd_d00df 24 = .ok (.athrow, 1) := by decide +kernel
theorem dJx4a65c_rangeCheckForAdd_d00df_25 : decode cJx4a65c_rangeCheckForAdd_d00df 25 = .ok (.return_, 1) := by decide +kernel
theorem dJx4a65c_outOfBoundsMsg_b52d3_0 : decode cJx4a65c_outOfBoundsMsg_b52d3 0 = .ok (.new 20, 3) := by decide +kernel
theorem dJx4a65c_outOfBoundsMsg_b52d3_3 : decode cJx4a65c_outOfBoundsMsg_b52d3 3 = .ok (.dup, 1) := by decide +kernel
theorem dJx4a65c_outOfBoundsMsg_b52d3_4 : decode cJx4a65c_outOfBoundsMsg_b52d3 4 = .ok (.invokespecial 22, 3) := by decide +kernel
theorem dJx4a65c_outOfBoundsMsg_b52d3_7 : decode cJx4a65c_outOfBoundsMsg_b52d3 7 = .ok (.ldc 201, 2) := by decide +kernel
theorem dJx4a65c_outOfBoundsMsg_b52d3_9 : decode cJx4a65c_outOfBoundsMsg_b52d3 9 = .ok (.invokevirtual 25, 3) := by decide +kernel
theorem dJx4a65c_outOfBoundsMsg_b52d3_12 : decode cJx4a65c_outOfBoundsMsg_b52d3 12 = .ok (.iload_n 1, 1) := by decide +kernel
theorem dJx4a65c_outOfBoundsMsg_b52d3_13 : decode cJx4a65c_outOfBoundsMsg_b52d3 13 = .ok (.invokevirtual 29, 3) := by decide +kernel
theorem dJx4a65c_outOfBoundsMsg_b52d3_16 : decode cJx4a65c_outOfBoundsMsg_b52d3 16 = .ok (.ldc 203, 2) := by decide +kernel
theorem dJx4a65c_outOfBoundsMsg_b52d3_18 : decode cJx4a65c_outOfBoundsMsg_b52d3 18 = .ok (.invokevirtual 25, 3) := by decide +kernel
theorem dJx4a65c_outOfBoundsMsg_b52d3_21 : decode cJx4a65c_outOfBoundsMsg_b52d3 21 = .ok (.aload_n 0, 1) := by decide +kernel
theorem dJx4a65c_outOfBoundsMsg_b52d3_22 : decode cJx4a65c_outOfBoundsMsg_b52d3 22 = .ok (.getfield 48, 3) := by decide +kernel
theorem dJx4a65c_outOfBoundsMsg_b52d3_25 : decode cJx4a65c_outOfBoundsMsg_b52d3 25 = .ok (.invokevirtual 29, 3) := by decide +kernel
theorem dJx4a65c_outOfBoundsMsg_b52d3_28 : decode cJx4a65c_outOfBoundsMsg_b52d3 28 = .ok (.invokevirtual 32, 3) := by decide +kernel
theorem dJx4a65c_outOfBoundsMsg_b52d3_31 : decode cJx4a65c_outOfBoundsMsg_b52d3 31 = .ok (.areturn, 1) := by decide +kernel
theorem dJ7_copyOf_1904c_0 : decode cJ7_copyOf_1904c 0 = .ok (.aload_n 0, 1) := by decide +kernel
theorem dJ7_copyOf_1904c_1 : decode cJ7_copyOf_1904c 1 = .ok (.iload_n 1, 1) := by decide +kernel
theorem dJ7_copyOf_1904c_2 : decode cJ7_copyOf_1904c 2 = .ok (.aload_n 0, 1) := by decide +kernel
theorem dJ7_copyOf_1904c_3 : decode cJ7_copyOf_1904c 3 = .ok (.invokevirtual 86, 3) := by decide +kernel
theorem dJ7_copyOf_1904c_6 : decode cJ7_copyOf_1904c 6 = .ok (.invokestatic 300, 3) := by decide +kernel
theorem dJ7_copyOf_1904c_9 : decode cJ7_copyOf_1904c 9 = .ok (.areturn, 1) := by decide +kernel
theorem dJ7_copyOf_6403c_0 : decode cJ7_copyOf_6403c 0 = .ok (.aload_n 2, 1) := by decide +kernel
theorem dJ7_copyOf_6403c_1 : decode cJ7_copyOf_6403c 1 = .ok (.ldc 110, 2) := by decide +kernel
theorem dJ7_copyOf_6403c_3 : decode cJ7_copyOf_6403c 3 = .ok (.if_acmp .ne 10, 3) := by decide +kernel
theorem dJ7_copyOf_6403c_6 : decode cJ7_copyOf_6403c 6 = .ok (.iload_n 1, 1) := by decide +kernel
theorem dJ7_copyOf_6403c_7 : decode cJ7_copyOf_6403c 7 = .ok (.anewarray 2, 3) := by decide +kernel
theorem dJ7_copyOf_6403c_10 : decode cJ7_copyOf_6403c 10 = .ok (.goto 14, 3) := by decide +kernel
theorem dJ7_copyOf_6403c_13 : decode cJ7_copyOf_6403c 13 = .ok (.aload_n 2, 1) := by decide +kernel
theorem dJ7_copyOf_6403c_14 : decode cJ7_copyOf_6403c 14 = .ok (.invokevirtual 90, 3) := by decide +kernel
theorem dJ7_copyOf_6403c_17 : decode cJ7_copyOf_6403c 17 = .ok (.iload_n 1, 1) := by decide +kernel
theorem dJ7_copyOf_6403c_18 : decode cJ7_copyOf_6403c 18 = .ok (.invokestatic 95, 3) := by decide +kernel
theorem dJ7_copyOf_6403c_21 : decode cJ7_copyOf_6403c 21 = .ok (.checkcast 110, 3) := by decide +kernel
theorem dJ7_copyOf_6403c_24 : decode cJ7_copyOf_6403c 24 = .ok (.astore_n 3, 1) := by decide +kernel
theorem dJ7_copyOf_6403c_25 : decode cJ7_copyOf_6403c 25 = .ok (.aload_n 0, 1) := by decide +kernel
theorem dJ7_copyOf_6403c_26 : decode cJ7_copyOf_6403c 26 = .ok (.iconst 0, 1) := by decide +kernel
theorem dJ7_copyOf_6403c_27 : decode cJ7_copyOf_6403c 27 = .ok (.aload_n 3, 1) := by decide +kernel
theorem dJ7_copyOf_6403c_28 : decode cJ7_copyOf_6403c 28 = .ok (.iconst 0, 1) := by decide +kernel
theorem dJ7_copyOf_6403c_29 : decode cJ7_copyOf_6403c 29 = .ok (.aload_n 0, 1) := by decide +kernel
theorem dJ7_copyOf_6403c_30 : decode cJ7_copyOf_6403c 30 = .ok (.arraylength, 1) := by decide +kernel
theorem dJ7_copyOf_6403c_31 : decode cJ7_copyOf_6403c 31 = .ok (.iload_n 1, 1) := by decide +kernel
theorem dJ7_copyOf_6403c_32 : decode cJ7_copyOf_6403c 32 = .ok (.invokestatic 304, 3) := by decide +kernel
theorem dJ7_copyOf_6403c_35 : decode cJ7_copyOf_6403c 35 = .ok (.invokestatic 150, 3) := by decide +kernel
theorem dJ7_copyOf_6403c_38 : decode cJ7_copyOf_6403c 38 = .ok (.aload_n 3, 1) := by decide +kernel
theorem dJ7_copyOf_6403c_39 : decode cJ7_copyOf_6403c 39 = .ok (.areturn, 1) := by decide +kernel
theorem dJ7_copyOf_9075b_0 : decode cJ7_copyOf_9075b 0 = .ok (.iload_n 1, 1) := by decide +kernel
theorem dJ7_copyOf_9075b_1 : decode cJ7_copyOf_9075b 1 = .ok (.aload_n 0, 1) := by decide +kernel
theorem dJ7_copyOf_9075b_2 : decode cJ7_copyOf_9075b 2 = .ok (.arraylength, 1) := by decide +kernel
theorem dJ7_copyOf_9075b_3 : decode cJ7_copyOf_9075b 3 = .ok (.if_icmp .ne 11, 3) := by decide +kernel
theorem dJ7_copyOf_9075b_6 : decode cJ7_copyOf_9075b 6 = .ok (.aload_n 0, 1) := by decide +kernel
theorem dJ7_copyOf_9075b_7 : decode cJ7_copyOf_9075b 7 = .ok (.invokevirtual 310, 3) := by decide +kernel
theorem dJ7_copyOf_9075b_10 : decode cJ7_copyOf_9075b 10 = .ok (.checkcast 311, 3) := by decide +kernel
theorem dJ7_copyOf_9075b_13 : decode cJ7_copyOf_9075b 13 = .ok (.areturn, 1) := by decide +kernel
theorem dJ7_copyOf_9075b_14 : decode cJ7_copyOf_9075b 14 = .ok (.iload_n 1, 1) := by decide +kernel
theorem dJ7_copyOf_9075b_15 : decode cJ7_copyOf_9075b 15 = .ok (.newarray .byte, 2) := by decide +kernel
theorem dJ7_copyOf_9075b_17 : decode cJ7_copyOf_9075b 17 = .ok (.astore_n 2, 1) := by decide +kernel
theorem dJ7_copyOf_9075b_18 : decode cJ7_copyOf_9075b 18 = .ok (.aload_n 0, 1) := by decide +kernel
theorem dJ7_copyOf_9075b_19 : decode cJ7_copyOf_9075b 19 = .ok (.iconst 0, 1) := by decide +kernel
theorem dJ7_copyOf_9075b_20 : decode cJ7_copyOf_9075b 20 = .ok (.aload_n 2, 1) := by decide +kernel
theorem dJ7_copyOf_9075b_21 : decode cJ7_copyOf_9075b 21 = .ok (.iconst 0, 1) := by decide +kernel
theorem dJ7_copyOf_9075b_22 : decode cJ7_copyOf_9075b 22 = .ok (.aload_n 0, 1) := by decide +kernel
theorem dJ7_copyOf_9075b_23 : decode cJ7_copyOf_9075b 23 = .ok (.arraylength, 1) := by decide +kernel
theorem dJ7_copyOf_9075b_24 : decode cJ7_copyOf_9075b 24 = .ok (.iload_n 1, 1) := by decide +kernel
theorem dJ7_copyOf_9075b_25 : decode cJ7_copyOf_9075b 25 = .ok (.invokestatic 304, 3) := by decide +kernel
theorem dJ7_copyOf_9075b_28 : decode cJ7_copyOf_9075b 28 = .ok (.invokestatic 150, 3) := by decide +kernel
theorem dJ7_copyOf_9075b_31 : decode cJ7_copyOf_9075b 31 = .ok (.aload_n 2, 1) := by decide +kernel
theorem dJ7_copyOf_9075b_32 : decode cJ7_copyOf_9075b 32 = .ok (.areturn, 1) := by decide +kernel
theorem dJ7_copyOfRange_39247_0 : decode cJ7_copyOfRange_39247 0 = .ok (.iload_n 1, 1) := by decide +kernel
theorem dJ7_copyOfRange_39247_1 : decode cJ7_copyOfRange_39247 1 = .ok (.ifCond .ne 9, 3) := by decide +kernel
theorem dJ7_copyOfRange_39247_4 : decode cJ7_copyOfRange_39247 4 = .ok (.iload_n 2, 1) := by decide +kernel
theorem dJ7_copyOfRange_39247_5 : decode cJ7_copyOfRange_39247 5 = .ok (.aload_n 0, 1) := by decide +kernel
theorem dJ7_copyOfRange_39247_6 : decode cJ7_copyOfRange_39247 6 = .ok (.arraylength, 1) := by decide +kernel
theorem dJ7_copyOfRange_39247_7 : decode cJ7_copyOfRange_39247 7 = .ok (.if_icmp .eq 10, 3) := by decide +kernel
theorem dJ7_copyOfRange_39247_10 : decode cJ7_copyOfRange_39247 10 = .ok (.aload_n 0, 1) := by decide +kernel
theorem dJ7_copyOfRange_39247_11 : decode cJ7_copyOfRange_39247 11 = .ok (.iload_n 1, 1) := by decide +kernel
theorem dJ7_copyOfRange_39247_12 : decode cJ7_copyOfRange_39247 12 = .ok (.iload_n 2, 1) := by decide +kernel
theorem dJ7_copyOfRange_39247_13 : decode cJ7_copyOfRange_39247 13 = .ok (.invokestatic 339, 3) := by decide +kernel
theorem dJ7_copyOfRange_39247_16 : decode cJ7_copyOfRange_39247 16 = .ok (.areturn, 1) := by decide +kernel
theorem dJ7_copyOfRange_39247_17 : decode cJ7_copyOfRange_39247 17 = .ok (.aload_n 0, 1) := by decide +kernel
theorem dJ7_copyOfRange_39247_18 : decode cJ7_copyOfRange_39247 18 = .ok (.invokevirtual 310, 3) := by decide +kernel
theorem dJ7_copyOfRange_39247_21 : decode cJ7_copyOfRange_39247 21 = .ok (.checkcast 311, 3) := by decide +kernel
theorem dJ7_copyOfRange_39247_24 : decode cJ7_copyOfRange_39247 24 = .ok (.areturn, 1) := by decide +kernel
theorem dJ7_copyOfRangeByte_39247_0 : decode cJ7_copyOfRangeByte_39247 0 = .ok (.iload_n 1, 1) := by decide +kernel
theorem dJ7_copyOfRangeByte_39247_1 : decode cJ7_copyOfRangeByte_39247 1 = .ok (.iload_n 2, 1) := by decide +kernel
theorem dJ7_copyOfRangeByte_39247_2 : decode cJ7_copyOfRangeByte_39247 2 = .ok (.invokestatic 343, 3) := by decide +kernel
theorem dJ7_copyOfRangeByte_39247_5 : decode cJ7_copyOfRangeByte_39247 5 = .ok (.iload_n 2, 1) := by decide +kernel
theorem dJ7_copyOfRangeByte_39247_6 : decode cJ7_copyOfRangeByte_39247 6 = .ok (.iload_n 1, 1) := by decide +kernel
theorem dJ7_copyOfRangeByte_39247_7 : decode cJ7_copyOfRangeByte_39247 7 = .ok (.isub, 1) := by decide +kernel
theorem dJ7_copyOfRangeByte_39247_8 : decode cJ7_copyOfRangeByte_39247 8 = .ok (.istore_n 3, 1) := by decide +kernel
theorem dJ7_copyOfRangeByte_39247_9 : decode cJ7_copyOfRangeByte_39247 9 = .ok (.iload_n 3, 1) := by decide +kernel
theorem dJ7_copyOfRangeByte_39247_10 : decode cJ7_copyOfRangeByte_39247 10 = .ok (.newarray .byte, 2) := by decide +kernel
theorem dJ7_copyOfRangeByte_39247_12 : decode cJ7_copyOfRangeByte_39247 12 = .ok (.astore 4, 2) := by decide +kernel
theorem dJ7_copyOfRangeByte_39247_14 : decode cJ7_copyOfRangeByte_39247 14 = .ok (.aload_n 0, 1) := by decide +kernel
theorem dJ7_copyOfRangeByte_39247_15 : decode cJ7_copyOfRangeByte_39247 15 = .ok (.iload_n 1, 1) := by decide +kernel
theorem dJ7_copyOfRangeByte_39247_16 : decode cJ7_copyOfRangeByte_39247 16 = .ok (.aload 4, 2) := by decide +kernel
theorem dJ7_copyOfRangeByte_39247_18 : decode cJ7_copyOfRangeByte_39247 18 = .ok (.iconst 0, 1) := by decide +kernel
theorem dJ7_copyOfRangeByte_39247_19 : decode cJ7_copyOfRangeByte_39247 19 = .ok (.aload_n 0, 1) := by decide +kernel
theorem dJ7_copyOfRangeByte_39247_20 : decode cJ7_copyOfRangeByte_39247 20 = .ok (.arraylength, 1) := by decide +kernel
theorem dJ7_copyOfRangeByte_39247_21 : decode cJ7_copyOfRangeByte_39247 21 = .ok (.iload_n 1, 1) := by decide +kernel
theorem dJ7_copyOfRangeByte_39247_22 : decode cJ7_copyOfRangeByte_39247 22 = .ok (.isub, 1) := by decide +kernel
theorem dJ7_copyOfRangeByte_39247_23 : decode cJ7_copyOfRangeByte_39247 23 = .ok (.iload_n 3, 1) := by decide +kernel
theorem dJ7_copyOfRangeByte_39247_24 : decode cJ7_copyOfRangeByte_39247 24 = .ok (.invokestatic 304, 3) := by decide +kernel
theorem dJ7_copyOfRangeByte_39247_27 : decode cJ7_copyOfRangeByte_39247 27 = .ok (.invokestatic 150, 3) := by decide +kernel
theorem dJ7_copyOfRangeByte_39247_30 : decode cJ7_copyOfRangeByte_39247 30 = .ok (.aload 4, 2) := by decide +kernel
theorem dJ7_copyOfRangeByte_39247_32 : decode cJ7_copyOfRangeByte_39247 32 = .ok (.areturn, 1) := by decide +kernel
theorem dJ15_checkIndex_7cf53_0 : decode cJ15_checkIndex_7cf53 0 = .ok (.iload_n 0, 1) := by decide +kernel
theorem dJ15_checkIndex_7cf53_1 : decode cJ15_checkIndex_7cf53 1 = .ok (.iload_n 1, 1) := by decide +kernel
theorem dJ15_checkIndex_7cf53_2 : decode cJ15_checkIndex_7cf53 2 = .ok (.aconst_null, 1) := by decide +kernel
theorem dJ15_checkIndex_7cf53_3 : decode cJ15_checkIndex_7cf53 3 = .ok (.invokestatic 105, 3) := by decide +kernel
theorem dJ15_checkIndex_7cf53_6 : decode cJ15_checkIndex_7cf53 6 = .ok (.ireturn, 1) := by decide +kernel
theorem dJ8_newLength_cabcc_0 : decode cJ8_newLength_cabcc 0 = .ok (.iload_n 0, 1) := by decide +kernel
theorem dJ8_newLength_cabcc_1 : decode cJ8_newLength_cabcc 1 = .ok (.iload_n 1, 1) := by decide +kernel
theorem dJ8_newLength_cabcc_2 : decode cJ8_newLength_cabcc 2 = .ok (.iload_n 2, 1) := by decide +kernel
theorem dJ8_newLength_cabcc_3 : decode cJ8_newLength_cabcc 3 = .ok (.invokestatic 194, 3) := by decide +kernel
theorem dJ8_newLength_cabcc_6 : decode cJ8_newLength_cabcc 6 = .ok (.iadd, 1) := by decide +kernel
theorem dJ8_newLength_cabcc_7 : decode cJ8_newLength_cabcc 7 = .ok (.istore_n 3, 1) := by decide +kernel
theorem dJ8_newLength_cabcc_8 : decode cJ8_newLength_cabcc 8 = .ok (.iconst 0, 1) := by decide +kernel
theorem dJ8_newLength_cabcc_9 : decode cJ8_newLength_cabcc 9 = .ok (.iload_n 3, 1) := by decide +kernel
theorem dJ8_newLength_cabcc_10 : decode cJ8_newLength_cabcc 10 = .ok (.if_icmp .ge 11, 3) := by decide +kernel
theorem dJ8_newLength_cabcc_13 : decode cJ8_newLength_cabcc 13 = .ok (.iload_n 3, 1) := by decide +kernel
theorem dJ8_newLength_cabcc_14 : decode cJ8_newLength_cabcc 14 = .ok (.ldc 200, 2) := by decide +kernel
theorem dJ8_newLength_cabcc_16 : decode cJ8_newLength_cabcc 16 = .ok (.if_icmp .gt 5, 3) := by decide +kernel
theorem dJ8_newLength_cabcc_19 : decode cJ8_newLength_cabcc 19 = .ok (.iload_n 3, 1) := by decide +kernel
theorem dJ8_newLength_cabcc_20 : decode cJ8_newLength_cabcc 20 = .ok (.ireturn, 1) := by decide +kernel
theorem dJ8_newLength_cabcc_21 : decode cJ8_newLength_cabcc 21 = .ok (.iload_n 0, 1) := by decide +kernel
theorem dJ8_newLength_cabcc_22 : decode cJ8_newLength_cabcc 22 = .ok (.iload_n 1, 1) := by decide +kernel
theorem dJ8_newLength_cabcc_23 : decode cJ8_newLength_cabcc 23 = .ok (.invokestatic 201, 3) := by decide +kernel
theorem dJ8_newLength_cabcc_26 : decode cJ8_newLength_cabcc 26 = .ok (.ireturn, 1) := by decide +kernel
theorem dJ3_checkIndex_8e157_0 : decode cJ3_checkIndex_8e157 0 = .ok (.iload_n 0, 1) := by decide +kernel
theorem dJ3_checkIndex_8e157_1 : decode cJ3_checkIndex_8e157 1 = .ok (.ifCond .lt 8, 3) := by decide +kernel
theorem dJ3_checkIndex_8e157_4 : decode cJ3_checkIndex_8e157 4 = .ok (.iload_n 0, 1) := by decide +kernel
theorem dJ3_checkIndex_8e157_5 : decode cJ3_checkIndex_8e157 5 = .ok (.iload_n 1, 1) := by decide +kernel
theorem dJ3_checkIndex_8e157_6 : decode cJ3_checkIndex_8e157 6 = .ok (.if_icmp .lt 10, 3) := by decide +kernel
theorem dJ3_checkIndex_8e157_9 : decode cJ3_checkIndex_8e157 9 = .ok (.aload_n 2, 1) := by decide +kernel
theorem dJ3_checkIndex_8e157_10 : decode cJ3_checkIndex_8e157 10 = .ok (.iload_n 0, 1) := by decide +kernel
theorem dJ3_checkIndex_8e157_11 : decode cJ3_checkIndex_8e157 11 = .ok (.iload_n 1, 1) := by decide +kernel
theorem dJ3_checkIndex_8e157_12 : decode cJ3_checkIndex_8e157 12 = .ok (.invokestatic 95, 3) := by decide +kernel
theorem dJ3_checkIndex_8e157_15 : decode cJ3_checkIndex_8e157 15 = .ok (.athrow, 1) := by decide +kernel
theorem dJ3_checkIndex_8e157_16 : decode cJ3_checkIndex_8e157 16 = .ok (.iload_n 0, 1) := by decide +kernel
theorem dJ3_checkIndex_8e157_17 : decode cJ3_checkIndex_8e157 17 = .ok (.ireturn, 1) := by decide +kernel
end
section
/-! CORE 1: the memory of the run as one value, what it says of the heap, the walk over it. -/
/-- the tables' words that hold in every state of a run -/
def WALL : List Cond := lw_tbl.filter goodWord
theorem WALL_of {w : Cond} (h : w ∈ lw_tbl) (g : goodWord w = true) : w ∈ WALL := List.mem_filter.mpr ⟨h, g⟩
theorem WALL_at {w : Cond} (i : Nat) (h : lw_tbl[i]? = some w) (g : goodWord w = true) : w ∈ WALL := WALL_of (List.mem_of_getElem? h) g
theorem WALL_good {w : Cond} (h : w ∈ WALL) : (w.onTables && w.keeps) = true ∨ ∃ ty, w = .arrayClass ty := good_of_word (List.mem_filter.mp h).2
theorem WALL_warm {args a' : Array Value} {s U : State} (hW : s.WarmedH U.vm) {w : Cond} (hw : w ∈ WALL) (h : w.before args s = true) : w.before a' U = true := word_at hW (WALL_good hw) h
/-- the memory: the kind of each cell (0: not ours), an array's length, the fields by their numbers (64 * kind + place), the elements by kind -/
abbrev wS : Type := (Nat → Nat) × (Nat → Nat) × (Nat → Nat → Value) × (Nat → Nat → Nat → Value)
def sK (S : wS) : Nat → Nat := S.1
def sN (S : wS) : Nat → Nat := S.2.1
def sG (S : wS) : Nat → Nat → Value := S.2.2.1
def sE (S : wS) : Nat → Nat → Nat → Value := S.2.2.2
def sPut (S : wS) (f a : Nat) (v : Value) : wS := (S.1, S.2.1, fun g b => if g = f ∧ b = a then v else S.2.2.1 g b, S.2.2.2)
def sPutE (S : wS) (k a j : Nat) (v : Value) : wS := (S.1, S.2.1, S.2.2.1, fun g b i => if g = k ∧ b = a ∧ i = j then v else S.2.2.2 g b i)
/-- all elements of one array anew -/
def sPutR (S : wS) (k a : Nat) (f : Nat → Value) : wS := (S.1, S.2.1, S.2.2.1, fun g b i => if g = k ∧ b = a then f i else S.2.2.2 g b i)
/-- a new object -/
def sNew (S : wS) (k a : Nat) (f : Nat → Value) : wS := (fun b => if b = a then k else S.1 b, S.2.1, fun g b => if b = a ∧ 64 * k ≤ g ∧ g < 64 * k + 64 then f (g - 64 * k) else S.2.2.1 g b, S.2.2.2)
/-- a new array -/
def sNewA (S : wS) (k a n : Nat) (f : Nat → Value) : wS := (fun b => if b = a then k else S.1 b, fun b => if b = a then n else S.2.1 b, S.2.2.1, fun g b i => if g = k ∧ b = a then f i else S.2.2.2 g b i)
/-- class ids by kind, slots by kind and place, the address of ArrayList's empty row, the Class object of Object[] -/
abbrev wD : Type := (Nat → ClassId) × (Nat → Nat → Nat) × Nat × Nat
def kC : Nat → String × u_T × Nat
  | 1 => (RX0, TX0, 2)
  | 2 => (RX1, TX1, 5)
  | 3 => (RX2, TX2, 3)
  | 4 => (RX3, TX3, 10)
  | 5 => (RX4, TX4, 3)
  | 6 => (RX5, TX5, 8)
  | 7 => (RX6, TX6, 31)
  | _ => (RJx4a65c, TJx4a65c, 3)
def kT : Nat → Nat → FieldType
  | 1 => tyX0
  | 2 => tyX1
  | 3 => tyX2
  | 4 => tyX3
  | 5 => tyX4
  | 6 => tyX5
  | 7 => tyX6
  | _ => tyJx4a65c
def kA : Nat → FieldType
  | 9 => .int
  | 10 => .long
  | 11 => .boolean
  | 12 => .object "java/lang/Object"
  | _ => .double
theorem kC_ty (k : Nat) (h1 : 1 ≤ k) (h2 : k ≤ 8) : ∀ j, j < (kC k).2.2 → parseFieldDescriptor ((kC k).2.1 j).2.2.1 = some (kT k j) := by
  rcases (show k = 1 ∨ k = 2 ∨ k = 3 ∨ k = 4 ∨ k = 5 ∨ k = 6 ∨ k = 7 ∨ k = 8 by omega) with rfl | rfl | rfl | rfl | rfl | rfl | rfl | rfl
  · exact tyX0_ok
  · exact tyX1_ok
  · exact tyX2_ok
  · exact tyX3_ok
  · exact tyX4_ok
  · exact tyX5_ok
  · exact tyX6_ok
  · exact tyJx4a65c_ok
theorem kC_nm (k : Nat) (h1 : 1 ≤ k) (h2 : k ≤ 8) : ∀ a, a < (kC k).2.2 → ∀ b, b < (kC k).2.2 → a ≠ b → ((kC k).2.1 a).2.1 ≠ ((kC k).2.1 b).2.1 := by
  rcases (show k = 1 ∨ k = 2 ∨ k = 3 ∨ k = 4 ∨ k = 5 ∨ k = 6 ∨ k = 7 ∨ k = 8 by omega) with rfl | rfl | rfl | rfl | rfl | rfl | rfl | rfl
  · exact nmX0
  · exact nmX1
  · exact nmX2
  · exact nmX3
  · exact nmX4
  · exact nmX5
  · exact nmX6
  · exact nmJx4a65c
theorem kC_64 (k : Nat) (h1 : 1 ≤ k) (h2 : k ≤ 8) : (kC k).2.2 ≤ 64 := by
  rcases (show k = 1 ∨ k = 2 ∨ k = 3 ∨ k = 4 ∨ k = 5 ∨ k = 6 ∨ k = 7 ∨ k = 8 by omega) with rfl | rfl | rfl | rfl | rfl | rfl | rfl | rfl <;> decide
def wIn (k : Nat) : Bool := (u_ws (kC k).1 (kC k).2.1 (kC k).2.2).all (fun w => decide (w ∈ lw_tbl) && goodWord w)
theorem wIn_all : wIn 1 = true ∧ wIn 2 = true ∧ wIn 3 = true ∧ wIn 4 = true ∧ wIn 5 = true ∧ wIn 6 = true ∧ wIn 7 = true ∧ wIn 8 = true := by
  refine ⟨?_, ?_, ?_, ?_, ?_, ?_, ?_, ?_⟩ <;> decide +kernel
theorem kC_in (k : Nat) (h1 : 1 ≤ k) (h2 : k ≤ 8) : ∀ w ∈ u_ws (kC k).1 (kC k).2.1 (kC k).2.2, w ∈ WALL := by
  have h : wIn k = true := by
    rcases (show k = 1 ∨ k = 2 ∨ k = 3 ∨ k = 4 ∨ k = 5 ∨ k = 6 ∨ k = 7 ∨ k = 8 by omega) with rfl | rfl | rfl | rfl | rfl | rfl | rfl | rfl
    · exact wIn_all.1
    · exact wIn_all.2.1
    · exact wIn_all.2.2.1
    · exact wIn_all.2.2.2.1
    · exact wIn_all.2.2.2.2.1
    · exact wIn_all.2.2.2.2.2.1
    · exact wIn_all.2.2.2.2.2.2.1
    · exact wIn_all.2.2.2.2.2.2.2
  intro w hw
  have h3 := List.all_eq_true.mp h w hw
  simp only [Bool.and_eq_true, decide_eq_true_eq] at h3
  exact WALL_of h3.1 h3.2
/-- what the memory says of the heap at a cell of ours -/
def wat (D : wD) (S : wS) (H : Heap) (a : Nat) : Prop :=
  (sK S a ≤ 8 → t_OB a (D.1 (sK S a)) (kC (sK S a)).2.2 (D.2.1 (sK S a)) H (fun j => sG S (64 * sK S a + j) a)) ∧
  (9 ≤ sK S a → H[a]? = some (arrV (D.1 (sK S a)) (sN S a) (fun j => sE S (sK S a) a j)))
def wI (D : wD) (A : Nat → Prop) (S : wS) (H : Heap) : Prop := ∀ a, sK S a ≠ 0 → sK S a ≤ 13 ∧ wat D S H a ∧ A a
theorem wat.lt {D : wD} {S : wS} {H : Heap} {a : Nat} (h : wat D S H a) : a < H.size := by
  rcases Nat.lt_or_ge (sK S a) 9 with q | q
  · obtain ⟨cell, h2, -⟩ := h.1 (by omega)
    exact (Array.getElem?_eq_some_iff.mp h2).1
  · exact (Array.getElem?_eq_some_iff.mp (h.2 q)).1
theorem wat.kept {D : wD} {S : wS} {H H1 : Heap} {a : Nat} (h : wat D S H a) (e : H1[a]? = H[a]?) : wat D S H1 a :=
  ⟨fun q => (h.1 q).kept e, fun q => by rw [e]; exact h.2 q⟩
theorem wI.new {D : wD} {A : Nat → Prop} {S : wS} {H : Heap} (h : wI D A S H) : sK S H.size = 0 := by
  rcases Nat.eq_zero_or_pos (sK S H.size) with q | q
  · exact q
  · exact absurd (h H.size (by omega)).2.1.lt (Nat.lt_irrefl _)
theorem wI.new' {D : wD} {A : Nat → Prop} {S : wS} {H : Heap} (h : wI D A S H) {a : Nat} (ha : H.size ≤ a) : sK S a = 0 := by
  rcases Nat.eq_zero_or_pos (sK S a) with q | q
  · exact q
  · have := (h a (by omega)).2.1.lt
    omega
/-- which cells a method may change -/
def wA (S : wS) (sz : Nat) : Nat → Prop := fun q => sK S q ≠ 0 ∨ sz ≤ q
/-- the tables' class ids -/
def wKn (D : wD) (U : State) : Prop := (∀ k, 1 ≤ k → k ≤ 8 → u_Kn U (kC k).1 (kC k).2.1 (kC k).2.2 (D.1 k) (D.2.1 k)) ∧ ∀ k, 9 ≤ k → k ≤ 13 → ArrOfT U (D.1 k) (kA k) ∧ va_RA U (D.1 k) (kA k)
theorem wKn.moved {D : wD} {u U : State} (hvm : u.vm.Alike U.vm) (h : wKn D u) : wKn D U := ⟨fun k h1 h2 => u_Kn_moved hvm (h.1 k h1 h2), fun k h1 h2 => ⟨arrOfT_moved hvm (h.2 k h1 h2).1, (h.2 k h1 h2).2.moved hvm⟩⟩
/-- the JDK's statics that are read -/
def wZ (D : wD) (A : Nat → Prop) (U : State) (H : Heap) : Prop :=
  vx_Zq Bundle.tN "UNASSIGNED_STACK" Bundle.steD A U H ∧ vx_Zq Bundle.tN "SUPPRESSED_SENTINEL" Bundle.listD A U H ∧
  va_Z "java/util/ArrayList" "DEFAULTCAPACITY_EMPTY_ELEMENTDATA" "[Ljava/lang/Object;" (.ref D.2.2.1) A U H ∧
  (∃ cell : Cell, H[D.2.2.1]? = some cell ∧ U.isArrayOf cell (.object "java/lang/Object") ∧ cell.vm ≠ .unknown ∧ cell.slots.size = 0) ∧ ¬ A D.2.2.1
theorem wZ.moved {D : wD} {A : Nat → Prop} {u U : State} {H : Heap} (hvm : u.vm.Alike U.vm) (h : wZ D A u H) : wZ D A U H := by
  obtain ⟨h1, h2, h3, ⟨cell, h4, h5, h6⟩, h7⟩ := h
  exact ⟨vx_Zq.moved hvm h1, vx_Zq.moved hvm h2, va_Z.moved hvm h3, ⟨cell, h4, State.isArrayOf_alike hvm h5, h6⟩, h7⟩
theorem wZ.kept {D : wD} {A : Nat → Prop} {U : State} {H H1 : Heap} (h : wZ D A U H) (hq : ∀ a : Nat, a < H.size → ¬ A a → H1[a]? = H[a]?) : wZ D A U H1 := by
  obtain ⟨h1, h2, h3, ⟨cell, h4, h5, h6⟩, h7⟩ := h
  exact ⟨h1.kept hq, h2.kept hq, h3.kept hq, ⟨cell, by rw [hq _ (Array.getElem?_eq_some_iff.mp h4).1 h7]; exact h4, h5, h6⟩, h7⟩
theorem wZ.narrow {D : wD} {A B : Nat → Prop} {U : State} {H : Heap} (h : wZ D A U H) (hAB : ∀ q, B q → A q) : wZ D B U H := by
  obtain ⟨h1, h2, h3, h4, h7⟩ := h
  exact ⟨h1.narrow hAB, h2.narrow hAB, h3.narrow hAB, h4, fun z => h7 (hAB _ z)⟩
/-- the String constants that a throw loads -/
def wStr : List (String × Nat × String) := [("Spliceroom", 45, "no room for a film"), ("Spliceroom", 353, "no such film"), ("Spliceroom", 295, "a number is out of range"), ("Spliceroom", 65, "no room for a shot"), ("Spliceroom", 79, "no room for a reel"), ("Spliceroom", 357, "no such reel"), ("Spliceroom", 355, "no such shot"), ("Spliceroom", 103, "of two films"), ("Spliceroom", 116, "not missing, or out of order"), ("Spliceroom", 365, "the film is lent"), ("Spliceroom", 130, "no such place"), ("Spliceroom", 133, "no room for a shot or its reel"), ("Spliceroom", 138, "the same reel, or of two films"), ("Spliceroom", 144, "empty, or out of order"), ("Spliceroom", 158, "the shot is missing"), ("Spliceroom", 169, "no such frame"), ("Spliceroom", 178, "no such limit"), ("Spliceroom", 187, "a splice has more, or a film is lent"), ("Spliceroom", 193, "a splice would be worn beyond the limit"), ("Spliceroom", 363, "no such splice"), ("Spliceroom", 209, "the shot ahead has one frame"), ("Spliceroom", 214, "no such size"), ("Spliceroom", 219, "the reel is empty"), ("Spliceroom", 234, "no such grade"), ("Spliceroom", 239, "no grade of its own"), ("Spliceroom", 254, "no such country"), ("Spliceroom", 260, "the country has a version"), ("Spliceroom", 262, "no room for a version"), ("Spliceroom", 359, "no such version"), ("Spliceroom", 277, "no such frames"), ("Spliceroom", 300, "no room for a loan"), ("Spliceroom", 361, "no such loan"), ("Spliceroom", 321, "given back, or no run left"), ("Spliceroom", 327, "given back before"), ("Spliceroom", 332, "no such number of days"), ("Spliceroom", 336, "no shots"), ("Spliceroom", 345, "no splices")]
/-- pairs of classes, the first assignable to the second -/
def wCas : List (String × String) := [("java/lang/IllegalStateException", "java/lang/IllegalStateException"), ("java/lang/IndexOutOfBoundsException", "java/lang/IndexOutOfBoundsException"), ("java/lang/IllegalArgumentException", "java/lang/IllegalArgumentException"), ("java/lang/UnsupportedOperationException", "java/lang/UnsupportedOperationException"), ("java/util/NoSuchElementException", "java/util/NoSuchElementException"), ("java/lang/ArithmeticException", "java/lang/ArithmeticException"), (RX0, "java/lang/Object"), (RX1, "java/lang/Object"), (RX2, "java/lang/Object"), (RX3, "java/lang/Object"), (RX4, "java/lang/Object")]
def wU (D : wD) (U : State) : Prop := (∀ q ∈ wCas, va_Nw (.castable q.1 q.2) U) ∧ va_Mi "[Ljava/lang/Object;" D.2.2.2 U ∧ va_Dc U ∧ va_AO "java/lang/Object" U ∧ ∀ q ∈ wStr, ∃ a, vk_R q.1 q.2.1 q.2.2 a U
theorem wU.warm {D : wD} {s U : State} (hW : s.WarmedH U.vm) (h : wU D s) : wU D U := by
  obtain ⟨h0, h1, h2, h3, h4⟩ := h
  refine ⟨fun q hq => va_Nw.warmC hW (h0 q hq), h1.moved hW.alike, h2.moved hW.alike, h3.moved hW.alike, fun q hq => ?_⟩
  obtain ⟨a, ha⟩ := h4 q hq
  exact ⟨a, vk_R.warm hW ha⟩
/-- what a method is entered with -/
def wPre (D : wD) (sz : Nat) (S : wS) (U : State) : Prop := U.heap.size = sz ∧ wI D (wA S sz) S U.heap ∧ wKn D U ∧ wZ D (wA S sz) U U.heap ∧ wU D U
/-- a result: a value (or none), or the name of the class that is thrown -/
abbrev wR : Type := Option Value ⊕ String
def wQc (D : wD) (sz : Nat) (S : wS) (Post : wR → wS → Prop) : Array Value → State → Outcome → State → Prop := fun _ st o t => ∃ (v : Option Value) (S' : wS), o = .returned v ∧ Post (.inl v) S' ∧ wI D (wA S sz) S' t.heap ∧ va_F (wA S sz) st t
def wXC (D : wD) (sz : Nat) (S : wS) (Post : wR → wS → Prop) : String → State → State → Prop := fun E st t => ∃ S' : wS, Post (.inr E) S' ∧ wI D (wA S sz) S' t.heap ∧ va_F (wA S sz) st t
/-- facts of a method's name -/
def Cal (y : MethodName) (cc : ByteArray) (nL : Nat) (ret : Option FieldType) (np : Nat) : Prop :=
  plainName y.cls = true ∧ (y.cls ≠ "java/lang/invoke/MethodHandle" ∧ y.cls ≠ "java/lang/invoke/VarHandle" ∧ (parseMethodDescriptor y.desc).map (fun d => d.parameters.length) = some np) ∧ Cond.code y cc nL ret ∈ WALL ∧ Cond.initialized y.cls ∈ WALL
/-- THE CONTRACT: from memory S with the arguments av the method ends with Post; d: its depth, mc cells of ms slots at most are new -/
def Ct (l : Launch) (y : MethodName) (cc : ByteArray) (nL : Nat) (ret : Option FieldType) (d mc ms : Nat) (av : List Value) (S : wS) (Post : wR → wS → Prop) : Prop :=
  ∀ (D : wD) (sz : Nat), vx_Met l y (Cond.code y cc nL ret :: WALL) { frames := 20 * d, cells := mc, slots := ms, locals := 200 * d } (va_Pc av (fun U => wPre D sz S U)) (wQc D sz S Post) (wXC D sz S Post) mc ms (wA S sz)
/-- locals by their numbers -/
def lvg : List (Nat × Value) → Nat → Option Value
  | [], _ => none
  | (j, v) :: r, i => match Nat.beq j i with
    | true => some v
    | false => lvg r i
theorem lvg_mem : ∀ {lv : List (Nat × Value)} {i : Nat} {v : Value}, lvg lv i = some v → (i, v) ∈ lv
  | [], _, _, h => by cases h
  | (j, w) :: r, i, v, h => by
    unfold lvg at h
    cases e : Nat.beq j i with
    | true =>
      rw [e] at h
      cases h
      rw [Nat.eq_of_beq_eq_true e]
      exact List.mem_cons_self
    | false =>
      rw [e] at h
      exact List.mem_cons_of_mem _ (lvg_mem h)
theorem lvg_at {ls : Array Slot} {nL : Nat} {lv : List (Nat × Value)} (h : lv_has ls nL lv) {i : Nat} {v : Value} (hk : lvg lv i = some v) : ls[i]? = some (.val v) := h.2.2 (i, v) (lvg_mem hk)
theorem lvg_sub {ls : Array Slot} {nL : Nat} {lv lv' : List (Nat × Value)} (h : lv_has ls nL lv) (hs : ∀ q ∈ lv', lvg lv q.1 = some q.2) : lv_has ls nL lv' := ⟨h.1, h.2.1, fun q hq => lvg_at h (hs q hq)⟩
/-- a value put into a local of one word -/
def lvp (lv : List (Nat × Value)) (i : Nat) (v : Value) : List (Nat × Value) := (i, v) :: lv.filter (fun q => !(q.1 == i) && !(q.1 + 1 == i && q.2.category == 2))
/-- the walk's judgement -/
def J (p : Program) (l : Launch) (e : Env) (R : Room) (s : State) (m : MethodId) (args : Array Value) (below : List Frame) (meth : Method) (c : Code) (nL : Nat) (D : wD) (A : Nat → Prop) (Q : State → Prop) (pc : Nat) (lv : List (Nat × Value)) (st : List Value) (S : wS) (k n : Nat) : Prop :=
  ∀ (H : Heap) (locs : List Loc) (ls : Array Slot), lv_has ls nL lv → wI D A S H → va_S A s.heap H locs → W p l e R s m args below meth c H locs k n Q (F0 m pc ls st)
/-- what stands through a method's walk -/
def Cx (p : Program) (l : Launch) (s : State) (m : MethodId) (args : Array Value) (meth : Method) (c : Code) (cc : ByteArray) (nL : Nat) (own : String) (D : wD) (A : Nat → Prop) : Prop :=
  p.tables.exec = Jvm.exec ∧ c.code = cc ∧ c.maxLocals = nL ∧ s.vm.findClass own = some m.cls ∧ (∀ w ∈ WALL, w.before args s = true) ∧ wKn D s ∧ wZ D A s s.heap ∧ wU D s ∧ (∀ q, s.heap.size ≤ q → A q) ∧ meth.locks = false ∧ l.stackTraces = false
def FL (own : String) (idx k j : Nat) : Prop := ∃ ref : String, Cond.fieldLink own idx ref ((kC k).2.1 j).2.1 ((kC k).2.1 j).2.2.1 ∈ WALL ∧ (((kC k).2.1 j).1 = ref ∨ Cond.sameField ref ((kC k).2.1 j).1 ((kC k).2.1 j).2.1 ((kC k).2.1 j).2.2.1 ∈ WALL)
theorem FL_of {own ref : String} {idx k j : Nat} (h : Cond.fieldLink own idx ref ((kC k).2.1 j).2.1 ((kC k).2.1 j).2.2.1 ∈ WALL) (e : ((kC k).2.1 j).1 = ref) : FL own idx k j := ⟨ref, h, Or.inl e⟩
theorem FL_of2 {own ref o : String} {idx k j : Nat} (h : Cond.fieldLink own idx ref ((kC k).2.1 j).2.1 ((kC k).2.1 j).2.2.1 ∈ WALL) (h2 : Cond.sameField ref o ((kC k).2.1 j).2.1 ((kC k).2.1 j).2.2.1 ∈ WALL) (e : ((kC k).2.1 j).1 = o) : FL own idx k j := ⟨ref, h, Or.inr (by rw [e]; exact h2)⟩
end
section
theorem cl_La_8 : Cond.classLink RL 8 RX5 ∈ WALL := WALL_at 85 (by decide +kernel) rfl
theorem nw_Sp : Cond.instantiable RX5 8 ∈ WALL ∧ Cond.initialized RX5 ∈ WALL := ⟨WALL_at 86 (by decide +kernel) rfl, WALL_at 51 (by decide +kernel) rfl⟩
theorem ml_La_125 : Cond.methodLink RL 125 yX5_init ∈ WALL := WALL_at 87 (by decide +kernel) rfl
theorem ml_Sp_3 : Cond.methodLink RX5 3 objectInit ∈ WALL := WALL_at 90 (by decide +kernel) rfl
theorem cl_Sp_9 : Cond.classLink RX5 9 RJx4a65c ∈ WALL := WALL_at 93 (by decide +kernel) rfl
theorem nw_AL : Cond.instantiable RJx4a65c 3 ∈ WALL ∧ Cond.initialized RJx4a65c ∈ WALL := ⟨WALL_at 94 (by decide +kernel) rfl, WALL_at 54 (by decide +kernel) rfl⟩
theorem ml_Sp_11 : Cond.methodLink RX5 11 yJx4a65c_init_da8c8 ∈ WALL := WALL_at 95 (by decide +kernel) rfl
theorem ml_AL_1 : Cond.methodLink RJx4a65c 1 yJxc12de_init_da8c8 ∈ WALL := WALL_at 98 (by decide +kernel) rfl
theorem ml_Ab_1 : Cond.methodLink RJxc12de 1 yJxa1e45_init_da8c8 ∈ WALL := WALL_at 101 (by decide +kernel) rfl
theorem ml_Ac_1 : Cond.methodLink RJxa1e45 1 objectInit ∈ WALL := WALL_at 104 (by decide +kernel) rfl
theorem sl_AL_39 : Cond.fieldLink RJx4a65c 39 "java/util/ArrayList" "DEFAULTCAPACITY_EMPTY_ELEMENTDATA" "[Ljava/lang/Object;" ∈ WALL := WALL_at 105 (by decide +kernel) rfl
theorem fl_AL_9 : FL RJx4a65c 9 8 1 := FL_of (ref := "java/util/ArrayList") (WALL_at 107 (by decide +kernel) rfl) rfl
theorem fl_AL_48 : FL RJx4a65c 48 8 2 := FL_of (ref := "java/util/ArrayList") (WALL_at 108 (by decide +kernel) rfl) rfl
theorem sl_Ab_7 : Cond.fieldLink RJxc12de 7 "java/util/AbstractList" "modCount" "I" ∈ WALL := WALL_at 109 (by decide +kernel) rfl
theorem fl_AL_63 : FL RJx4a65c 63 8 0 := FL_of2 (ref := "java/util/ArrayList") (o := "java/util/AbstractList") (WALL_at 110 (by decide +kernel) rfl) (WALL_at 111 (by decide +kernel) rfl) rfl
theorem fl_Sp_12 : FL RX5 12 6 0 := FL_of (ref := "Spliceroom") (WALL_at 119 (by decide +kernel) rfl) rfl
theorem fl_Sp_16 : FL RX5 16 6 1 := FL_of (ref := "Spliceroom") (WALL_at 120 (by decide +kernel) rfl) rfl
theorem fl_Sp_19 : FL RX5 19 6 2 := FL_of (ref := "Spliceroom") (WALL_at 121 (by decide +kernel) rfl) rfl
theorem fl_Sp_22 : FL RX5 22 6 3 := FL_of (ref := "Spliceroom") (WALL_at 122 (by decide +kernel) rfl) rfl
theorem fl_Sp_25 : FL RX5 25 6 4 := FL_of (ref := "Spliceroom") (WALL_at 123 (by decide +kernel) rfl) rfl
theorem fl_Sp_28 : FL RX5 28 6 5 := FL_of (ref := "Spliceroom") (WALL_at 124 (by decide +kernel) rfl) rfl
theorem fl_Sp_32 : FL RX5 32 6 6 := FL_of (ref := "Spliceroom") (WALL_at 125 (by decide +kernel) rfl) rfl
theorem fl_Sp_35 : FL RX5 35 6 7 := FL_of (ref := "Spliceroom") (WALL_at 126 (by decide +kernel) rfl) rfl
theorem ml_La_230 : Cond.methodLink RL 230 yX5_shown ∈ WALL := WALL_at 144 (by decide +kernel) rfl
theorem ml_La_242 : Cond.methodLink RL 242 yX5_isSound ∈ WALL := WALL_at 148 (by decide +kernel) rfl
theorem ml_Sp_180 : Cond.methodLink RX5 180 yX5_isWearWithin ∈ WALL := WALL_at 152 (by decide +kernel) rfl
theorem ml_Sp_39 : Cond.methodLink RX5 39 yJx4a65c_size_8abf5 ∈ WALL := WALL_at 156 (by decide +kernel) rfl
theorem ml_Sp_146 : Cond.methodLink RX5 146 yJx4a65c_get_915e3 ∈ WALL := WALL_at 160 (by decide +kernel) rfl
theorem ml_AL_118 : Cond.methodLink RJx4a65c 118 yJ15_checkIndex_7cf53 ∈ WALL := WALL_at 164 (by decide +kernel) rfl
theorem ml_Ob_105 : Cond.methodLink RJ15 105 yJ3_checkIndex_8e157 ∈ WALL := WALL_at 167 (by decide +kernel) rfl
theorem ml_AL_123 : Cond.methodLink RJx4a65c 123 yJx4a65c_elementData_915e3 ∈ WALL := WALL_at 170 (by decide +kernel) rfl
theorem cl_Sp_86 : Cond.classLink RX5 86 RX2 ∈ WALL := WALL_at 174 (by decide +kernel) rfl
theorem ml_Sp_189 : Cond.methodLink RX5 189 yX2_canTake ∈ WALL := WALL_at 175 (by decide +kernel) rfl
theorem ml_Re_34 : Cond.methodLink RX2 34 yJx4a65c_size_8abf5 ∈ WALL := WALL_at 179 (by decide +kernel) rfl
theorem ml_Re_44 : Cond.methodLink RX2 44 yJx4a65c_get_915e3 ∈ WALL := WALL_at 180 (by decide +kernel) rfl
theorem cl_Re_29 : Cond.classLink RX2 29 RX3 ∈ WALL := WALL_at 181 (by decide +kernel) rfl
theorem ml_Sp_347 : Cond.methodLink RX5 347 yX5_arePassedGradesSound ∈ WALL := WALL_at 182 (by decide +kernel) rfl
theorem cl_Sp_75 : Cond.classLink RX5 75 RX3 ∈ WALL := WALL_at 186 (by decide +kernel) rfl
theorem ml_Sp_381 : Cond.methodLink RX5 381 yX3_canHavePassedTo ∈ WALL := WALL_at 187 (by decide +kernel) rfl
theorem ml_Sh_42 : Cond.methodLink RX3 42 yX3_currentGrade ∈ WALL := WALL_at 191 (by decide +kernel) rfl
theorem ml_Sp_350 : Cond.methodLink RX5 350 yX5_areVersionLengthsSound ∈ WALL := WALL_at 195 (by decide +kernel) rfl
theorem cl_Sp_264 : Cond.classLink RX5 264 RX4 ∈ WALL := WALL_at 199 (by decide +kernel) rfl
theorem ml_Sp_292 : Cond.methodLink RX5 292 yX4_lengthByShots ∈ WALL := WALL_at 200 (by decide +kernel) rfl
theorem ml_Ve_55 : Cond.methodLink RX4 55 yJx4a65c_size_8abf5 ∈ WALL := WALL_at 204 (by decide +kernel) rfl
theorem ml_Ve_61 : Cond.methodLink RX4 61 yJx4a65c_get_915e3 ∈ WALL := WALL_at 205 (by decide +kernel) rfl
theorem cl_Ve_24 : Cond.classLink RX4 24 RX3 ∈ WALL := WALL_at 206 (by decide +kernel) rfl
theorem ml_Ve_65 : Cond.methodLink RX4 65 yX3_keptFrames ∈ WALL := WALL_at 207 (by decide +kernel) rfl
theorem ml_Ve_68 : Cond.methodLink RX4 68 yX4_leftOutOf ∈ WALL := WALL_at 211 (by decide +kernel) rfl
theorem ml_Ve_34 : Cond.methodLink RX4 34 yJ13_bitCount_95d88 ∈ WALL := WALL_at 215 (by decide +kernel) rfl
theorem ml_Sp_385 : Cond.methodLink RX5 385 yX4_lengthByFrames ∈ WALL := WALL_at 221 (by decide +kernel) rfl
theorem ml_Ve_72 : Cond.methodLink RX4 72 yX4_isLeftOut ∈ WALL := WALL_at 225 (by decide +kernel) rfl
theorem ml_La_129 : Cond.methodLink RL 129 yL_addFilm ∈ WALL := WALL_at 229 (by decide +kernel) rfl
theorem cl_La_13 : Cond.classLink RL 13 "java/lang/IllegalStateException" ∈ WALL := WALL_at 232 (by decide +kernel) rfl
theorem ml_La_7 : Cond.methodLink RL 7 yX5_addFilm ∈ WALL := WALL_at 233 (by decide +kernel) rfl
theorem cl_Sp_43 : Cond.classLink RX5 43 "java/lang/IllegalStateException" ∈ WALL := WALL_at 237 (by decide +kernel) rfl
theorem ml_Sp_47 : Cond.methodLink RX5 47 (⟨"java/lang/IllegalStateException", "<init>", "(Ljava/lang/String;)V"⟩ : MethodName) ∈ WALL := WALL_at 283 (by decide +kernel) rfl
theorem cl_Sp_50 : Cond.classLink RX5 50 RX0 ∈ WALL := WALL_at 309 (by decide +kernel) rfl
theorem nw_Fi : Cond.instantiable RX0 2 ∈ WALL ∧ Cond.initialized RX0 ∈ WALL := ⟨WALL_at 310 (by decide +kernel) rfl, WALL_at 60 (by decide +kernel) rfl⟩
theorem ml_Fi_3 : Cond.methodLink RX0 3 objectInit ∈ WALL := WALL_at 314 (by decide +kernel) rfl
theorem cl_Fi_9 : Cond.classLink RX0 9 RJx4a65c ∈ WALL := WALL_at 315 (by decide +kernel) rfl
theorem ml_Fi_11 : Cond.methodLink RX0 11 yJx4a65c_init_da8c8 ∈ WALL := WALL_at 316 (by decide +kernel) rfl
theorem fl_Fi_12 : FL RX0 12 1 0 := FL_of (ref := "Spliceroom$Film") (WALL_at 317 (by decide +kernel) rfl) rfl
theorem fl_Sp_71 : FL RX5 71 1 0 := FL_of (ref := "Spliceroom$Film") (WALL_at 318 (by decide +kernel) rfl) rfl
theorem fl_Ve_49 : FL RX4 49 1 0 := FL_of (ref := "Spliceroom$Film") (WALL_at 319 (by decide +kernel) rfl) rfl
theorem fl_Sp_307 : FL RX5 307 1 1 := FL_of (ref := "Spliceroom$Film") (WALL_at 320 (by decide +kernel) rfl) rfl
theorem ml_Sp_53 : Cond.methodLink RX5 53 yJx4a65c_add_9ea2d ∈ WALL := WALL_at 326 (by decide +kernel) rfl
theorem ml_AL_131 : Cond.methodLink RJx4a65c 131 yJx4a65c_add_72be8 ∈ WALL := WALL_at 330 (by decide +kernel) rfl
theorem ml_AL_129 : Cond.methodLink RJx4a65c 129 yJx4a65c_grow_d5877 ∈ WALL := WALL_at 334 (by decide +kernel) rfl
theorem ml_AL_69 : Cond.methodLink RJx4a65c 69 yJx4a65c_grow_92f84 ∈ WALL := WALL_at 338 (by decide +kernel) rfl
theorem ml_AL_73 : Cond.methodLink RJx4a65c 73 yJ8_newLength_cabcc ∈ WALL := WALL_at 342 (by decide +kernel) rfl
theorem ml_As_194 : Cond.methodLink RJ8 194 Lib.Math.max.name ∈ WALL := WALL_at 345 (by decide +kernel) rfl
theorem ml_As_201 : Cond.methodLink RJ8 201 yJ8_hugeLength_7cf53 ∈ WALL := WALL_at 349 (by decide +kernel) rfl
theorem ml_AL_66 : Cond.methodLink RJx4a65c 66 yJ7_copyOf_1904c ∈ WALL := WALL_at 352 (by decide +kernel) rfl
theorem ml_Ar_86 : Cond.methodLink RJ7 86 (⟨"java/lang/Object", "getClass", "()Ljava/lang/Class;"⟩ : MethodName) ∈ WALL := WALL_at 355 (by decide +kernel) rfl
theorem ml_Ar_300 : Cond.methodLink RJ7 300 yJ7_copyOf_6403c ∈ WALL := WALL_at 376 (by decide +kernel) rfl
theorem cl_Ar_110 : Cond.classLink RJ7 110 "[Ljava/lang/Object;" ∈ WALL := WALL_at 379 (by decide +kernel) rfl
theorem cl_Ar_2 : Cond.classLink RJ7 2 "java/lang/Object" ∈ WALL := WALL_at 381 (by decide +kernel) rfl
theorem ml_Ar_304 : Cond.methodLink RJ7 304 Lib.Math.min.name ∈ WALL := WALL_at 382 (by decide +kernel) rfl
theorem ml_Ar_150 : Cond.methodLink RJ7 150 arraycopyName ∈ WALL := WALL_at 385 (by decide +kernel) rfl
theorem ml_AL_79 : Cond.methodLink RJx4a65c 79 Lib.Math.max.name ∈ WALL := WALL_at 388 (by decide +kernel) rfl
theorem cl_AL_7 : Cond.classLink RJx4a65c 7 "java/lang/Object" ∈ WALL := WALL_at 389 (by decide +kernel) rfl
theorem ml_La_138 : Cond.methodLink RL 138 yL_addShot ∈ WALL := WALL_at 390 (by decide +kernel) rfl
theorem cl_La_19 : Cond.classLink RL 19 "java/lang/IndexOutOfBoundsException" ∈ WALL := WALL_at 393 (by decide +kernel) rfl
theorem cl_La_21 : Cond.classLink RL 21 "java/lang/IllegalArgumentException" ∈ WALL := WALL_at 417 (by decide +kernel) rfl
theorem ml_La_15 : Cond.methodLink RL 15 yX5_addShot ∈ WALL := WALL_at 418 (by decide +kernel) rfl
theorem ml_Sp_57 : Cond.methodLink RX5 57 yX5_filmNumbered ∈ WALL := WALL_at 422 (by decide +kernel) rfl
theorem cl_Sp_128 : Cond.classLink RX5 128 "java/lang/IndexOutOfBoundsException" ∈ WALL := WALL_at 426 (by decide +kernel) rfl
theorem ml_Sp_132 : Cond.methodLink RX5 132 (⟨"java/lang/IndexOutOfBoundsException", "<init>", "(Ljava/lang/String;)V"⟩ : MethodName) ∈ WALL := WALL_at 436 (by decide +kernel) rfl
theorem ml_Sp_61 : Cond.methodLink RX5 61 yX5_requireLengthAndScene ∈ WALL := WALL_at 439 (by decide +kernel) rfl
theorem cl_Sp_101 : Cond.classLink RX5 101 "java/lang/IllegalArgumentException" ∈ WALL := WALL_at 443 (by decide +kernel) rfl
theorem ml_Sp_105 : Cond.methodLink RX5 105 (⟨"java/lang/IllegalArgumentException", "<init>", "(Ljava/lang/String;)V"⟩ : MethodName) ∈ WALL := WALL_at 453 (by decide +kernel) rfl
theorem ml_Sp_67 : Cond.methodLink RX5 67 yX5_newShot ∈ WALL := WALL_at 460 (by decide +kernel) rfl
theorem nw_Sh : Cond.instantiable RX3 10 ∈ WALL ∧ Cond.initialized RX3 ∈ WALL := ⟨WALL_at 464 (by decide +kernel) rfl, WALL_at 71 (by decide +kernel) rfl⟩
theorem ml_Sp_370 : Cond.methodLink RX5 370 yX3_init ∈ WALL := WALL_at 465 (by decide +kernel) rfl
theorem ml_Sh_3 : Cond.methodLink RX3 3 objectInit ∈ WALL := WALL_at 468 (by decide +kernel) rfl
theorem fl_Sh_15 : FL RX3 15 4 0 := FL_of (ref := "Spliceroom$Shot") (WALL_at 469 (by decide +kernel) rfl) rfl
theorem fl_Sp_100 : FL RX5 100 4 0 := FL_of (ref := "Spliceroom$Shot") (WALL_at 470 (by decide +kernel) rfl) rfl
theorem fl_Sh_19 : FL RX3 19 4 1 := FL_of (ref := "Spliceroom$Shot") (WALL_at 471 (by decide +kernel) rfl) rfl
theorem fl_Ve_23 : FL RX4 23 4 1 := FL_of (ref := "Spliceroom$Shot") (WALL_at 472 (by decide +kernel) rfl) rfl
theorem fl_Sp_74 : FL RX5 74 4 1 := FL_of (ref := "Spliceroom$Shot") (WALL_at 473 (by decide +kernel) rfl) rfl
theorem fl_Sh_25 : FL RX3 25 4 2 := FL_of (ref := "Spliceroom$Shot") (WALL_at 474 (by decide +kernel) rfl) rfl
theorem fl_Sp_251 : FL RX5 251 4 2 := FL_of (ref := "Spliceroom$Shot") (WALL_at 475 (by decide +kernel) rfl) rfl
theorem fl_Sh_22 : FL RX3 22 4 3 := FL_of (ref := "Spliceroom$Shot") (WALL_at 476 (by decide +kernel) rfl) rfl
theorem fl_Re_48 : FL RX2 48 4 3 := FL_of (ref := "Spliceroom$Shot") (WALL_at 477 (by decide +kernel) rfl) rfl
theorem fl_Sp_153 : FL RX5 153 4 3 := FL_of (ref := "Spliceroom$Shot") (WALL_at 478 (by decide +kernel) rfl) rfl
theorem fl_Sh_28 : FL RX3 28 4 4 := FL_of (ref := "Spliceroom$Shot") (WALL_at 479 (by decide +kernel) rfl) rfl
theorem fl_Re_28 : FL RX2 28 4 4 := FL_of (ref := "Spliceroom$Shot") (WALL_at 480 (by decide +kernel) rfl) rfl
theorem fl_Sp_174 : FL RX5 174 4 4 := FL_of (ref := "Spliceroom$Shot") (WALL_at 481 (by decide +kernel) rfl) rfl
theorem fl_Re_51 : FL RX2 51 4 5 := FL_of (ref := "Spliceroom$Shot") (WALL_at 482 (by decide +kernel) rfl) rfl
theorem fl_Sp_206 : FL RX5 206 4 5 := FL_of (ref := "Spliceroom$Shot") (WALL_at 483 (by decide +kernel) rfl) rfl
theorem fl_Sh_32 : FL RX3 32 4 6 := FL_of (ref := "Spliceroom$Shot") (WALL_at 484 (by decide +kernel) rfl) rfl
theorem fl_Sp_228 : FL RX5 228 4 6 := FL_of (ref := "Spliceroom$Shot") (WALL_at 485 (by decide +kernel) rfl) rfl
theorem fl_Sh_35 : FL RX3 35 4 7 := FL_of (ref := "Spliceroom$Shot") (WALL_at 486 (by decide +kernel) rfl) rfl
theorem fl_Sp_231 : FL RX5 231 4 7 := FL_of (ref := "Spliceroom$Shot") (WALL_at 487 (by decide +kernel) rfl) rfl
theorem fl_Sh_9 : FL RX3 9 4 8 := FL_of (ref := "Spliceroom$Shot") (WALL_at 488 (by decide +kernel) rfl) rfl
theorem fl_Sp_236 : FL RX5 236 4 8 := FL_of (ref := "Spliceroom$Shot") (WALL_at 489 (by decide +kernel) rfl) rfl
theorem fl_Sh_38 : FL RX3 38 4 9 := FL_of (ref := "Spliceroom$Shot") (WALL_at 490 (by decide +kernel) rfl) rfl
theorem fl_Fi_35 : FL RX0 35 4 9 := FL_of (ref := "Spliceroom$Shot") (WALL_at 491 (by decide +kernel) rfl) rfl
theorem fl_Sp_244 : FL RX5 244 4 9 := FL_of (ref := "Spliceroom$Shot") (WALL_at 492 (by decide +kernel) rfl) rfl
theorem ml_La_142 : Cond.methodLink RL 142 yL_addReel ∈ WALL := WALL_at 514 (by decide +kernel) rfl
theorem ml_La_23 : Cond.methodLink RL 23 yX5_addReel ∈ WALL := WALL_at 517 (by decide +kernel) rfl
theorem ml_Sp_81 : Cond.methodLink RX5 81 yX5_newReel ∈ WALL := WALL_at 522 (by decide +kernel) rfl
theorem nw_Re : Cond.instantiable RX2 3 ∈ WALL ∧ Cond.initialized RX2 ∈ WALL := ⟨WALL_at 526 (by decide +kernel) rfl, WALL_at 72 (by decide +kernel) rfl⟩
theorem ml_Sp_371 : Cond.methodLink RX5 371 yX2_init ∈ WALL := WALL_at 527 (by decide +kernel) rfl
theorem ml_Re_1 : Cond.methodLink RX2 1 objectInit ∈ WALL := WALL_at 530 (by decide +kernel) rfl
theorem cl_Re_7 : Cond.classLink RX2 7 RJx4a65c ∈ WALL := WALL_at 531 (by decide +kernel) rfl
theorem ml_Re_9 : Cond.methodLink RX2 9 yJx4a65c_init_da8c8 ∈ WALL := WALL_at 532 (by decide +kernel) rfl
theorem fl_Re_16 : FL RX2 16 3 0 := FL_of (ref := "Spliceroom$Reel") (WALL_at 533 (by decide +kernel) rfl) rfl
theorem fl_Sp_96 : FL RX5 96 3 0 := FL_of (ref := "Spliceroom$Reel") (WALL_at 534 (by decide +kernel) rfl) rfl
theorem fl_Re_20 : FL RX2 20 3 1 := FL_of (ref := "Spliceroom$Reel") (WALL_at 535 (by decide +kernel) rfl) rfl
theorem fl_Sp_85 : FL RX5 85 3 1 := FL_of (ref := "Spliceroom$Reel") (WALL_at 536 (by decide +kernel) rfl) rfl
theorem fl_Re_10 : FL RX2 10 3 2 := FL_of (ref := "Spliceroom$Reel") (WALL_at 537 (by decide +kernel) rfl) rfl
theorem fl_Sp_127 : FL RX5 127 3 2 := FL_of (ref := "Spliceroom$Reel") (WALL_at 538 (by decide +kernel) rfl) rfl
theorem ml_La_146 : Cond.methodLink RL 146 yL_put ∈ WALL := WALL_at 546 (by decide +kernel) rfl
theorem cl_La_31 : Cond.classLink RL 31 "java/lang/UnsupportedOperationException" ∈ WALL := WALL_at 549 (by decide +kernel) rfl
theorem ml_La_27 : Cond.methodLink RL 27 yX5_put ∈ WALL := WALL_at 550 (by decide +kernel) rfl
theorem ml_Sp_88 : Cond.methodLink RX5 88 yX5_reelNumbered ∈ WALL := WALL_at 554 (by decide +kernel) rfl
theorem ml_Sp_92 : Cond.methodLink RX5 92 yX5_shotNumbered ∈ WALL := WALL_at 559 (by decide +kernel) rfl
theorem ml_Sp_106 : Cond.methodLink RX5 106 yX3_isMissing ∈ WALL := WALL_at 565 (by decide +kernel) rfl
theorem ml_Sp_110 : Cond.methodLink RX5 110 yX5_isAheadOfEnd ∈ WALL := WALL_at 569 (by decide +kernel) rfl
theorem ml_Sp_161 : Cond.methodLink RX5 161 yX0_placeOf ∈ WALL := WALL_at 573 (by decide +kernel) rfl
theorem ml_Fi_18 : Cond.methodLink RX0 18 yJx4a65c_size_8abf5 ∈ WALL := WALL_at 577 (by decide +kernel) rfl
theorem ml_Fi_22 : Cond.methodLink RX0 22 yJx4a65c_get_915e3 ∈ WALL := WALL_at 578 (by decide +kernel) rfl
theorem cl_Sp_114 : Cond.classLink RX5 114 "java/lang/UnsupportedOperationException" ∈ WALL := WALL_at 579 (by decide +kernel) rfl
theorem ml_Sp_118 : Cond.methodLink RX5 118 (⟨"java/lang/UnsupportedOperationException", "<init>", "(Ljava/lang/String;)V"⟩ : MethodName) ∈ WALL := WALL_at 589 (by decide +kernel) rfl
theorem ml_Sp_119 : Cond.methodLink RX5 119 yX5_requireNotLent ∈ WALL := WALL_at 595 (by decide +kernel) rfl
theorem ml_Sp_123 : Cond.methodLink RX5 123 yX2_append ∈ WALL := WALL_at 600 (by decide +kernel) rfl
theorem ml_Re_24 : Cond.methodLink RX2 24 yJx4a65c_add_9ea2d ∈ WALL := WALL_at 604 (by decide +kernel) rfl
theorem ml_La_150 : Cond.methodLink RL 150 yL_found ∈ WALL := WALL_at 605 (by decide +kernel) rfl
theorem ml_La_33 : Cond.methodLink RL 33 yX5_found ∈ WALL := WALL_at 608 (by decide +kernel) rfl
theorem ml_Sp_135 : Cond.methodLink RX5 135 yJx4a65c_add_7a177 ∈ WALL := WALL_at 614 (by decide +kernel) rfl
theorem ml_AL_135 : Cond.methodLink RJx4a65c 135 yJx4a65c_rangeCheckForAdd_d00df ∈ WALL := WALL_at 618 (by decide +kernel) rfl
theorem cl_AL_187 : Cond.classLink RJx4a65c 187 "java/lang/IndexOutOfBoundsException" ∈ WALL := WALL_at 622 (by decide +kernel) rfl
theorem ml_AL_198 : Cond.methodLink RJx4a65c 198 yJx4a65c_outOfBoundsMsg_b52d3 ∈ WALL := WALL_at 623 (by decide +kernel) rfl
theorem cl_AL_20 : Cond.classLink RJx4a65c 20 "java/lang/StringBuilder" ∈ WALL := WALL_at 627 (by decide +kernel) rfl
theorem ml_AL_22 : Cond.methodLink RJx4a65c 22 yJ4_init_da8c8 ∈ WALL := WALL_at 629 (by decide +kernel) rfl
theorem ml_AL_25 : Cond.methodLink RJx4a65c 25 yJ4_append_15ec4 ∈ WALL := WALL_at 659 (by decide +kernel) rfl
theorem ml_Ar_310 : Cond.methodLink RJ7 310 (⟨"[B", "clone", "()Ljava/lang/Object;"⟩ : MethodName) ∈ WALL := WALL_at 683 (by decide +kernel) rfl
theorem cl_Ar_311 : Cond.classLink RJ7 311 "[B" ∈ WALL := WALL_at 689 (by decide +kernel) rfl
theorem ml_AL_29 : Cond.methodLink RJx4a65c 29 yJ4_append_bf812 ∈ WALL := WALL_at 764 (by decide +kernel) rfl
theorem ml_AL_32 : Cond.methodLink RJx4a65c 32 yJ4_toString_0e30d ∈ WALL := WALL_at 790 (by decide +kernel) rfl
theorem ml_Ar_339 : Cond.methodLink RJ7 339 yJ7_copyOfRangeByte_39247 ∈ WALL := WALL_at 819 (by decide +kernel) rfl
theorem ml_Ar_343 : Cond.methodLink RJ7 343 yJ7_checkLength_df160 ∈ WALL := WALL_at 822 (by decide +kernel) rfl
theorem cl_Ar_43 : Cond.classLink RJ7 43 "java/lang/IllegalArgumentException" ∈ WALL := WALL_at 825 (by decide +kernel) rfl
theorem cl_Ar_45 : Cond.classLink RJ7 45 "java/lang/StringBuilder" ∈ WALL := WALL_at 826 (by decide +kernel) rfl
theorem ml_Ar_47 : Cond.methodLink RJ7 47 yJ4_init_da8c8 ∈ WALL := WALL_at 827 (by decide +kernel) rfl
theorem ml_Ar_54 : Cond.methodLink RJ7 54 yJ4_append_bf812 ∈ WALL := WALL_at 828 (by decide +kernel) rfl
theorem ml_Ar_50 : Cond.methodLink RJ7 50 yJ4_append_15ec4 ∈ WALL := WALL_at 830 (by decide +kernel) rfl
theorem ml_Ar_61 : Cond.methodLink RJ7 61 yJ4_toString_0e30d ∈ WALL := WALL_at 831 (by decide +kernel) rfl
theorem ml_Ar_65 : Cond.methodLink RJ7 65 (⟨"java/lang/IllegalArgumentException", "<init>", "(Ljava/lang/String;)V"⟩ : MethodName) ∈ WALL := WALL_at 832 (by decide +kernel) rfl
theorem ml_AL_193 : Cond.methodLink RJx4a65c 193 (⟨"java/lang/IndexOutOfBoundsException", "<init>", "(Ljava/lang/String;)V"⟩ : MethodName) ∈ WALL := WALL_at 853 (by decide +kernel) rfl
theorem ml_AL_112 : Cond.methodLink RJx4a65c 112 arraycopyName ∈ WALL := WALL_at 854 (by decide +kernel) rfl
theorem ml_La_154 : Cond.methodLink RL 154 yL_join ∈ WALL := WALL_at 855 (by decide +kernel) rfl
theorem ml_La_37 : Cond.methodLink RL 37 yX5_join ∈ WALL := WALL_at 858 (by decide +kernel) rfl
theorem ml_Sp_140 : Cond.methodLink RX5 140 yX5_canBeJoined ∈ WALL := WALL_at 863 (by decide +kernel) rfl
theorem ml_Sp_216 : Cond.methodLink RX5 216 yJx4a65c_isEmpty_aae02 ∈ WALL := WALL_at 867 (by decide +kernel) rfl
theorem ml_Sp_150 : Cond.methodLink RX5 150 yJx4a65c_clear_da8c8 ∈ WALL := WALL_at 872 (by decide +kernel) rfl
theorem ml_La_157 : Cond.methodLink RL 157 yL_shots ∈ WALL := WALL_at 876 (by decide +kernel) rfl
theorem ml_La_40 : Cond.methodLink RL 40 yX5_shots ∈ WALL := WALL_at 879 (by decide +kernel) rfl
theorem ml_La_160 : Cond.methodLink RL 160 yL_shotOf ∈ WALL := WALL_at 883 (by decide +kernel) rfl
theorem ml_La_43 : Cond.methodLink RL 43 yX5_shotOf ∈ WALL := WALL_at 886 (by decide +kernel) rfl
theorem ml_La_163 : Cond.methodLink RL 163 yL_lengthOf ∈ WALL := WALL_at 890 (by decide +kernel) rfl
theorem ml_La_46 : Cond.methodLink RL 46 yX5_lengthOf ∈ WALL := WALL_at 893 (by decide +kernel) rfl
theorem ml_La_166 : Cond.methodLink RL 166 yL_frameOf ∈ WALL := WALL_at 897 (by decide +kernel) rfl
theorem cl_La_52 : Cond.classLink RL 52 "java/util/NoSuchElementException" ∈ WALL := WALL_at 900 (by decide +kernel) rfl
theorem ml_La_49 : Cond.methodLink RL 49 yX5_frameOf ∈ WALL := WALL_at 901 (by decide +kernel) rfl
theorem cl_Sp_156 : Cond.classLink RX5 156 "java/util/NoSuchElementException" ∈ WALL := WALL_at 905 (by decide +kernel) rfl
theorem ml_Sp_160 : Cond.methodLink RX5 160 (⟨"java/util/NoSuchElementException", "<init>", "(Ljava/lang/String;)V"⟩ : MethodName) ∈ WALL := WALL_at 915 (by decide +kernel) rfl
theorem ml_Sp_165 : Cond.methodLink RX5 165 yX0_framesBefore ∈ WALL := WALL_at 921 (by decide +kernel) rfl
theorem cl_Fi_26 : Cond.classLink RX0 26 RX3 ∈ WALL := WALL_at 925 (by decide +kernel) rfl
theorem ml_Fi_28 : Cond.methodLink RX0 28 yX3_keptFrames ∈ WALL := WALL_at 926 (by decide +kernel) rfl
theorem ml_La_169 : Cond.methodLink RL 169 yL_shotAt ∈ WALL := WALL_at 927 (by decide +kernel) rfl
theorem ml_La_54 : Cond.methodLink RL 54 yX5_shotAt ∈ WALL := WALL_at 930 (by decide +kernel) rfl
theorem ml_Sp_171 : Cond.methodLink RX5 171 yX3_keptFrames ∈ WALL := WALL_at 935 (by decide +kernel) rfl
theorem ml_La_172 : Cond.methodLink RL 172 yL_reelOf ∈ WALL := WALL_at 936 (by decide +kernel) rfl
theorem ml_La_57 : Cond.methodLink RL 57 yX5_reelOf ∈ WALL := WALL_at 939 (by decide +kernel) rfl
theorem ml_La_175 : Cond.methodLink RL 175 yL_setLimit ∈ WALL := WALL_at 943 (by decide +kernel) rfl
theorem ml_La_60 : Cond.methodLink RL 60 yX5_setLimit ∈ WALL := WALL_at 946 (by decide +kernel) rfl
theorem ml_Sp_184 : Cond.methodLink RX5 184 yX5_isAnyFilmLent ∈ WALL := WALL_at 951 (by decide +kernel) rfl
theorem ml_La_178 : Cond.methodLink RL 178 yL_run ∈ WALL := WALL_at 956 (by decide +kernel) rfl
theorem ml_La_63 : Cond.methodLink RL 63 yX5_run ∈ WALL := WALL_at 959 (by decide +kernel) rfl
theorem ml_Sp_195 : Cond.methodLink RX5 195 yX5_play ∈ WALL := WALL_at 964 (by decide +kernel) rfl
theorem ml_Sp_372 : Cond.methodLink RX5 372 yX2_addWear ∈ WALL := WALL_at 968 (by decide +kernel) rfl
theorem ml_Sp_376 : Cond.methodLink RX5 376 yX2_frameCount ∈ WALL := WALL_at 972 (by decide +kernel) rfl
theorem ml_Sp_199 : Cond.methodLink RX5 199 yX2_greatestWear ∈ WALL := WALL_at 976 (by decide +kernel) rfl
theorem ml_Re_38 : Cond.methodLink RX2 38 Lib.Math.max.name ∈ WALL := WALL_at 980 (by decide +kernel) rfl
theorem ml_La_181 : Cond.methodLink RL 181 yL_wear ∈ WALL := WALL_at 981 (by decide +kernel) rfl
theorem ml_La_66 : Cond.methodLink RL 66 yX5_wear ∈ WALL := WALL_at 984 (by decide +kernel) rfl
theorem ml_Sp_202 : Cond.methodLink RX5 202 yX5_shotAheadOfSplice ∈ WALL := WALL_at 988 (by decide +kernel) rfl
theorem ml_Sp_342 : Cond.methodLink RX5 342 yX2_spliceCount ∈ WALL := WALL_at 992 (by decide +kernel) rfl
theorem ml_La_184 : Cond.methodLink RL 184 yL_mend ∈ WALL := WALL_at 997 (by decide +kernel) rfl
theorem ml_La_69 : Cond.methodLink RL 69 yX5_mend ∈ WALL := WALL_at 1000 (by decide +kernel) rfl
theorem ml_Sp_211 : Cond.methodLink RX5 211 yX5_takeLastFrame ∈ WALL := WALL_at 1005 (by decide +kernel) rfl
theorem ml_Sp_288 : Cond.methodLink RX5 288 yX4_mark ∈ WALL := WALL_at 1009 (by decide +kernel) rfl
theorem ml_Ve_28 : Cond.methodLink RX4 28 yX4_bitsBetween ∈ WALL := WALL_at 1013 (by decide +kernel) rfl
theorem ml_Ve_40 : Cond.methodLink RX4 40 Lib.Math.max.name ∈ WALL := WALL_at 1016 (by decide +kernel) rfl
theorem ml_Ve_46 : Cond.methodLink RX4 46 Lib.Math.min.name ∈ WALL := WALL_at 1017 (by decide +kernel) rfl
theorem ml_Sp_285 : Cond.methodLink RX5 285 Lib.Math.min.name ∈ WALL := WALL_at 1019 (by decide +kernel) rfl
theorem ml_La_187 : Cond.methodLink RL 187 yL_scan ∈ WALL := WALL_at 1020 (by decide +kernel) rfl
theorem ml_La_72 : Cond.methodLink RL 72 yX5_scan ∈ WALL := WALL_at 1023 (by decide +kernel) rfl
theorem ml_Sp_221 : Cond.methodLink RX5 221 yX5_framesLostAt ∈ WALL := WALL_at 1029 (by decide +kernel) rfl
theorem ml_Sp_377 : Cond.methodLink RX5 377 yX5_isWorn ∈ WALL := WALL_at 1033 (by decide +kernel) rfl
theorem ml_Sp_225 : Cond.methodLink RX5 225 yX3_takeScan ∈ WALL := WALL_at 1037 (by decide +kernel) rfl
theorem ml_La_190 : Cond.methodLink RL 190 yL_scanned ∈ WALL := WALL_at 1041 (by decide +kernel) rfl
theorem ml_La_75 : Cond.methodLink RL 75 yX5_scanned ∈ WALL := WALL_at 1044 (by decide +kernel) rfl
theorem ml_La_193 : Cond.methodLink RL 193 yL_missed ∈ WALL := WALL_at 1048 (by decide +kernel) rfl
theorem ml_La_78 : Cond.methodLink RL 78 yX5_missed ∈ WALL := WALL_at 1051 (by decide +kernel) rfl
theorem ml_La_196 : Cond.methodLink RL 196 yL_grade ∈ WALL := WALL_at 1055 (by decide +kernel) rfl
theorem ml_La_81 : Cond.methodLink RL 81 yX5_grade ∈ WALL := WALL_at 1058 (by decide +kernel) rfl
theorem ml_Sp_241 : Cond.methodLink RX5 241 yX3_currentGrade ∈ WALL := WALL_at 1064 (by decide +kernel) rfl
theorem ml_Sp_248 : Cond.methodLink RX5 248 yX0_dropGradesFrom ∈ WALL := WALL_at 1065 (by decide +kernel) rfl
theorem ml_La_199 : Cond.methodLink RL 199 yL_passOn ∈ WALL := WALL_at 1069 (by decide +kernel) rfl
theorem ml_La_84 : Cond.methodLink RL 84 yX5_passOn ∈ WALL := WALL_at 1072 (by decide +kernel) rfl
theorem ml_La_202 : Cond.methodLink RL 202 yL_gradeOf ∈ WALL := WALL_at 1076 (by decide +kernel) rfl
theorem ml_La_87 : Cond.methodLink RL 87 yX5_gradeOf ∈ WALL := WALL_at 1079 (by decide +kernel) rfl
theorem ml_La_205 : Cond.methodLink RL 205 yL_gradeFrom ∈ WALL := WALL_at 1083 (by decide +kernel) rfl
theorem ml_La_90 : Cond.methodLink RL 90 yX5_gradeFrom ∈ WALL := WALL_at 1086 (by decide +kernel) rfl
theorem ml_La_208 : Cond.methodLink RL 208 yL_addVersion ∈ WALL := WALL_at 1090 (by decide +kernel) rfl
theorem ml_La_93 : Cond.methodLink RL 93 yX5_addVersion ∈ WALL := WALL_at 1093 (by decide +kernel) rfl
theorem ml_Sp_256 : Cond.methodLink RX5 256 yX5_hasVersion ∈ WALL := WALL_at 1098 (by decide +kernel) rfl
theorem nw_Ve : Cond.instantiable RX4 3 ∈ WALL ∧ Cond.initialized RX4 ∈ WALL := ⟨WALL_at 1104 (by decide +kernel) rfl, WALL_at 81 (by decide +kernel) rfl⟩
theorem ml_Sp_266 : Cond.methodLink RX5 266 yX4_init ∈ WALL := WALL_at 1105 (by decide +kernel) rfl
theorem ml_Ve_3 : Cond.methodLink RX4 3 objectInit ∈ WALL := WALL_at 1108 (by decide +kernel) rfl
theorem fl_Ve_15 : FL RX4 15 5 0 := FL_of (ref := "Spliceroom$Version") (WALL_at 1109 (by decide +kernel) rfl) rfl
theorem fl_Sp_273 : FL RX5 273 5 0 := FL_of (ref := "Spliceroom$Version") (WALL_at 1110 (by decide +kernel) rfl) rfl
theorem fl_Ve_19 : FL RX4 19 5 1 := FL_of (ref := "Spliceroom$Version") (WALL_at 1111 (by decide +kernel) rfl) rfl
theorem fl_Sp_367 : FL RX5 367 5 1 := FL_of (ref := "Spliceroom$Version") (WALL_at 1112 (by decide +kernel) rfl) rfl
theorem fl_Ve_9 : FL RX4 9 5 2 := FL_of (ref := "Spliceroom$Version") (WALL_at 1113 (by decide +kernel) rfl) rfl
theorem ml_La_211 : Cond.methodLink RL 211 yL_leaveOut ∈ WALL := WALL_at 1122 (by decide +kernel) rfl
theorem ml_La_96 : Cond.methodLink RL 96 yX5_leaveOut ∈ WALL := WALL_at 1125 (by decide +kernel) rfl
theorem ml_Sp_269 : Cond.methodLink RX5 269 yX5_versionNumbered ∈ WALL := WALL_at 1129 (by decide +kernel) rfl
theorem ml_Sp_274 : Cond.methodLink RX5 274 yX0_frameCount ∈ WALL := WALL_at 1134 (by decide +kernel) rfl
theorem ml_Fi_31 : Cond.methodLink RX0 31 yX0_framesBefore ∈ WALL := WALL_at 1138 (by decide +kernel) rfl
theorem ml_Sp_279 : Cond.methodLink RX5 279 Lib.Math.max.name ∈ WALL := WALL_at 1140 (by decide +kernel) rfl
theorem ml_La_215 : Cond.methodLink RL 215 yL_frames ∈ WALL := WALL_at 1141 (by decide +kernel) rfl
theorem ml_La_100 : Cond.methodLink RL 100 yX5_frames ∈ WALL := WALL_at 1144 (by decide +kernel) rfl
theorem ml_La_218 : Cond.methodLink RL 218 yL_lend ∈ WALL := WALL_at 1148 (by decide +kernel) rfl
theorem ml_La_103 : Cond.methodLink RL 103 yX5_lend ∈ WALL := WALL_at 1151 (by decide +kernel) rfl
theorem ml_Sp_297 : Cond.methodLink RX5 297 yX5_canFilmTake ∈ WALL := WALL_at 1155 (by decide +kernel) rfl
theorem cl_Sp_302 : Cond.classLink RX5 302 RX1 ∈ WALL := WALL_at 1160 (by decide +kernel) rfl
theorem nw_Lo : Cond.instantiable RX1 5 ∈ WALL ∧ Cond.initialized RX1 ∈ WALL := ⟨WALL_at 1161 (by decide +kernel) rfl, WALL_at 83 (by decide +kernel) rfl⟩
theorem ml_Sp_304 : Cond.methodLink RX5 304 yX1_init ∈ WALL := WALL_at 1162 (by decide +kernel) rfl
theorem ml_Lo_1 : Cond.methodLink RX1 1 objectInit ∈ WALL := WALL_at 1165 (by decide +kernel) rfl
theorem fl_Lo_7 : FL RX1 7 2 0 := FL_of (ref := "Spliceroom$Loan") (WALL_at 1166 (by decide +kernel) rfl) rfl
theorem fl_Sp_323 : FL RX5 323 2 0 := FL_of (ref := "Spliceroom$Loan") (WALL_at 1167 (by decide +kernel) rfl) rfl
theorem fl_Lo_17 : FL RX1 17 2 1 := FL_of (ref := "Spliceroom$Loan") (WALL_at 1168 (by decide +kernel) rfl) rfl
theorem fl_Sp_324 : FL RX5 324 2 1 := FL_of (ref := "Spliceroom$Loan") (WALL_at 1169 (by decide +kernel) rfl) rfl
theorem fl_Lo_20 : FL RX1 20 2 2 := FL_of (ref := "Spliceroom$Loan") (WALL_at 1170 (by decide +kernel) rfl) rfl
theorem fl_Sp_329 : FL RX5 329 2 2 := FL_of (ref := "Spliceroom$Loan") (WALL_at 1171 (by decide +kernel) rfl) rfl
theorem fl_Lo_13 : FL RX1 13 2 3 := FL_of (ref := "Spliceroom$Loan") (WALL_at 1172 (by decide +kernel) rfl) rfl
theorem fl_Sp_318 : FL RX5 318 2 3 := FL_of (ref := "Spliceroom$Loan") (WALL_at 1173 (by decide +kernel) rfl) rfl
theorem fl_Sp_315 : FL RX5 315 2 4 := FL_of (ref := "Spliceroom$Loan") (WALL_at 1174 (by decide +kernel) rfl) rfl
theorem ml_La_221 : Cond.methodLink RL 221 yL_show ∈ WALL := WALL_at 1186 (by decide +kernel) rfl
theorem ml_La_106 : Cond.methodLink RL 106 yX5_show ∈ WALL := WALL_at 1189 (by decide +kernel) rfl
theorem ml_Sp_311 : Cond.methodLink RX5 311 yX5_loanNumbered ∈ WALL := WALL_at 1193 (by decide +kernel) rfl
theorem ml_La_224 : Cond.methodLink RL 224 yL_giveBack ∈ WALL := WALL_at 1199 (by decide +kernel) rfl
theorem ml_La_109 : Cond.methodLink RL 109 yX5_giveBack ∈ WALL := WALL_at 1202 (by decide +kernel) rfl
theorem ml_La_227 : Cond.methodLink RL 227 yL_advance ∈ WALL := WALL_at 1207 (by decide +kernel) rfl
theorem ml_La_112 : Cond.methodLink RL 112 yX5_advance ∈ WALL := WALL_at 1210 (by decide +kernel) rfl
theorem ml_La_235 : Cond.methodLink RL 235 yL_keptShare ∈ WALL := WALL_at 1215 (by decide +kernel) rfl
theorem cl_La_119 : Cond.classLink RL 119 "java/lang/ArithmeticException" ∈ WALL := WALL_at 1218 (by decide +kernel) rfl
theorem ml_La_115 : Cond.methodLink RL 115 yX5_keptShare ∈ WALL := WALL_at 1232 (by decide +kernel) rfl
theorem cl_Sp_334 : Cond.classLink RX5 334 "java/lang/ArithmeticException" ∈ WALL := WALL_at 1236 (by decide +kernel) rfl
theorem ml_Sp_338 : Cond.methodLink RX5 338 (⟨"java/lang/ArithmeticException", "<init>", "(Ljava/lang/String;)V"⟩ : MethodName) ∈ WALL := WALL_at 1238 (by decide +kernel) rfl
theorem ml_La_239 : Cond.methodLink RL 239 yL_meanWear ∈ WALL := WALL_at 1239 (by decide +kernel) rfl
theorem ml_La_121 : Cond.methodLink RL 121 yX5_meanWear ∈ WALL := WALL_at 1242 (by decide +kernel) rfl
theorem ml_Sp_339 : Cond.methodLink RX5 339 yX2_wearSum ∈ WALL := WALL_at 1246 (by decide +kernel) rfl
theorem cl_La_126 : Cond.classLink RL 126 RX6 ∈ WALL := WALL_at 1251 (by decide +kernel) rfl
theorem nw_Mo : Cond.instantiable RX6 31 ∈ WALL ∧ Cond.initialized RX6 ∈ WALL := ⟨WALL_at 1252 (by decide +kernel) rfl, WALL_at 55 (by decide +kernel) rfl⟩
theorem ml_La_128 : Cond.methodLink RL 128 yX6_init ∈ WALL := WALL_at 1253 (by decide +kernel) rfl
theorem ml_Mo_1 : Cond.methodLink RX6 1 objectInit ∈ WALL := WALL_at 1256 (by decide +kernel) rfl
theorem fl_Mo_81 : FL RX6 81 7 0 := FL_of (ref := "SpliceroomModel") (WALL_at 1257 (by decide +kernel) rfl) rfl
theorem fl_Mo_84 : FL RX6 84 7 1 := FL_of (ref := "SpliceroomModel") (WALL_at 1258 (by decide +kernel) rfl) rfl
theorem fl_Mo_7 : FL RX6 7 7 2 := FL_of (ref := "SpliceroomModel") (WALL_at 1259 (by decide +kernel) rfl) rfl
theorem fl_Mo_13 : FL RX6 13 7 3 := FL_of (ref := "SpliceroomModel") (WALL_at 1260 (by decide +kernel) rfl) rfl
theorem fl_Mo_16 : FL RX6 16 7 4 := FL_of (ref := "SpliceroomModel") (WALL_at 1261 (by decide +kernel) rfl) rfl
theorem fl_Mo_19 : FL RX6 19 7 5 := FL_of (ref := "SpliceroomModel") (WALL_at 1262 (by decide +kernel) rfl) rfl
theorem fl_Mo_22 : FL RX6 22 7 6 := FL_of (ref := "SpliceroomModel") (WALL_at 1263 (by decide +kernel) rfl) rfl
theorem fl_Mo_25 : FL RX6 25 7 7 := FL_of (ref := "SpliceroomModel") (WALL_at 1264 (by decide +kernel) rfl) rfl
theorem fl_Mo_28 : FL RX6 28 7 8 := FL_of (ref := "SpliceroomModel") (WALL_at 1265 (by decide +kernel) rfl) rfl
theorem fl_Mo_31 : FL RX6 31 7 9 := FL_of (ref := "SpliceroomModel") (WALL_at 1266 (by decide +kernel) rfl) rfl
theorem fl_Mo_34 : FL RX6 34 7 10 := FL_of (ref := "SpliceroomModel") (WALL_at 1267 (by decide +kernel) rfl) rfl
theorem fl_Mo_37 : FL RX6 37 7 11 := FL_of (ref := "SpliceroomModel") (WALL_at 1268 (by decide +kernel) rfl) rfl
theorem fl_Mo_91 : FL RX6 91 7 12 := FL_of (ref := "SpliceroomModel") (WALL_at 1269 (by decide +kernel) rfl) rfl
theorem fl_Mo_40 : FL RX6 40 7 13 := FL_of (ref := "SpliceroomModel") (WALL_at 1270 (by decide +kernel) rfl) rfl
theorem fl_Mo_43 : FL RX6 43 7 14 := FL_of (ref := "SpliceroomModel") (WALL_at 1271 (by decide +kernel) rfl) rfl
theorem fl_Mo_46 : FL RX6 46 7 15 := FL_of (ref := "SpliceroomModel") (WALL_at 1272 (by decide +kernel) rfl) rfl
theorem fl_Mo_49 : FL RX6 49 7 16 := FL_of (ref := "SpliceroomModel") (WALL_at 1273 (by decide +kernel) rfl) rfl
theorem fl_Mo_94 : FL RX6 94 7 17 := FL_of (ref := "SpliceroomModel") (WALL_at 1274 (by decide +kernel) rfl) rfl
theorem fl_Mo_52 : FL RX6 52 7 18 := FL_of (ref := "SpliceroomModel") (WALL_at 1275 (by decide +kernel) rfl) rfl
theorem fl_Mo_56 : FL RX6 56 7 19 := FL_of (ref := "SpliceroomModel") (WALL_at 1276 (by decide +kernel) rfl) rfl
theorem fl_Mo_59 : FL RX6 59 7 20 := FL_of (ref := "SpliceroomModel") (WALL_at 1277 (by decide +kernel) rfl) rfl
theorem fl_Mo_97 : FL RX6 97 7 21 := FL_of (ref := "SpliceroomModel") (WALL_at 1278 (by decide +kernel) rfl) rfl
theorem fl_Mo_62 : FL RX6 62 7 22 := FL_of (ref := "SpliceroomModel") (WALL_at 1279 (by decide +kernel) rfl) rfl
theorem fl_Mo_65 : FL RX6 65 7 23 := FL_of (ref := "SpliceroomModel") (WALL_at 1280 (by decide +kernel) rfl) rfl
theorem fl_Mo_68 : FL RX6 68 7 24 := FL_of (ref := "SpliceroomModel") (WALL_at 1281 (by decide +kernel) rfl) rfl
theorem fl_Mo_71 : FL RX6 71 7 25 := FL_of (ref := "SpliceroomModel") (WALL_at 1282 (by decide +kernel) rfl) rfl
theorem fl_Mo_74 : FL RX6 74 7 26 := FL_of (ref := "SpliceroomModel") (WALL_at 1283 (by decide +kernel) rfl) rfl
theorem fl_Mo_77 : FL RX6 77 7 27 := FL_of (ref := "SpliceroomModel") (WALL_at 1284 (by decide +kernel) rfl) rfl
theorem fl_Mo_100 : FL RX6 100 7 28 := FL_of (ref := "SpliceroomModel") (WALL_at 1285 (by decide +kernel) rfl) rfl
theorem fl_Mo_181 : FL RX6 181 7 29 := FL_of (ref := "SpliceroomModel") (WALL_at 1286 (by decide +kernel) rfl) rfl
theorem fl_Mo_152 : FL RX6 152 7 30 := FL_of (ref := "SpliceroomModel") (WALL_at 1287 (by decide +kernel) rfl) rfl
theorem ml_La_135 : Cond.methodLink RL 135 yX6_thrown ∈ WALL := WALL_at 1353 (by decide +kernel) rfl
theorem ml_La_134 : Cond.methodLink RL 134 yX6_addFilm ∈ WALL := WALL_at 1357 (by decide +kernel) rfl
theorem ml_Mo_103 : Cond.methodLink RX6 103 yX6_goesOn ∈ WALL := WALL_at 1361 (by decide +kernel) rfl
theorem ml_La_141 : Cond.methodLink RL 141 yX6_addShot ∈ WALL := WALL_at 1365 (by decide +kernel) rfl
theorem ml_Mo_107 : Cond.methodLink RX6 107 yX6_isFilm ∈ WALL := WALL_at 1369 (by decide +kernel) rfl
theorem ml_Mo_87 : Cond.methodLink RX6 87 yX6_in ∈ WALL := WALL_at 1373 (by decide +kernel) rfl
theorem ml_Mo_110 : Cond.methodLink RX6 110 yX6_areFine ∈ WALL := WALL_at 1376 (by decide +kernel) rfl
theorem ml_Mo_114 : Cond.methodLink RX6 114 yX6_makes ∈ WALL := WALL_at 1379 (by decide +kernel) rfl
theorem ml_La_145 : Cond.methodLink RL 145 yX6_addReel ∈ WALL := WALL_at 1383 (by decide +kernel) rfl
theorem ml_La_149 : Cond.methodLink RL 149 yX6_put ∈ WALL := WALL_at 1387 (by decide +kernel) rfl
theorem ml_Mo_118 : Cond.methodLink RX6 118 yX6_isReel ∈ WALL := WALL_at 1391 (by decide +kernel) rfl
theorem ml_Mo_121 : Cond.methodLink RX6 121 yX6_isShot ∈ WALL := WALL_at 1395 (by decide +kernel) rfl
theorem ml_Mo_124 : Cond.methodLink RX6 124 yX6_placeOf ∈ WALL := WALL_at 1399 (by decide +kernel) rfl
theorem ml_Mo_128 : Cond.methodLink RX6 128 yX6_lastOf ∈ WALL := WALL_at 1403 (by decide +kernel) rfl
theorem ml_Mo_131 : Cond.methodLink RX6 131 yX6_isLent ∈ WALL := WALL_at 1407 (by decide +kernel) rfl
theorem ml_Mo_134 : Cond.methodLink RX6 134 yX6_adds ∈ WALL := WALL_at 1411 (by decide +kernel) rfl
theorem ml_La_153 : Cond.methodLink RL 153 yX6_found ∈ WALL := WALL_at 1415 (by decide +kernel) rfl
theorem ml_La_156 : Cond.methodLink RL 156 yX6_join ∈ WALL := WALL_at 1419 (by decide +kernel) rfl
theorem ml_La_159 : Cond.methodLink RL 159 yX6_shots ∈ WALL := WALL_at 1423 (by decide +kernel) rfl
theorem ml_La_162 : Cond.methodLink RL 162 yX6_shotOf ∈ WALL := WALL_at 1427 (by decide +kernel) rfl
theorem ml_La_165 : Cond.methodLink RL 165 yX6_lengthOf ∈ WALL := WALL_at 1431 (by decide +kernel) rfl
theorem ml_La_168 : Cond.methodLink RL 168 yX6_frameOf ∈ WALL := WALL_at 1435 (by decide +kernel) rfl
theorem ml_Mo_138 : Cond.methodLink RX6 138 yX6_framesAhead ∈ WALL := WALL_at 1439 (by decide +kernel) rfl
theorem ml_La_171 : Cond.methodLink RL 171 yX6_shotAt ∈ WALL := WALL_at 1443 (by decide +kernel) rfl
theorem ml_Mo_142 : Cond.methodLink RX6 142 yX6_shotWith ∈ WALL := WALL_at 1447 (by decide +kernel) rfl
theorem ml_La_174 : Cond.methodLink RL 174 yX6_reelOf ∈ WALL := WALL_at 1451 (by decide +kernel) rfl
theorem ml_La_177 : Cond.methodLink RL 177 yX6_setLimit ∈ WALL := WALL_at 1455 (by decide +kernel) rfl
theorem ml_Mo_145 : Cond.methodLink RX6 145 yX6_greatest ∈ WALL := WALL_at 1459 (by decide +kernel) rfl
theorem ml_Mo_148 : Cond.methodLink RX6 148 yX6_hasLoan ∈ WALL := WALL_at 1463 (by decide +kernel) rfl
theorem ml_La_180 : Cond.methodLink RL 180 yX6_run ∈ WALL := WALL_at 1467 (by decide +kernel) rfl
theorem ml_Mo_159 : Cond.methodLink RX6 159 yX6_bears ∈ WALL := WALL_at 1471 (by decide +kernel) rfl
theorem ml_Mo_162 : Cond.methodLink RX6 162 yX6_wears ∈ WALL := WALL_at 1475 (by decide +kernel) rfl
theorem ml_Mo_156 : Cond.methodLink RX6 156 yX6_framesOn ∈ WALL := WALL_at 1479 (by decide +kernel) rfl
theorem ml_La_183 : Cond.methodLink RL 183 yX6_wear ∈ WALL := WALL_at 1483 (by decide +kernel) rfl
theorem ml_Mo_166 : Cond.methodLink RX6 166 yX6_isSplice ∈ WALL := WALL_at 1487 (by decide +kernel) rfl
theorem ml_La_186 : Cond.methodLink RL 186 yX6_mend ∈ WALL := WALL_at 1491 (by decide +kernel) rfl
theorem ml_La_189 : Cond.methodLink RL 189 yX6_scan ∈ WALL := WALL_at 1495 (by decide +kernel) rfl
theorem ml_Mo_169 : Cond.methodLink RX6 169 yX6_isWorn ∈ WALL := WALL_at 1499 (by decide +kernel) rfl
theorem ml_La_192 : Cond.methodLink RL 192 yX6_scanned ∈ WALL := WALL_at 1503 (by decide +kernel) rfl
theorem ml_La_195 : Cond.methodLink RL 195 yX6_missed ∈ WALL := WALL_at 1507 (by decide +kernel) rfl
theorem ml_La_198 : Cond.methodLink RL 198 yX6_grade ∈ WALL := WALL_at 1511 (by decide +kernel) rfl
theorem ml_Mo_172 : Cond.methodLink RX6 172 yX6_gradeNow ∈ WALL := WALL_at 1515 (by decide +kernel) rfl
theorem ml_La_201 : Cond.methodLink RL 201 yX6_passOn ∈ WALL := WALL_at 1519 (by decide +kernel) rfl
theorem ml_La_204 : Cond.methodLink RL 204 yX6_gradeOf ∈ WALL := WALL_at 1523 (by decide +kernel) rfl
theorem ml_La_207 : Cond.methodLink RL 207 yX6_gradeFrom ∈ WALL := WALL_at 1527 (by decide +kernel) rfl
theorem ml_La_210 : Cond.methodLink RL 210 yX6_addVersion ∈ WALL := WALL_at 1531 (by decide +kernel) rfl
theorem ml_La_214 : Cond.methodLink RL 214 yX6_leaveOut ∈ WALL := WALL_at 1535 (by decide +kernel) rfl
theorem ml_Mo_175 : Cond.methodLink RX6 175 yX6_isVersion ∈ WALL := WALL_at 1539 (by decide +kernel) rfl
theorem ml_Mo_178 : Cond.methodLink RX6 178 yX6_isOutOf ∈ WALL := WALL_at 1543 (by decide +kernel) rfl
theorem ml_La_217 : Cond.methodLink RL 217 yX6_frames ∈ WALL := WALL_at 1547 (by decide +kernel) rfl
theorem ml_La_220 : Cond.methodLink RL 220 yX6_lend ∈ WALL := WALL_at 1551 (by decide +kernel) rfl
theorem ml_La_223 : Cond.methodLink RL 223 yX6_show ∈ WALL := WALL_at 1555 (by decide +kernel) rfl
theorem ml_Mo_184 : Cond.methodLink RX6 184 yX6_isLoan ∈ WALL := WALL_at 1559 (by decide +kernel) rfl
theorem ml_La_226 : Cond.methodLink RL 226 yX6_giveBack ∈ WALL := WALL_at 1563 (by decide +kernel) rfl
theorem ml_La_229 : Cond.methodLink RL 229 yX6_advance ∈ WALL := WALL_at 1567 (by decide +kernel) rfl
theorem ml_La_234 : Cond.methodLink RL 234 yX6_shown ∈ WALL := WALL_at 1571 (by decide +kernel) rfl
theorem ml_La_238 : Cond.methodLink RL 238 yX6_keptShare ∈ WALL := WALL_at 1575 (by decide +kernel) rfl
theorem ml_La_241 : Cond.methodLink RL 241 yX6_meanWear ∈ WALL := WALL_at 1579 (by decide +kernel) rfl
theorem ml_La_246 : Cond.methodLink RL 246 yX6_isSound ∈ WALL := WALL_at 1583 (by decide +kernel) rfl
theorem cal_X5_init : Cal yX5_init cX5_init 1 none 0 := ⟨by decide +kernel, ⟨by decide +kernel, by decide +kernel, by decide +kernel⟩, WALL_at 89 (by decide +kernel) rfl, WALL_at 51 (by decide +kernel) rfl⟩
theorem in_X5_init : Cond.instanceMethod yX5_init ∈ WALL := WALL_at 88 (by decide +kernel) rfl
theorem cal_Jx4a65c_init_da8c8 : Cal yJx4a65c_init_da8c8 cJx4a65c_init_da8c8 1 none 0 := ⟨by decide +kernel, ⟨by decide +kernel, by decide +kernel, by decide +kernel⟩, WALL_at 97 (by decide +kernel) rfl, WALL_at 54 (by decide +kernel) rfl⟩
theorem in_Jx4a65c_init_da8c8 : Cond.instanceMethod yJx4a65c_init_da8c8 ∈ WALL := WALL_at 96 (by decide +kernel) rfl
theorem cal_Jxc12de_init_da8c8 : Cal yJxc12de_init_da8c8 cJxc12de_init_da8c8 1 none 0 := ⟨by decide +kernel, ⟨by decide +kernel, by decide +kernel, by decide +kernel⟩, WALL_at 100 (by decide +kernel) rfl, WALL_at 53 (by decide +kernel) rfl⟩
theorem in_Jxc12de_init_da8c8 : Cond.instanceMethod yJxc12de_init_da8c8 ∈ WALL := WALL_at 99 (by decide +kernel) rfl
theorem cal_Jxa1e45_init_da8c8 : Cal yJxa1e45_init_da8c8 cJxa1e45_init_da8c8 1 none 0 := ⟨by decide +kernel, ⟨by decide +kernel, by decide +kernel, by decide +kernel⟩, WALL_at 103 (by decide +kernel) rfl, WALL_at 52 (by decide +kernel) rfl⟩
theorem in_Jxa1e45_init_da8c8 : Cond.instanceMethod yJxa1e45_init_da8c8 ∈ WALL := WALL_at 102 (by decide +kernel) rfl
theorem cal_X5_shown : Cal yX5_shown cX5_shown 1 (some FieldType.long) 0 := ⟨by decide +kernel, ⟨by decide +kernel, by decide +kernel, by decide +kernel⟩, WALL_at 147 (by decide +kernel) rfl, WALL_at 51 (by decide +kernel) rfl⟩
theorem vi_X5_shown : Cond.instanceMethod yX5_shown ∈ WALL ∧ Cond.selects RX5 yX5_shown yX5_shown ∈ WALL := ⟨WALL_at 145 (by decide +kernel) rfl, WALL_at 146 (by decide +kernel) rfl⟩
theorem cal_X5_isSound : Cal yX5_isSound cX5_isSound 1 (some FieldType.boolean) 0 := ⟨by decide +kernel, ⟨by decide +kernel, by decide +kernel, by decide +kernel⟩, WALL_at 151 (by decide +kernel) rfl, WALL_at 51 (by decide +kernel) rfl⟩
theorem vi_X5_isSound : Cond.instanceMethod yX5_isSound ∈ WALL ∧ Cond.selects RX5 yX5_isSound yX5_isSound ∈ WALL := ⟨WALL_at 149 (by decide +kernel) rfl, WALL_at 150 (by decide +kernel) rfl⟩
theorem cal_X5_isWearWithin : Cal yX5_isWearWithin cX5_isWearWithin 3 (some FieldType.boolean) 1 := ⟨by decide +kernel, ⟨by decide +kernel, by decide +kernel, by decide +kernel⟩, WALL_at 155 (by decide +kernel) rfl, WALL_at 51 (by decide +kernel) rfl⟩
theorem vi_X5_isWearWithin : Cond.instanceMethod yX5_isWearWithin ∈ WALL ∧ Cond.selects RX5 yX5_isWearWithin yX5_isWearWithin ∈ WALL := ⟨WALL_at 154 (by decide +kernel) rfl, WALL_at 0 (by decide +kernel) rfl⟩
theorem cal_Jx4a65c_size_8abf5 : Cal yJx4a65c_size_8abf5 cJx4a65c_size_8abf5 1 (some FieldType.int) 0 := ⟨by decide +kernel, ⟨by decide +kernel, by decide +kernel, by decide +kernel⟩, WALL_at 159 (by decide +kernel) rfl, WALL_at 54 (by decide +kernel) rfl⟩
theorem vi_Jx4a65c_size_8abf5 : Cond.instanceMethod yJx4a65c_size_8abf5 ∈ WALL ∧ Cond.selects RJx4a65c yJx4a65c_size_8abf5 yJx4a65c_size_8abf5 ∈ WALL := ⟨WALL_at 157 (by decide +kernel) rfl, WALL_at 158 (by decide +kernel) rfl⟩
theorem cal_Jx4a65c_get_915e3 : Cal yJx4a65c_get_915e3 cJx4a65c_get_915e3 2 (some (FieldType.object "java/lang/Object")) 1 := ⟨by decide +kernel, ⟨by decide +kernel, by decide +kernel, by decide +kernel⟩, WALL_at 163 (by decide +kernel) rfl, WALL_at 54 (by decide +kernel) rfl⟩
theorem vi_Jx4a65c_get_915e3 : Cond.instanceMethod yJx4a65c_get_915e3 ∈ WALL ∧ Cond.selects RJx4a65c yJx4a65c_get_915e3 yJx4a65c_get_915e3 ∈ WALL := ⟨WALL_at 161 (by decide +kernel) rfl, WALL_at 162 (by decide +kernel) rfl⟩
theorem cal_J15_checkIndex_7cf53 : Cal yJ15_checkIndex_7cf53 cJ15_checkIndex_7cf53 2 (some FieldType.int) 2 := ⟨by decide +kernel, ⟨by decide +kernel, by decide +kernel, by decide +kernel⟩, WALL_at 166 (by decide +kernel) rfl, WALL_at 68 (by decide +kernel) rfl⟩
theorem st_J15_checkIndex_7cf53 : Cond.static yJ15_checkIndex_7cf53 ∈ WALL := WALL_at 165 (by decide +kernel) rfl
theorem cal_J3_checkIndex_8e157 : Cal yJ3_checkIndex_8e157 cJ3_checkIndex_8e157 3 (some FieldType.int) 3 := ⟨by decide +kernel, ⟨by decide +kernel, by decide +kernel, by decide +kernel⟩, WALL_at 169 (by decide +kernel) rfl, WALL_at 69 (by decide +kernel) rfl⟩
theorem st_J3_checkIndex_8e157 : Cond.static yJ3_checkIndex_8e157 ∈ WALL := WALL_at 168 (by decide +kernel) rfl
theorem cal_Jx4a65c_elementData_915e3 : Cal yJx4a65c_elementData_915e3 cJx4a65c_elementData_915e3 2 (some (FieldType.object "java/lang/Object")) 1 := ⟨by decide +kernel, ⟨by decide +kernel, by decide +kernel, by decide +kernel⟩, WALL_at 173 (by decide +kernel) rfl, WALL_at 54 (by decide +kernel) rfl⟩
theorem vi_Jx4a65c_elementData_915e3 : Cond.instanceMethod yJx4a65c_elementData_915e3 ∈ WALL ∧ Cond.selects RJx4a65c yJx4a65c_elementData_915e3 yJx4a65c_elementData_915e3 ∈ WALL := ⟨WALL_at 171 (by decide +kernel) rfl, WALL_at 172 (by decide +kernel) rfl⟩
theorem cal_X2_canTake : Cal yX2_canTake cX2_canTake 4 (some FieldType.boolean) 2 := ⟨by decide +kernel, ⟨by decide +kernel, by decide +kernel, by decide +kernel⟩, WALL_at 178 (by decide +kernel) rfl, WALL_at 72 (by decide +kernel) rfl⟩
theorem vi_X2_canTake : Cond.instanceMethod yX2_canTake ∈ WALL ∧ Cond.selects RX2 yX2_canTake yX2_canTake ∈ WALL := ⟨WALL_at 176 (by decide +kernel) rfl, WALL_at 177 (by decide +kernel) rfl⟩
theorem cal_X5_arePassedGradesSound : Cal yX5_arePassedGradesSound cX5_arePassedGradesSound 4 (some FieldType.boolean) 0 := ⟨by decide +kernel, ⟨by decide +kernel, by decide +kernel, by decide +kernel⟩, WALL_at 185 (by decide +kernel) rfl, WALL_at 51 (by decide +kernel) rfl⟩
theorem vi_X5_arePassedGradesSound : Cond.instanceMethod yX5_arePassedGradesSound ∈ WALL ∧ Cond.selects RX5 yX5_arePassedGradesSound yX5_arePassedGradesSound ∈ WALL := ⟨WALL_at 184 (by decide +kernel) rfl, WALL_at 1 (by decide +kernel) rfl⟩
theorem cal_X3_canHavePassedTo : Cal yX3_canHavePassedTo cX3_canHavePassedTo 2 (some FieldType.boolean) 1 := ⟨by decide +kernel, ⟨by decide +kernel, by decide +kernel, by decide +kernel⟩, WALL_at 190 (by decide +kernel) rfl, WALL_at 71 (by decide +kernel) rfl⟩
theorem vi_X3_canHavePassedTo : Cond.instanceMethod yX3_canHavePassedTo ∈ WALL ∧ Cond.selects RX3 yX3_canHavePassedTo yX3_canHavePassedTo ∈ WALL := ⟨WALL_at 188 (by decide +kernel) rfl, WALL_at 189 (by decide +kernel) rfl⟩
theorem cal_X3_currentGrade : Cal yX3_currentGrade cX3_currentGrade 1 (some FieldType.int) 0 := ⟨by decide +kernel, ⟨by decide +kernel, by decide +kernel, by decide +kernel⟩, WALL_at 194 (by decide +kernel) rfl, WALL_at 71 (by decide +kernel) rfl⟩
theorem vi_X3_currentGrade : Cond.instanceMethod yX3_currentGrade ∈ WALL ∧ Cond.selects RX3 yX3_currentGrade yX3_currentGrade ∈ WALL := ⟨WALL_at 192 (by decide +kernel) rfl, WALL_at 193 (by decide +kernel) rfl⟩
theorem cal_X5_areVersionLengthsSound : Cal yX5_areVersionLengthsSound cX5_areVersionLengthsSound 3 (some FieldType.boolean) 0 := ⟨by decide +kernel, ⟨by decide +kernel, by decide +kernel, by decide +kernel⟩, WALL_at 198 (by decide +kernel) rfl, WALL_at 51 (by decide +kernel) rfl⟩
theorem vi_X5_areVersionLengthsSound : Cond.instanceMethod yX5_areVersionLengthsSound ∈ WALL ∧ Cond.selects RX5 yX5_areVersionLengthsSound yX5_areVersionLengthsSound ∈ WALL := ⟨WALL_at 197 (by decide +kernel) rfl, WALL_at 2 (by decide +kernel) rfl⟩
theorem cal_X4_lengthByShots : Cal yX4_lengthByShots cX4_lengthByShots 4 (some FieldType.int) 0 := ⟨by decide +kernel, ⟨by decide +kernel, by decide +kernel, by decide +kernel⟩, WALL_at 203 (by decide +kernel) rfl, WALL_at 81 (by decide +kernel) rfl⟩
theorem vi_X4_lengthByShots : Cond.instanceMethod yX4_lengthByShots ∈ WALL ∧ Cond.selects RX4 yX4_lengthByShots yX4_lengthByShots ∈ WALL := ⟨WALL_at 201 (by decide +kernel) rfl, WALL_at 202 (by decide +kernel) rfl⟩
theorem cal_X3_keptFrames : Cal yX3_keptFrames cX3_keptFrames 1 (some FieldType.int) 0 := ⟨by decide +kernel, ⟨by decide +kernel, by decide +kernel, by decide +kernel⟩, WALL_at 210 (by decide +kernel) rfl, WALL_at 71 (by decide +kernel) rfl⟩
theorem vi_X3_keptFrames : Cond.instanceMethod yX3_keptFrames ∈ WALL ∧ Cond.selects RX3 yX3_keptFrames yX3_keptFrames ∈ WALL := ⟨WALL_at 208 (by decide +kernel) rfl, WALL_at 209 (by decide +kernel) rfl⟩
theorem cal_X4_leftOutOf : Cal yX4_leftOutOf cX4_leftOutOf 5 (some FieldType.int) 1 := ⟨by decide +kernel, ⟨by decide +kernel, by decide +kernel, by decide +kernel⟩, WALL_at 214 (by decide +kernel) rfl, WALL_at 81 (by decide +kernel) rfl⟩
theorem vi_X4_leftOutOf : Cond.instanceMethod yX4_leftOutOf ∈ WALL ∧ Cond.selects RX4 yX4_leftOutOf yX4_leftOutOf ∈ WALL := ⟨WALL_at 212 (by decide +kernel) rfl, WALL_at 213 (by decide +kernel) rfl⟩
theorem cal_J13_bitCount_95d88 : Cal yJ13_bitCount_95d88 cJ13_bitCount_95d88 2 (some FieldType.int) 1 := ⟨by decide +kernel, ⟨by decide +kernel, by decide +kernel, by decide +kernel⟩, WALL_at 217 (by decide +kernel) rfl, WALL_at 82 (by decide +kernel) rfl⟩
theorem st_J13_bitCount_95d88 : Cond.static yJ13_bitCount_95d88 ∈ WALL := WALL_at 216 (by decide +kernel) rfl
theorem cal_X4_lengthByFrames : Cal yX4_lengthByFrames cX4_lengthByFrames 6 (some FieldType.int) 0 := ⟨by decide +kernel, ⟨by decide +kernel, by decide +kernel, by decide +kernel⟩, WALL_at 224 (by decide +kernel) rfl, WALL_at 81 (by decide +kernel) rfl⟩
theorem vi_X4_lengthByFrames : Cond.instanceMethod yX4_lengthByFrames ∈ WALL ∧ Cond.selects RX4 yX4_lengthByFrames yX4_lengthByFrames ∈ WALL := ⟨WALL_at 222 (by decide +kernel) rfl, WALL_at 223 (by decide +kernel) rfl⟩
theorem cal_X4_isLeftOut : Cal yX4_isLeftOut cX4_isLeftOut 4 (some FieldType.boolean) 2 := ⟨by decide +kernel, ⟨by decide +kernel, by decide +kernel, by decide +kernel⟩, WALL_at 228 (by decide +kernel) rfl, WALL_at 81 (by decide +kernel) rfl⟩
theorem vi_X4_isLeftOut : Cond.instanceMethod yX4_isLeftOut ∈ WALL ∧ Cond.selects RX4 yX4_isLeftOut yX4_isLeftOut ∈ WALL := ⟨WALL_at 226 (by decide +kernel) rfl, WALL_at 227 (by decide +kernel) rfl⟩
theorem st_L_addFilm : Cond.static yL_addFilm ∈ WALL := WALL_at 230 (by decide +kernel) rfl
theorem cal_X5_addFilm : Cal yX5_addFilm cX5_addFilm 1 (some FieldType.int) 0 := ⟨by decide +kernel, ⟨by decide +kernel, by decide +kernel, by decide +kernel⟩, WALL_at 236 (by decide +kernel) rfl, WALL_at 51 (by decide +kernel) rfl⟩
theorem vi_X5_addFilm : Cond.instanceMethod yX5_addFilm ∈ WALL ∧ Cond.selects RX5 yX5_addFilm yX5_addFilm ∈ WALL := ⟨WALL_at 234 (by decide +kernel) rfl, WALL_at 235 (by decide +kernel) rfl⟩
theorem cal_X0_init : Cal yX0_init cX0_init 1 none 0 := ⟨by decide +kernel, ⟨by decide +kernel, by decide +kernel, by decide +kernel⟩, WALL_at 313 (by decide +kernel) rfl, WALL_at 60 (by decide +kernel) rfl⟩
theorem in_X0_init : Cond.instanceMethod yX0_init ∈ WALL := WALL_at 312 (by decide +kernel) rfl
theorem cal_Jx4a65c_add_9ea2d : Cal yJx4a65c_add_9ea2d cJx4a65c_add_9ea2d 2 (some FieldType.boolean) 1 := ⟨by decide +kernel, ⟨by decide +kernel, by decide +kernel, by decide +kernel⟩, WALL_at 329 (by decide +kernel) rfl, WALL_at 54 (by decide +kernel) rfl⟩
theorem vi_Jx4a65c_add_9ea2d : Cond.instanceMethod yJx4a65c_add_9ea2d ∈ WALL ∧ Cond.selects RJx4a65c yJx4a65c_add_9ea2d yJx4a65c_add_9ea2d ∈ WALL := ⟨WALL_at 327 (by decide +kernel) rfl, WALL_at 328 (by decide +kernel) rfl⟩
theorem cal_Jx4a65c_add_72be8 : Cal yJx4a65c_add_72be8 cJx4a65c_add_72be8 4 none 3 := ⟨by decide +kernel, ⟨by decide +kernel, by decide +kernel, by decide +kernel⟩, WALL_at 333 (by decide +kernel) rfl, WALL_at 54 (by decide +kernel) rfl⟩
theorem vi_Jx4a65c_add_72be8 : Cond.instanceMethod yJx4a65c_add_72be8 ∈ WALL ∧ Cond.selects RJx4a65c yJx4a65c_add_72be8 yJx4a65c_add_72be8 ∈ WALL := ⟨WALL_at 332 (by decide +kernel) rfl, WALL_at 4 (by decide +kernel) rfl⟩
theorem cal_Jx4a65c_grow_d5877 : Cal yJx4a65c_grow_d5877 cJx4a65c_grow_d5877 1 (some (FieldType.array (FieldType.object "java/lang/Object"))) 0 := ⟨by decide +kernel, ⟨by decide +kernel, by decide +kernel, by decide +kernel⟩, WALL_at 337 (by decide +kernel) rfl, WALL_at 54 (by decide +kernel) rfl⟩
theorem vi_Jx4a65c_grow_d5877 : Cond.instanceMethod yJx4a65c_grow_d5877 ∈ WALL ∧ Cond.selects RJx4a65c yJx4a65c_grow_d5877 yJx4a65c_grow_d5877 ∈ WALL := ⟨WALL_at 336 (by decide +kernel) rfl, WALL_at 5 (by decide +kernel) rfl⟩
theorem cal_Jx4a65c_grow_92f84 : Cal yJx4a65c_grow_92f84 cJx4a65c_grow_92f84 4 (some (FieldType.array (FieldType.object "java/lang/Object"))) 1 := ⟨by decide +kernel, ⟨by decide +kernel, by decide +kernel, by decide +kernel⟩, WALL_at 341 (by decide +kernel) rfl, WALL_at 54 (by decide +kernel) rfl⟩
theorem vi_Jx4a65c_grow_92f84 : Cond.instanceMethod yJx4a65c_grow_92f84 ∈ WALL ∧ Cond.selects RJx4a65c yJx4a65c_grow_92f84 yJx4a65c_grow_92f84 ∈ WALL := ⟨WALL_at 340 (by decide +kernel) rfl, WALL_at 6 (by decide +kernel) rfl⟩
theorem cal_J8_newLength_cabcc : Cal yJ8_newLength_cabcc cJ8_newLength_cabcc 4 (some FieldType.int) 3 := ⟨by decide +kernel, ⟨by decide +kernel, by decide +kernel, by decide +kernel⟩, WALL_at 344 (by decide +kernel) rfl, WALL_at 61 (by decide +kernel) rfl⟩
theorem st_J8_newLength_cabcc : Cond.static yJ8_newLength_cabcc ∈ WALL := WALL_at 343 (by decide +kernel) rfl
theorem st_J9_max_7cf53 : Cond.static yJ9_max_7cf53 ∈ WALL := WALL_at 346 (by decide +kernel) rfl
theorem cal_J8_hugeLength_7cf53 : Cal yJ8_hugeLength_7cf53 cJ8_hugeLength_7cf53 3 (some FieldType.int) 2 := ⟨by decide +kernel, ⟨by decide +kernel, by decide +kernel, by decide +kernel⟩, WALL_at 351 (by decide +kernel) rfl, WALL_at 61 (by decide +kernel) rfl⟩
theorem st_J8_hugeLength_7cf53 : Cond.static yJ8_hugeLength_7cf53 ∈ WALL := WALL_at 350 (by decide +kernel) rfl
theorem cal_J7_copyOf_1904c : Cal yJ7_copyOf_1904c cJ7_copyOf_1904c 2 (some (FieldType.array (FieldType.object "java/lang/Object"))) 2 := ⟨by decide +kernel, ⟨by decide +kernel, by decide +kernel, by decide +kernel⟩, WALL_at 354 (by decide +kernel) rfl, WALL_at 63 (by decide +kernel) rfl⟩
theorem st_J7_copyOf_1904c : Cond.static yJ7_copyOf_1904c ∈ WALL := WALL_at 353 (by decide +kernel) rfl
theorem cal_J7_copyOf_6403c : Cal yJ7_copyOf_6403c cJ7_copyOf_6403c 4 (some (FieldType.array (FieldType.object "java/lang/Object"))) 3 := ⟨by decide +kernel, ⟨by decide +kernel, by decide +kernel, by decide +kernel⟩, WALL_at 378 (by decide +kernel) rfl, WALL_at 63 (by decide +kernel) rfl⟩
theorem st_J7_copyOf_6403c : Cond.static yJ7_copyOf_6403c ∈ WALL := WALL_at 377 (by decide +kernel) rfl
theorem st_J9_min_7cf53 : Cond.static yJ9_min_7cf53 ∈ WALL := WALL_at 383 (by decide +kernel) rfl
theorem st_L_addShot : Cond.static yL_addShot ∈ WALL := WALL_at 391 (by decide +kernel) rfl
theorem cal_X5_addShot : Cal yX5_addShot cX5_addShot 6 (some FieldType.int) 3 := ⟨by decide +kernel, ⟨by decide +kernel, by decide +kernel, by decide +kernel⟩, WALL_at 421 (by decide +kernel) rfl, WALL_at 51 (by decide +kernel) rfl⟩
theorem vi_X5_addShot : Cond.instanceMethod yX5_addShot ∈ WALL ∧ Cond.selects RX5 yX5_addShot yX5_addShot ∈ WALL := ⟨WALL_at 419 (by decide +kernel) rfl, WALL_at 420 (by decide +kernel) rfl⟩
theorem cal_X5_filmNumbered : Cal yX5_filmNumbered cX5_filmNumbered 2 (some (FieldType.object "Spliceroom$Film")) 1 := ⟨by decide +kernel, ⟨by decide +kernel, by decide +kernel, by decide +kernel⟩, WALL_at 425 (by decide +kernel) rfl, WALL_at 51 (by decide +kernel) rfl⟩
theorem vi_X5_filmNumbered : Cond.instanceMethod yX5_filmNumbered ∈ WALL ∧ Cond.selects RX5 yX5_filmNumbered yX5_filmNumbered ∈ WALL := ⟨WALL_at 424 (by decide +kernel) rfl, WALL_at 7 (by decide +kernel) rfl⟩
theorem cal_X5_requireLengthAndScene : Cal yX5_requireLengthAndScene cX5_requireLengthAndScene 3 none 2 := ⟨by decide +kernel, ⟨by decide +kernel, by decide +kernel, by decide +kernel⟩, WALL_at 442 (by decide +kernel) rfl, WALL_at 51 (by decide +kernel) rfl⟩
theorem vi_X5_requireLengthAndScene : Cond.instanceMethod yX5_requireLengthAndScene ∈ WALL ∧ Cond.selects RX5 yX5_requireLengthAndScene yX5_requireLengthAndScene ∈ WALL := ⟨WALL_at 441 (by decide +kernel) rfl, WALL_at 8 (by decide +kernel) rfl⟩
theorem cal_X5_newShot : Cal yX5_newShot cX5_newShot 5 (some (FieldType.object "Spliceroom$Shot")) 3 := ⟨by decide +kernel, ⟨by decide +kernel, by decide +kernel, by decide +kernel⟩, WALL_at 463 (by decide +kernel) rfl, WALL_at 51 (by decide +kernel) rfl⟩
theorem vi_X5_newShot : Cond.instanceMethod yX5_newShot ∈ WALL ∧ Cond.selects RX5 yX5_newShot yX5_newShot ∈ WALL := ⟨WALL_at 462 (by decide +kernel) rfl, WALL_at 9 (by decide +kernel) rfl⟩
theorem cal_X3_init : Cal yX3_init cX3_init 5 none 4 := ⟨by decide +kernel, ⟨by decide +kernel, by decide +kernel, by decide +kernel⟩, WALL_at 467 (by decide +kernel) rfl, WALL_at 71 (by decide +kernel) rfl⟩
theorem in_X3_init : Cond.instanceMethod yX3_init ∈ WALL := WALL_at 466 (by decide +kernel) rfl
theorem st_L_addReel : Cond.static yL_addReel ∈ WALL := WALL_at 515 (by decide +kernel) rfl
theorem cal_X5_addReel : Cal yX5_addReel cX5_addReel 3 (some FieldType.int) 1 := ⟨by decide +kernel, ⟨by decide +kernel, by decide +kernel, by decide +kernel⟩, WALL_at 520 (by decide +kernel) rfl, WALL_at 51 (by decide +kernel) rfl⟩
theorem vi_X5_addReel : Cond.instanceMethod yX5_addReel ∈ WALL ∧ Cond.selects RX5 yX5_addReel yX5_addReel ∈ WALL := ⟨WALL_at 518 (by decide +kernel) rfl, WALL_at 519 (by decide +kernel) rfl⟩
theorem cal_X5_newReel : Cal yX5_newReel cX5_newReel 3 (some (FieldType.object "Spliceroom$Reel")) 1 := ⟨by decide +kernel, ⟨by decide +kernel, by decide +kernel, by decide +kernel⟩, WALL_at 525 (by decide +kernel) rfl, WALL_at 51 (by decide +kernel) rfl⟩
theorem vi_X5_newReel : Cond.instanceMethod yX5_newReel ∈ WALL ∧ Cond.selects RX5 yX5_newReel yX5_newReel ∈ WALL := ⟨WALL_at 524 (by decide +kernel) rfl, WALL_at 10 (by decide +kernel) rfl⟩
theorem cal_X2_init : Cal yX2_init cX2_init 3 none 2 := ⟨by decide +kernel, ⟨by decide +kernel, by decide +kernel, by decide +kernel⟩, WALL_at 529 (by decide +kernel) rfl, WALL_at 72 (by decide +kernel) rfl⟩
theorem in_X2_init : Cond.instanceMethod yX2_init ∈ WALL := WALL_at 528 (by decide +kernel) rfl
theorem st_L_put : Cond.static yL_put ∈ WALL := WALL_at 547 (by decide +kernel) rfl
theorem cal_X5_put : Cal yX5_put cX5_put 5 (some FieldType.int) 2 := ⟨by decide +kernel, ⟨by decide +kernel, by decide +kernel, by decide +kernel⟩, WALL_at 553 (by decide +kernel) rfl, WALL_at 51 (by decide +kernel) rfl⟩
theorem vi_X5_put : Cond.instanceMethod yX5_put ∈ WALL ∧ Cond.selects RX5 yX5_put yX5_put ∈ WALL := ⟨WALL_at 551 (by decide +kernel) rfl, WALL_at 552 (by decide +kernel) rfl⟩
theorem cal_X5_reelNumbered : Cal yX5_reelNumbered cX5_reelNumbered 2 (some (FieldType.object "Spliceroom$Reel")) 1 := ⟨by decide +kernel, ⟨by decide +kernel, by decide +kernel, by decide +kernel⟩, WALL_at 557 (by decide +kernel) rfl, WALL_at 51 (by decide +kernel) rfl⟩
theorem vi_X5_reelNumbered : Cond.instanceMethod yX5_reelNumbered ∈ WALL ∧ Cond.selects RX5 yX5_reelNumbered yX5_reelNumbered ∈ WALL := ⟨WALL_at 556 (by decide +kernel) rfl, WALL_at 11 (by decide +kernel) rfl⟩
theorem cal_X5_shotNumbered : Cal yX5_shotNumbered cX5_shotNumbered 2 (some (FieldType.object "Spliceroom$Shot")) 1 := ⟨by decide +kernel, ⟨by decide +kernel, by decide +kernel, by decide +kernel⟩, WALL_at 562 (by decide +kernel) rfl, WALL_at 51 (by decide +kernel) rfl⟩
theorem vi_X5_shotNumbered : Cond.instanceMethod yX5_shotNumbered ∈ WALL ∧ Cond.selects RX5 yX5_shotNumbered yX5_shotNumbered ∈ WALL := ⟨WALL_at 561 (by decide +kernel) rfl, WALL_at 12 (by decide +kernel) rfl⟩
theorem cal_X3_isMissing : Cal yX3_isMissing cX3_isMissing 1 (some FieldType.boolean) 0 := ⟨by decide +kernel, ⟨by decide +kernel, by decide +kernel, by decide +kernel⟩, WALL_at 568 (by decide +kernel) rfl, WALL_at 71 (by decide +kernel) rfl⟩
theorem vi_X3_isMissing : Cond.instanceMethod yX3_isMissing ∈ WALL ∧ Cond.selects RX3 yX3_isMissing yX3_isMissing ∈ WALL := ⟨WALL_at 566 (by decide +kernel) rfl, WALL_at 567 (by decide +kernel) rfl⟩
theorem cal_X5_isAheadOfEnd : Cal yX5_isAheadOfEnd cX5_isAheadOfEnd 4 (some FieldType.boolean) 2 := ⟨by decide +kernel, ⟨by decide +kernel, by decide +kernel, by decide +kernel⟩, WALL_at 572 (by decide +kernel) rfl, WALL_at 51 (by decide +kernel) rfl⟩
theorem vi_X5_isAheadOfEnd : Cond.instanceMethod yX5_isAheadOfEnd ∈ WALL ∧ Cond.selects RX5 yX5_isAheadOfEnd yX5_isAheadOfEnd ∈ WALL := ⟨WALL_at 571 (by decide +kernel) rfl, WALL_at 13 (by decide +kernel) rfl⟩
theorem cal_X0_placeOf : Cal yX0_placeOf cX0_placeOf 3 (some FieldType.int) 1 := ⟨by decide +kernel, ⟨by decide +kernel, by decide +kernel, by decide +kernel⟩, WALL_at 576 (by decide +kernel) rfl, WALL_at 60 (by decide +kernel) rfl⟩
theorem vi_X0_placeOf : Cond.instanceMethod yX0_placeOf ∈ WALL ∧ Cond.selects RX0 yX0_placeOf yX0_placeOf ∈ WALL := ⟨WALL_at 574 (by decide +kernel) rfl, WALL_at 575 (by decide +kernel) rfl⟩
theorem cal_X5_requireNotLent : Cal yX5_requireNotLent cX5_requireNotLent 2 none 1 := ⟨by decide +kernel, ⟨by decide +kernel, by decide +kernel, by decide +kernel⟩, WALL_at 598 (by decide +kernel) rfl, WALL_at 51 (by decide +kernel) rfl⟩
theorem vi_X5_requireNotLent : Cond.instanceMethod yX5_requireNotLent ∈ WALL ∧ Cond.selects RX5 yX5_requireNotLent yX5_requireNotLent ∈ WALL := ⟨WALL_at 597 (by decide +kernel) rfl, WALL_at 14 (by decide +kernel) rfl⟩
theorem cal_X2_append : Cal yX2_append cX2_append 2 none 1 := ⟨by decide +kernel, ⟨by decide +kernel, by decide +kernel, by decide +kernel⟩, WALL_at 603 (by decide +kernel) rfl, WALL_at 72 (by decide +kernel) rfl⟩
theorem vi_X2_append : Cond.instanceMethod yX2_append ∈ WALL ∧ Cond.selects RX2 yX2_append yX2_append ∈ WALL := ⟨WALL_at 601 (by decide +kernel) rfl, WALL_at 602 (by decide +kernel) rfl⟩
theorem st_L_found : Cond.static yL_found ∈ WALL := WALL_at 606 (by decide +kernel) rfl
theorem cal_X5_found : Cal yX5_found cX5_found 8 (some FieldType.int) 4 := ⟨by decide +kernel, ⟨by decide +kernel, by decide +kernel, by decide +kernel⟩, WALL_at 611 (by decide +kernel) rfl, WALL_at 51 (by decide +kernel) rfl⟩
theorem vi_X5_found : Cond.instanceMethod yX5_found ∈ WALL ∧ Cond.selects RX5 yX5_found yX5_found ∈ WALL := ⟨WALL_at 609 (by decide +kernel) rfl, WALL_at 610 (by decide +kernel) rfl⟩
theorem cal_Jx4a65c_add_7a177 : Cal yJx4a65c_add_7a177 cJx4a65c_add_7a177 5 none 2 := ⟨by decide +kernel, ⟨by decide +kernel, by decide +kernel, by decide +kernel⟩, WALL_at 617 (by decide +kernel) rfl, WALL_at 54 (by decide +kernel) rfl⟩
theorem vi_Jx4a65c_add_7a177 : Cond.instanceMethod yJx4a65c_add_7a177 ∈ WALL ∧ Cond.selects RJx4a65c yJx4a65c_add_7a177 yJx4a65c_add_7a177 ∈ WALL := ⟨WALL_at 615 (by decide +kernel) rfl, WALL_at 616 (by decide +kernel) rfl⟩
theorem cal_Jx4a65c_rangeCheckForAdd_d00df : Cal yJx4a65c_rangeCheckForAdd_d00df cJx4a65c_rangeCheckForAdd_d00df 2 none 1 := ⟨by decide +kernel, ⟨by decide +kernel, by decide +kernel, by decide +kernel⟩, WALL_at 621 (by decide +kernel) rfl, WALL_at 54 (by decide +kernel) rfl⟩
theorem vi_Jx4a65c_rangeCheckForAdd_d00df : Cond.instanceMethod yJx4a65c_rangeCheckForAdd_d00df ∈ WALL ∧ Cond.selects RJx4a65c yJx4a65c_rangeCheckForAdd_d00df yJx4a65c_rangeCheckForAdd_d00df ∈ WALL := ⟨WALL_at 620 (by decide +kernel) rfl, WALL_at 15 (by decide +kernel) rfl⟩
theorem cal_Jx4a65c_outOfBoundsMsg_b52d3 : Cal yJx4a65c_outOfBoundsMsg_b52d3 cJx4a65c_outOfBoundsMsg_b52d3 2 (some (FieldType.object "java/lang/String")) 1 := ⟨by decide +kernel, ⟨by decide +kernel, by decide +kernel, by decide +kernel⟩, WALL_at 626 (by decide +kernel) rfl, WALL_at 54 (by decide +kernel) rfl⟩
theorem vi_Jx4a65c_outOfBoundsMsg_b52d3 : Cond.instanceMethod yJx4a65c_outOfBoundsMsg_b52d3 ∈ WALL ∧ Cond.selects RJx4a65c yJx4a65c_outOfBoundsMsg_b52d3 yJx4a65c_outOfBoundsMsg_b52d3 ∈ WALL := ⟨WALL_at 625 (by decide +kernel) rfl, WALL_at 16 (by decide +kernel) rfl⟩
theorem cal_J7_copyOf_9075b : Cal yJ7_copyOf_9075b cJ7_copyOf_9075b 3 (some (FieldType.array FieldType.byte)) 2 := ⟨by decide +kernel, ⟨by decide +kernel, by decide +kernel, by decide +kernel⟩, WALL_at 682 (by decide +kernel) rfl, WALL_at 63 (by decide +kernel) rfl⟩
theorem st_J7_copyOf_9075b : Cond.static yJ7_copyOf_9075b ∈ WALL := WALL_at 681 (by decide +kernel) rfl
theorem cal_J3_checkFromToIndex_8c36e : Cal yJ3_checkFromToIndex_8c36e cJ3_checkFromToIndex_8c36e 4 (some FieldType.int) 4 := ⟨by decide +kernel, ⟨by decide +kernel, by decide +kernel, by decide +kernel⟩, WALL_at 711 (by decide +kernel) rfl, WALL_at 69 (by decide +kernel) rfl⟩
theorem st_J3_checkFromToIndex_8c36e : Cond.static yJ3_checkFromToIndex_8c36e ∈ WALL := WALL_at 710 (by decide +kernel) rfl
theorem cal_J3_checkFromIndexSize_8c36e : Cal yJ3_checkFromIndexSize_8c36e cJ3_checkFromIndexSize_8c36e 4 (some FieldType.int) 4 := ⟨by decide +kernel, ⟨by decide +kernel, by decide +kernel, by decide +kernel⟩, WALL_at 757 (by decide +kernel) rfl, WALL_at 69 (by decide +kernel) rfl⟩
theorem st_J3_checkFromIndexSize_8c36e : Cond.static yJ3_checkFromIndexSize_8c36e ∈ WALL := WALL_at 756 (by decide +kernel) rfl
theorem cal_J7_copyOfRange_39247 : Cal yJ7_copyOfRange_39247 cJ7_copyOfRange_39247 3 (some (FieldType.array FieldType.byte)) 3 := ⟨by decide +kernel, ⟨by decide +kernel, by decide +kernel, by decide +kernel⟩, WALL_at 818 (by decide +kernel) rfl, WALL_at 63 (by decide +kernel) rfl⟩
theorem st_J7_copyOfRange_39247 : Cond.static yJ7_copyOfRange_39247 ∈ WALL := WALL_at 817 (by decide +kernel) rfl
theorem cal_J7_copyOfRangeByte_39247 : Cal yJ7_copyOfRangeByte_39247 cJ7_copyOfRangeByte_39247 5 (some (FieldType.array FieldType.byte)) 3 := ⟨by decide +kernel, ⟨by decide +kernel, by decide +kernel, by decide +kernel⟩, WALL_at 821 (by decide +kernel) rfl, WALL_at 63 (by decide +kernel) rfl⟩
theorem st_J7_copyOfRangeByte_39247 : Cond.static yJ7_copyOfRangeByte_39247 ∈ WALL := WALL_at 820 (by decide +kernel) rfl
theorem cal_J7_checkLength_df160 : Cal yJ7_checkLength_df160 cJ7_checkLength_df160 2 none 2 := ⟨by decide +kernel, ⟨by decide +kernel, by decide +kernel, by decide +kernel⟩, WALL_at 824 (by decide +kernel) rfl, WALL_at 63 (by decide +kernel) rfl⟩
theorem st_J7_checkLength_df160 : Cond.static yJ7_checkLength_df160 ∈ WALL := WALL_at 823 (by decide +kernel) rfl
theorem st_L_join : Cond.static yL_join ∈ WALL := WALL_at 856 (by decide +kernel) rfl
theorem cal_X5_join : Cal yX5_join cX5_join 7 (some FieldType.int) 2 := ⟨by decide +kernel, ⟨by decide +kernel, by decide +kernel, by decide +kernel⟩, WALL_at 861 (by decide +kernel) rfl, WALL_at 51 (by decide +kernel) rfl⟩
theorem vi_X5_join : Cond.instanceMethod yX5_join ∈ WALL ∧ Cond.selects RX5 yX5_join yX5_join ∈ WALL := ⟨WALL_at 859 (by decide +kernel) rfl, WALL_at 860 (by decide +kernel) rfl⟩
theorem cal_X5_canBeJoined : Cal yX5_canBeJoined cX5_canBeJoined 3 (some FieldType.boolean) 2 := ⟨by decide +kernel, ⟨by decide +kernel, by decide +kernel, by decide +kernel⟩, WALL_at 866 (by decide +kernel) rfl, WALL_at 51 (by decide +kernel) rfl⟩
theorem vi_X5_canBeJoined : Cond.instanceMethod yX5_canBeJoined ∈ WALL ∧ Cond.selects RX5 yX5_canBeJoined yX5_canBeJoined ∈ WALL := ⟨WALL_at 865 (by decide +kernel) rfl, WALL_at 17 (by decide +kernel) rfl⟩
theorem cal_Jx4a65c_isEmpty_aae02 : Cal yJx4a65c_isEmpty_aae02 cJx4a65c_isEmpty_aae02 1 (some FieldType.boolean) 0 := ⟨by decide +kernel, ⟨by decide +kernel, by decide +kernel, by decide +kernel⟩, WALL_at 870 (by decide +kernel) rfl, WALL_at 54 (by decide +kernel) rfl⟩
theorem vi_Jx4a65c_isEmpty_aae02 : Cond.instanceMethod yJx4a65c_isEmpty_aae02 ∈ WALL ∧ Cond.selects RJx4a65c yJx4a65c_isEmpty_aae02 yJx4a65c_isEmpty_aae02 ∈ WALL := ⟨WALL_at 868 (by decide +kernel) rfl, WALL_at 869 (by decide +kernel) rfl⟩
theorem cal_Jx4a65c_clear_da8c8 : Cal yJx4a65c_clear_da8c8 cJx4a65c_clear_da8c8 4 none 0 := ⟨by decide +kernel, ⟨by decide +kernel, by decide +kernel, by decide +kernel⟩, WALL_at 875 (by decide +kernel) rfl, WALL_at 54 (by decide +kernel) rfl⟩
theorem vi_Jx4a65c_clear_da8c8 : Cond.instanceMethod yJx4a65c_clear_da8c8 ∈ WALL ∧ Cond.selects RJx4a65c yJx4a65c_clear_da8c8 yJx4a65c_clear_da8c8 ∈ WALL := ⟨WALL_at 873 (by decide +kernel) rfl, WALL_at 874 (by decide +kernel) rfl⟩
theorem st_L_shots : Cond.static yL_shots ∈ WALL := WALL_at 877 (by decide +kernel) rfl
theorem cal_X5_shots : Cal yX5_shots cX5_shots 2 (some FieldType.int) 1 := ⟨by decide +kernel, ⟨by decide +kernel, by decide +kernel, by decide +kernel⟩, WALL_at 882 (by decide +kernel) rfl, WALL_at 51 (by decide +kernel) rfl⟩
theorem vi_X5_shots : Cond.instanceMethod yX5_shots ∈ WALL ∧ Cond.selects RX5 yX5_shots yX5_shots ∈ WALL := ⟨WALL_at 880 (by decide +kernel) rfl, WALL_at 881 (by decide +kernel) rfl⟩
theorem st_L_shotOf : Cond.static yL_shotOf ∈ WALL := WALL_at 884 (by decide +kernel) rfl
theorem cal_X5_shotOf : Cal yX5_shotOf cX5_shotOf 4 (some FieldType.int) 2 := ⟨by decide +kernel, ⟨by decide +kernel, by decide +kernel, by decide +kernel⟩, WALL_at 889 (by decide +kernel) rfl, WALL_at 51 (by decide +kernel) rfl⟩
theorem vi_X5_shotOf : Cond.instanceMethod yX5_shotOf ∈ WALL ∧ Cond.selects RX5 yX5_shotOf yX5_shotOf ∈ WALL := ⟨WALL_at 887 (by decide +kernel) rfl, WALL_at 888 (by decide +kernel) rfl⟩
theorem st_L_lengthOf : Cond.static yL_lengthOf ∈ WALL := WALL_at 891 (by decide +kernel) rfl
theorem cal_X5_lengthOf : Cal yX5_lengthOf cX5_lengthOf 2 (some FieldType.int) 1 := ⟨by decide +kernel, ⟨by decide +kernel, by decide +kernel, by decide +kernel⟩, WALL_at 896 (by decide +kernel) rfl, WALL_at 51 (by decide +kernel) rfl⟩
theorem vi_X5_lengthOf : Cond.instanceMethod yX5_lengthOf ∈ WALL ∧ Cond.selects RX5 yX5_lengthOf yX5_lengthOf ∈ WALL := ⟨WALL_at 894 (by decide +kernel) rfl, WALL_at 895 (by decide +kernel) rfl⟩
theorem st_L_frameOf : Cond.static yL_frameOf ∈ WALL := WALL_at 898 (by decide +kernel) rfl
theorem cal_X5_frameOf : Cal yX5_frameOf cX5_frameOf 3 (some FieldType.int) 1 := ⟨by decide +kernel, ⟨by decide +kernel, by decide +kernel, by decide +kernel⟩, WALL_at 904 (by decide +kernel) rfl, WALL_at 51 (by decide +kernel) rfl⟩
theorem vi_X5_frameOf : Cond.instanceMethod yX5_frameOf ∈ WALL ∧ Cond.selects RX5 yX5_frameOf yX5_frameOf ∈ WALL := ⟨WALL_at 902 (by decide +kernel) rfl, WALL_at 903 (by decide +kernel) rfl⟩
theorem cal_X0_framesBefore : Cal yX0_framesBefore cX0_framesBefore 4 (some FieldType.int) 1 := ⟨by decide +kernel, ⟨by decide +kernel, by decide +kernel, by decide +kernel⟩, WALL_at 924 (by decide +kernel) rfl, WALL_at 60 (by decide +kernel) rfl⟩
theorem vi_X0_framesBefore : Cond.instanceMethod yX0_framesBefore ∈ WALL ∧ Cond.selects RX0 yX0_framesBefore yX0_framesBefore ∈ WALL := ⟨WALL_at 922 (by decide +kernel) rfl, WALL_at 923 (by decide +kernel) rfl⟩
theorem st_L_shotAt : Cond.static yL_shotAt ∈ WALL := WALL_at 928 (by decide +kernel) rfl
theorem cal_X5_shotAt : Cal yX5_shotAt cX5_shotAt 7 (some FieldType.int) 2 := ⟨by decide +kernel, ⟨by decide +kernel, by decide +kernel, by decide +kernel⟩, WALL_at 933 (by decide +kernel) rfl, WALL_at 51 (by decide +kernel) rfl⟩
theorem vi_X5_shotAt : Cond.instanceMethod yX5_shotAt ∈ WALL ∧ Cond.selects RX5 yX5_shotAt yX5_shotAt ∈ WALL := ⟨WALL_at 931 (by decide +kernel) rfl, WALL_at 932 (by decide +kernel) rfl⟩
theorem st_L_reelOf : Cond.static yL_reelOf ∈ WALL := WALL_at 937 (by decide +kernel) rfl
theorem cal_X5_reelOf : Cal yX5_reelOf cX5_reelOf 3 (some FieldType.int) 1 := ⟨by decide +kernel, ⟨by decide +kernel, by decide +kernel, by decide +kernel⟩, WALL_at 942 (by decide +kernel) rfl, WALL_at 51 (by decide +kernel) rfl⟩
theorem vi_X5_reelOf : Cond.instanceMethod yX5_reelOf ∈ WALL ∧ Cond.selects RX5 yX5_reelOf yX5_reelOf ∈ WALL := ⟨WALL_at 940 (by decide +kernel) rfl, WALL_at 941 (by decide +kernel) rfl⟩
theorem st_L_setLimit : Cond.static yL_setLimit ∈ WALL := WALL_at 944 (by decide +kernel) rfl
theorem cal_X5_setLimit : Cal yX5_setLimit cX5_setLimit 3 (some FieldType.int) 1 := ⟨by decide +kernel, ⟨by decide +kernel, by decide +kernel, by decide +kernel⟩, WALL_at 949 (by decide +kernel) rfl, WALL_at 51 (by decide +kernel) rfl⟩
theorem vi_X5_setLimit : Cond.instanceMethod yX5_setLimit ∈ WALL ∧ Cond.selects RX5 yX5_setLimit yX5_setLimit ∈ WALL := ⟨WALL_at 947 (by decide +kernel) rfl, WALL_at 948 (by decide +kernel) rfl⟩
theorem cal_X5_isAnyFilmLent : Cal yX5_isAnyFilmLent cX5_isAnyFilmLent 2 (some FieldType.boolean) 0 := ⟨by decide +kernel, ⟨by decide +kernel, by decide +kernel, by decide +kernel⟩, WALL_at 954 (by decide +kernel) rfl, WALL_at 51 (by decide +kernel) rfl⟩
theorem vi_X5_isAnyFilmLent : Cond.instanceMethod yX5_isAnyFilmLent ∈ WALL ∧ Cond.selects RX5 yX5_isAnyFilmLent yX5_isAnyFilmLent ∈ WALL := ⟨WALL_at 953 (by decide +kernel) rfl, WALL_at 18 (by decide +kernel) rfl⟩
theorem st_L_run : Cond.static yL_run ∈ WALL := WALL_at 957 (by decide +kernel) rfl
theorem cal_X5_run : Cal yX5_run cX5_run 3 (some FieldType.int) 1 := ⟨by decide +kernel, ⟨by decide +kernel, by decide +kernel, by decide +kernel⟩, WALL_at 962 (by decide +kernel) rfl, WALL_at 51 (by decide +kernel) rfl⟩
theorem vi_X5_run : Cond.instanceMethod yX5_run ∈ WALL ∧ Cond.selects RX5 yX5_run yX5_run ∈ WALL := ⟨WALL_at 960 (by decide +kernel) rfl, WALL_at 961 (by decide +kernel) rfl⟩
theorem cal_X5_play : Cal yX5_play cX5_play 3 none 2 := ⟨by decide +kernel, ⟨by decide +kernel, by decide +kernel, by decide +kernel⟩, WALL_at 967 (by decide +kernel) rfl, WALL_at 51 (by decide +kernel) rfl⟩
theorem vi_X5_play : Cond.instanceMethod yX5_play ∈ WALL ∧ Cond.selects RX5 yX5_play yX5_play ∈ WALL := ⟨WALL_at 966 (by decide +kernel) rfl, WALL_at 19 (by decide +kernel) rfl⟩
theorem cal_X2_addWear : Cal yX2_addWear cX2_addWear 3 none 1 := ⟨by decide +kernel, ⟨by decide +kernel, by decide +kernel, by decide +kernel⟩, WALL_at 971 (by decide +kernel) rfl, WALL_at 72 (by decide +kernel) rfl⟩
theorem vi_X2_addWear : Cond.instanceMethod yX2_addWear ∈ WALL ∧ Cond.selects RX2 yX2_addWear yX2_addWear ∈ WALL := ⟨WALL_at 969 (by decide +kernel) rfl, WALL_at 970 (by decide +kernel) rfl⟩
theorem cal_X2_frameCount : Cal yX2_frameCount cX2_frameCount 3 (some FieldType.int) 0 := ⟨by decide +kernel, ⟨by decide +kernel, by decide +kernel, by decide +kernel⟩, WALL_at 975 (by decide +kernel) rfl, WALL_at 72 (by decide +kernel) rfl⟩
theorem vi_X2_frameCount : Cond.instanceMethod yX2_frameCount ∈ WALL ∧ Cond.selects RX2 yX2_frameCount yX2_frameCount ∈ WALL := ⟨WALL_at 973 (by decide +kernel) rfl, WALL_at 974 (by decide +kernel) rfl⟩
theorem cal_X2_greatestWear : Cal yX2_greatestWear cX2_greatestWear 3 (some FieldType.int) 0 := ⟨by decide +kernel, ⟨by decide +kernel, by decide +kernel, by decide +kernel⟩, WALL_at 979 (by decide +kernel) rfl, WALL_at 72 (by decide +kernel) rfl⟩
theorem vi_X2_greatestWear : Cond.instanceMethod yX2_greatestWear ∈ WALL ∧ Cond.selects RX2 yX2_greatestWear yX2_greatestWear ∈ WALL := ⟨WALL_at 977 (by decide +kernel) rfl, WALL_at 978 (by decide +kernel) rfl⟩
theorem st_L_wear : Cond.static yL_wear ∈ WALL := WALL_at 982 (by decide +kernel) rfl
theorem cal_X5_wear : Cal yX5_wear cX5_wear 3 (some FieldType.int) 2 := ⟨by decide +kernel, ⟨by decide +kernel, by decide +kernel, by decide +kernel⟩, WALL_at 987 (by decide +kernel) rfl, WALL_at 51 (by decide +kernel) rfl⟩
theorem vi_X5_wear : Cond.instanceMethod yX5_wear ∈ WALL ∧ Cond.selects RX5 yX5_wear yX5_wear ∈ WALL := ⟨WALL_at 985 (by decide +kernel) rfl, WALL_at 986 (by decide +kernel) rfl⟩
theorem cal_X5_shotAheadOfSplice : Cal yX5_shotAheadOfSplice cX5_shotAheadOfSplice 3 (some (FieldType.object "Spliceroom$Shot")) 2 := ⟨by decide +kernel, ⟨by decide +kernel, by decide +kernel, by decide +kernel⟩, WALL_at 991 (by decide +kernel) rfl, WALL_at 51 (by decide +kernel) rfl⟩
theorem vi_X5_shotAheadOfSplice : Cond.instanceMethod yX5_shotAheadOfSplice ∈ WALL ∧ Cond.selects RX5 yX5_shotAheadOfSplice yX5_shotAheadOfSplice ∈ WALL := ⟨WALL_at 990 (by decide +kernel) rfl, WALL_at 20 (by decide +kernel) rfl⟩
theorem cal_X2_spliceCount : Cal yX2_spliceCount cX2_spliceCount 1 (some FieldType.int) 0 := ⟨by decide +kernel, ⟨by decide +kernel, by decide +kernel, by decide +kernel⟩, WALL_at 995 (by decide +kernel) rfl, WALL_at 72 (by decide +kernel) rfl⟩
theorem vi_X2_spliceCount : Cond.instanceMethod yX2_spliceCount ∈ WALL ∧ Cond.selects RX2 yX2_spliceCount yX2_spliceCount ∈ WALL := ⟨WALL_at 993 (by decide +kernel) rfl, WALL_at 994 (by decide +kernel) rfl⟩
theorem st_L_mend : Cond.static yL_mend ∈ WALL := WALL_at 998 (by decide +kernel) rfl
theorem cal_X5_mend : Cal yX5_mend cX5_mend 6 (some FieldType.int) 2 := ⟨by decide +kernel, ⟨by decide +kernel, by decide +kernel, by decide +kernel⟩, WALL_at 1003 (by decide +kernel) rfl, WALL_at 51 (by decide +kernel) rfl⟩
theorem vi_X5_mend : Cond.instanceMethod yX5_mend ∈ WALL ∧ Cond.selects RX5 yX5_mend yX5_mend ∈ WALL := ⟨WALL_at 1001 (by decide +kernel) rfl, WALL_at 1002 (by decide +kernel) rfl⟩
theorem cal_X5_takeLastFrame : Cal yX5_takeLastFrame cX5_takeLastFrame 4 none 1 := ⟨by decide +kernel, ⟨by decide +kernel, by decide +kernel, by decide +kernel⟩, WALL_at 1008 (by decide +kernel) rfl, WALL_at 51 (by decide +kernel) rfl⟩
theorem vi_X5_takeLastFrame : Cond.instanceMethod yX5_takeLastFrame ∈ WALL ∧ Cond.selects RX5 yX5_takeLastFrame yX5_takeLastFrame ∈ WALL := ⟨WALL_at 1007 (by decide +kernel) rfl, WALL_at 21 (by decide +kernel) rfl⟩
theorem cal_X4_mark : Cal yX4_mark cX4_mark 12 (some FieldType.int) 4 := ⟨by decide +kernel, ⟨by decide +kernel, by decide +kernel, by decide +kernel⟩, WALL_at 1012 (by decide +kernel) rfl, WALL_at 81 (by decide +kernel) rfl⟩
theorem vi_X4_mark : Cond.instanceMethod yX4_mark ∈ WALL ∧ Cond.selects RX4 yX4_mark yX4_mark ∈ WALL := ⟨WALL_at 1010 (by decide +kernel) rfl, WALL_at 1011 (by decide +kernel) rfl⟩
theorem cal_X4_bitsBetween : Cal yX4_bitsBetween cX4_bitsBetween 4 (some FieldType.long) 2 := ⟨by decide +kernel, ⟨by decide +kernel, by decide +kernel, by decide +kernel⟩, WALL_at 1015 (by decide +kernel) rfl, WALL_at 81 (by decide +kernel) rfl⟩
theorem st_X4_bitsBetween : Cond.static yX4_bitsBetween ∈ WALL := WALL_at 1014 (by decide +kernel) rfl
theorem st_L_scan : Cond.static yL_scan ∈ WALL := WALL_at 1021 (by decide +kernel) rfl
theorem cal_X5_scan : Cal yX5_scan cX5_scan 7 (some FieldType.int) 2 := ⟨by decide +kernel, ⟨by decide +kernel, by decide +kernel, by decide +kernel⟩, WALL_at 1026 (by decide +kernel) rfl, WALL_at 51 (by decide +kernel) rfl⟩
theorem vi_X5_scan : Cond.instanceMethod yX5_scan ∈ WALL ∧ Cond.selects RX5 yX5_scan yX5_scan ∈ WALL := ⟨WALL_at 1024 (by decide +kernel) rfl, WALL_at 1025 (by decide +kernel) rfl⟩
theorem cal_X5_framesLostAt : Cal yX5_framesLostAt cX5_framesLostAt 4 (some FieldType.int) 2 := ⟨by decide +kernel, ⟨by decide +kernel, by decide +kernel, by decide +kernel⟩, WALL_at 1032 (by decide +kernel) rfl, WALL_at 51 (by decide +kernel) rfl⟩
theorem vi_X5_framesLostAt : Cond.instanceMethod yX5_framesLostAt ∈ WALL ∧ Cond.selects RX5 yX5_framesLostAt yX5_framesLostAt ∈ WALL := ⟨WALL_at 1031 (by decide +kernel) rfl, WALL_at 22 (by decide +kernel) rfl⟩
theorem cal_X5_isWorn : Cal yX5_isWorn cX5_isWorn 3 (some FieldType.boolean) 2 := ⟨by decide +kernel, ⟨by decide +kernel, by decide +kernel, by decide +kernel⟩, WALL_at 1036 (by decide +kernel) rfl, WALL_at 51 (by decide +kernel) rfl⟩
theorem vi_X5_isWorn : Cond.instanceMethod yX5_isWorn ∈ WALL ∧ Cond.selects RX5 yX5_isWorn yX5_isWorn ∈ WALL := ⟨WALL_at 1035 (by decide +kernel) rfl, WALL_at 23 (by decide +kernel) rfl⟩
theorem cal_X3_takeScan : Cal yX3_takeScan cX3_takeScan 3 none 2 := ⟨by decide +kernel, ⟨by decide +kernel, by decide +kernel, by decide +kernel⟩, WALL_at 1040 (by decide +kernel) rfl, WALL_at 71 (by decide +kernel) rfl⟩
theorem vi_X3_takeScan : Cond.instanceMethod yX3_takeScan ∈ WALL ∧ Cond.selects RX3 yX3_takeScan yX3_takeScan ∈ WALL := ⟨WALL_at 1038 (by decide +kernel) rfl, WALL_at 1039 (by decide +kernel) rfl⟩
theorem st_L_scanned : Cond.static yL_scanned ∈ WALL := WALL_at 1042 (by decide +kernel) rfl
theorem cal_X5_scanned : Cal yX5_scanned cX5_scanned 2 (some FieldType.int) 1 := ⟨by decide +kernel, ⟨by decide +kernel, by decide +kernel, by decide +kernel⟩, WALL_at 1047 (by decide +kernel) rfl, WALL_at 51 (by decide +kernel) rfl⟩
theorem vi_X5_scanned : Cond.instanceMethod yX5_scanned ∈ WALL ∧ Cond.selects RX5 yX5_scanned yX5_scanned ∈ WALL := ⟨WALL_at 1045 (by decide +kernel) rfl, WALL_at 1046 (by decide +kernel) rfl⟩
theorem st_L_missed : Cond.static yL_missed ∈ WALL := WALL_at 1049 (by decide +kernel) rfl
theorem cal_X5_missed : Cal yX5_missed cX5_missed 2 (some FieldType.int) 1 := ⟨by decide +kernel, ⟨by decide +kernel, by decide +kernel, by decide +kernel⟩, WALL_at 1054 (by decide +kernel) rfl, WALL_at 51 (by decide +kernel) rfl⟩
theorem vi_X5_missed : Cond.instanceMethod yX5_missed ∈ WALL ∧ Cond.selects RX5 yX5_missed yX5_missed ∈ WALL := ⟨WALL_at 1052 (by decide +kernel) rfl, WALL_at 1053 (by decide +kernel) rfl⟩
theorem st_L_grade : Cond.static yL_grade ∈ WALL := WALL_at 1056 (by decide +kernel) rfl
theorem cal_X5_grade : Cal yX5_grade cX5_grade 5 (some FieldType.int) 2 := ⟨by decide +kernel, ⟨by decide +kernel, by decide +kernel, by decide +kernel⟩, WALL_at 1061 (by decide +kernel) rfl, WALL_at 51 (by decide +kernel) rfl⟩
theorem vi_X5_grade : Cond.instanceMethod yX5_grade ∈ WALL ∧ Cond.selects RX5 yX5_grade yX5_grade ∈ WALL := ⟨WALL_at 1059 (by decide +kernel) rfl, WALL_at 1060 (by decide +kernel) rfl⟩
theorem cal_X0_dropGradesFrom : Cal yX0_dropGradesFrom cX0_dropGradesFrom 4 none 1 := ⟨by decide +kernel, ⟨by decide +kernel, by decide +kernel, by decide +kernel⟩, WALL_at 1068 (by decide +kernel) rfl, WALL_at 60 (by decide +kernel) rfl⟩
theorem vi_X0_dropGradesFrom : Cond.instanceMethod yX0_dropGradesFrom ∈ WALL ∧ Cond.selects RX0 yX0_dropGradesFrom yX0_dropGradesFrom ∈ WALL := ⟨WALL_at 1066 (by decide +kernel) rfl, WALL_at 1067 (by decide +kernel) rfl⟩
theorem st_L_passOn : Cond.static yL_passOn ∈ WALL := WALL_at 1070 (by decide +kernel) rfl
theorem cal_X5_passOn : Cal yX5_passOn cX5_passOn 7 (some FieldType.int) 1 := ⟨by decide +kernel, ⟨by decide +kernel, by decide +kernel, by decide +kernel⟩, WALL_at 1075 (by decide +kernel) rfl, WALL_at 51 (by decide +kernel) rfl⟩
theorem vi_X5_passOn : Cond.instanceMethod yX5_passOn ∈ WALL ∧ Cond.selects RX5 yX5_passOn yX5_passOn ∈ WALL := ⟨WALL_at 1073 (by decide +kernel) rfl, WALL_at 1074 (by decide +kernel) rfl⟩
theorem st_L_gradeOf : Cond.static yL_gradeOf ∈ WALL := WALL_at 1077 (by decide +kernel) rfl
theorem cal_X5_gradeOf : Cal yX5_gradeOf cX5_gradeOf 2 (some FieldType.int) 1 := ⟨by decide +kernel, ⟨by decide +kernel, by decide +kernel, by decide +kernel⟩, WALL_at 1082 (by decide +kernel) rfl, WALL_at 51 (by decide +kernel) rfl⟩
theorem vi_X5_gradeOf : Cond.instanceMethod yX5_gradeOf ∈ WALL ∧ Cond.selects RX5 yX5_gradeOf yX5_gradeOf ∈ WALL := ⟨WALL_at 1080 (by decide +kernel) rfl, WALL_at 1081 (by decide +kernel) rfl⟩
theorem st_L_gradeFrom : Cond.static yL_gradeFrom ∈ WALL := WALL_at 1084 (by decide +kernel) rfl
theorem cal_X5_gradeFrom : Cal yX5_gradeFrom cX5_gradeFrom 4 (some FieldType.int) 1 := ⟨by decide +kernel, ⟨by decide +kernel, by decide +kernel, by decide +kernel⟩, WALL_at 1089 (by decide +kernel) rfl, WALL_at 51 (by decide +kernel) rfl⟩
theorem vi_X5_gradeFrom : Cond.instanceMethod yX5_gradeFrom ∈ WALL ∧ Cond.selects RX5 yX5_gradeFrom yX5_gradeFrom ∈ WALL := ⟨WALL_at 1087 (by decide +kernel) rfl, WALL_at 1088 (by decide +kernel) rfl⟩
theorem st_L_addVersion : Cond.static yL_addVersion ∈ WALL := WALL_at 1091 (by decide +kernel) rfl
theorem cal_X5_addVersion : Cal yX5_addVersion cX5_addVersion 4 (some FieldType.int) 2 := ⟨by decide +kernel, ⟨by decide +kernel, by decide +kernel, by decide +kernel⟩, WALL_at 1096 (by decide +kernel) rfl, WALL_at 51 (by decide +kernel) rfl⟩
theorem vi_X5_addVersion : Cond.instanceMethod yX5_addVersion ∈ WALL ∧ Cond.selects RX5 yX5_addVersion yX5_addVersion ∈ WALL := ⟨WALL_at 1094 (by decide +kernel) rfl, WALL_at 1095 (by decide +kernel) rfl⟩
theorem cal_X5_hasVersion : Cal yX5_hasVersion cX5_hasVersion 5 (some FieldType.boolean) 2 := ⟨by decide +kernel, ⟨by decide +kernel, by decide +kernel, by decide +kernel⟩, WALL_at 1101 (by decide +kernel) rfl, WALL_at 51 (by decide +kernel) rfl⟩
theorem vi_X5_hasVersion : Cond.instanceMethod yX5_hasVersion ∈ WALL ∧ Cond.selects RX5 yX5_hasVersion yX5_hasVersion ∈ WALL := ⟨WALL_at 1100 (by decide +kernel) rfl, WALL_at 24 (by decide +kernel) rfl⟩
theorem cal_X4_init : Cal yX4_init cX4_init 3 none 2 := ⟨by decide +kernel, ⟨by decide +kernel, by decide +kernel, by decide +kernel⟩, WALL_at 1107 (by decide +kernel) rfl, WALL_at 81 (by decide +kernel) rfl⟩
theorem in_X4_init : Cond.instanceMethod yX4_init ∈ WALL := WALL_at 1106 (by decide +kernel) rfl
theorem st_L_leaveOut : Cond.static yL_leaveOut ∈ WALL := WALL_at 1123 (by decide +kernel) rfl
theorem cal_X5_leaveOut : Cal yX5_leaveOut cX5_leaveOut 12 (some FieldType.int) 4 := ⟨by decide +kernel, ⟨by decide +kernel, by decide +kernel, by decide +kernel⟩, WALL_at 1128 (by decide +kernel) rfl, WALL_at 51 (by decide +kernel) rfl⟩
theorem vi_X5_leaveOut : Cond.instanceMethod yX5_leaveOut ∈ WALL ∧ Cond.selects RX5 yX5_leaveOut yX5_leaveOut ∈ WALL := ⟨WALL_at 1126 (by decide +kernel) rfl, WALL_at 1127 (by decide +kernel) rfl⟩
theorem cal_X5_versionNumbered : Cal yX5_versionNumbered cX5_versionNumbered 2 (some (FieldType.object "Spliceroom$Version")) 1 := ⟨by decide +kernel, ⟨by decide +kernel, by decide +kernel, by decide +kernel⟩, WALL_at 1132 (by decide +kernel) rfl, WALL_at 51 (by decide +kernel) rfl⟩
theorem vi_X5_versionNumbered : Cond.instanceMethod yX5_versionNumbered ∈ WALL ∧ Cond.selects RX5 yX5_versionNumbered yX5_versionNumbered ∈ WALL := ⟨WALL_at 1131 (by decide +kernel) rfl, WALL_at 25 (by decide +kernel) rfl⟩
theorem cal_X0_frameCount : Cal yX0_frameCount cX0_frameCount 1 (some FieldType.int) 0 := ⟨by decide +kernel, ⟨by decide +kernel, by decide +kernel, by decide +kernel⟩, WALL_at 1137 (by decide +kernel) rfl, WALL_at 60 (by decide +kernel) rfl⟩
theorem vi_X0_frameCount : Cond.instanceMethod yX0_frameCount ∈ WALL ∧ Cond.selects RX0 yX0_frameCount yX0_frameCount ∈ WALL := ⟨WALL_at 1135 (by decide +kernel) rfl, WALL_at 1136 (by decide +kernel) rfl⟩
theorem st_L_frames : Cond.static yL_frames ∈ WALL := WALL_at 1142 (by decide +kernel) rfl
theorem cal_X5_frames : Cal yX5_frames cX5_frames 2 (some FieldType.int) 1 := ⟨by decide +kernel, ⟨by decide +kernel, by decide +kernel, by decide +kernel⟩, WALL_at 1147 (by decide +kernel) rfl, WALL_at 51 (by decide +kernel) rfl⟩
theorem vi_X5_frames : Cond.instanceMethod yX5_frames ∈ WALL ∧ Cond.selects RX5 yX5_frames yX5_frames ∈ WALL := ⟨WALL_at 1145 (by decide +kernel) rfl, WALL_at 1146 (by decide +kernel) rfl⟩
theorem st_L_lend : Cond.static yL_lend ∈ WALL := WALL_at 1149 (by decide +kernel) rfl
theorem cal_X5_lend : Cal yX5_lend cX5_lend 6 (some FieldType.int) 4 := ⟨by decide +kernel, ⟨by decide +kernel, by decide +kernel, by decide +kernel⟩, WALL_at 1154 (by decide +kernel) rfl, WALL_at 51 (by decide +kernel) rfl⟩
theorem vi_X5_lend : Cond.instanceMethod yX5_lend ∈ WALL ∧ Cond.selects RX5 yX5_lend yX5_lend ∈ WALL := ⟨WALL_at 1152 (by decide +kernel) rfl, WALL_at 1153 (by decide +kernel) rfl⟩
theorem cal_X5_canFilmTake : Cal yX5_canFilmTake cX5_canFilmTake 5 (some FieldType.boolean) 2 := ⟨by decide +kernel, ⟨by decide +kernel, by decide +kernel, by decide +kernel⟩, WALL_at 1158 (by decide +kernel) rfl, WALL_at 51 (by decide +kernel) rfl⟩
theorem vi_X5_canFilmTake : Cond.instanceMethod yX5_canFilmTake ∈ WALL ∧ Cond.selects RX5 yX5_canFilmTake yX5_canFilmTake ∈ WALL := ⟨WALL_at 1157 (by decide +kernel) rfl, WALL_at 26 (by decide +kernel) rfl⟩
theorem cal_X1_init : Cal yX1_init cX1_init 5 none 4 := ⟨by decide +kernel, ⟨by decide +kernel, by decide +kernel, by decide +kernel⟩, WALL_at 1164 (by decide +kernel) rfl, WALL_at 83 (by decide +kernel) rfl⟩
theorem in_X1_init : Cond.instanceMethod yX1_init ∈ WALL := WALL_at 1163 (by decide +kernel) rfl
theorem st_L_show : Cond.static yL_show ∈ WALL := WALL_at 1187 (by decide +kernel) rfl
theorem cal_X5_show : Cal yX5_show cX5_show 5 (some FieldType.int) 1 := ⟨by decide +kernel, ⟨by decide +kernel, by decide +kernel, by decide +kernel⟩, WALL_at 1192 (by decide +kernel) rfl, WALL_at 51 (by decide +kernel) rfl⟩
theorem vi_X5_show : Cond.instanceMethod yX5_show ∈ WALL ∧ Cond.selects RX5 yX5_show yX5_show ∈ WALL := ⟨WALL_at 1190 (by decide +kernel) rfl, WALL_at 1191 (by decide +kernel) rfl⟩
theorem cal_X5_loanNumbered : Cal yX5_loanNumbered cX5_loanNumbered 2 (some (FieldType.object "Spliceroom$Loan")) 1 := ⟨by decide +kernel, ⟨by decide +kernel, by decide +kernel, by decide +kernel⟩, WALL_at 1196 (by decide +kernel) rfl, WALL_at 51 (by decide +kernel) rfl⟩
theorem vi_X5_loanNumbered : Cond.instanceMethod yX5_loanNumbered ∈ WALL ∧ Cond.selects RX5 yX5_loanNumbered yX5_loanNumbered ∈ WALL := ⟨WALL_at 1195 (by decide +kernel) rfl, WALL_at 27 (by decide +kernel) rfl⟩
theorem st_L_giveBack : Cond.static yL_giveBack ∈ WALL := WALL_at 1200 (by decide +kernel) rfl
theorem cal_X5_giveBack : Cal yX5_giveBack cX5_giveBack 3 (some FieldType.int) 1 := ⟨by decide +kernel, ⟨by decide +kernel, by decide +kernel, by decide +kernel⟩, WALL_at 1205 (by decide +kernel) rfl, WALL_at 51 (by decide +kernel) rfl⟩
theorem vi_X5_giveBack : Cond.instanceMethod yX5_giveBack ∈ WALL ∧ Cond.selects RX5 yX5_giveBack yX5_giveBack ∈ WALL := ⟨WALL_at 1203 (by decide +kernel) rfl, WALL_at 1204 (by decide +kernel) rfl⟩
theorem st_L_advance : Cond.static yL_advance ∈ WALL := WALL_at 1208 (by decide +kernel) rfl
theorem cal_X5_advance : Cal yX5_advance cX5_advance 5 (some FieldType.int) 1 := ⟨by decide +kernel, ⟨by decide +kernel, by decide +kernel, by decide +kernel⟩, WALL_at 1213 (by decide +kernel) rfl, WALL_at 51 (by decide +kernel) rfl⟩
theorem vi_X5_advance : Cond.instanceMethod yX5_advance ∈ WALL ∧ Cond.selects RX5 yX5_advance yX5_advance ∈ WALL := ⟨WALL_at 1211 (by decide +kernel) rfl, WALL_at 1212 (by decide +kernel) rfl⟩
theorem st_L_keptShare : Cond.static yL_keptShare ∈ WALL := WALL_at 1216 (by decide +kernel) rfl
theorem cal_X5_keptShare : Cal yX5_keptShare cX5_keptShare 4 (some FieldType.float) 0 := ⟨by decide +kernel, ⟨by decide +kernel, by decide +kernel, by decide +kernel⟩, WALL_at 1235 (by decide +kernel) rfl, WALL_at 51 (by decide +kernel) rfl⟩
theorem vi_X5_keptShare : Cond.instanceMethod yX5_keptShare ∈ WALL ∧ Cond.selects RX5 yX5_keptShare yX5_keptShare ∈ WALL := ⟨WALL_at 1233 (by decide +kernel) rfl, WALL_at 1234 (by decide +kernel) rfl⟩
theorem st_L_meanWear : Cond.static yL_meanWear ∈ WALL := WALL_at 1240 (by decide +kernel) rfl
theorem cal_X5_meanWear : Cal yX5_meanWear cX5_meanWear 5 (some FieldType.double) 0 := ⟨by decide +kernel, ⟨by decide +kernel, by decide +kernel, by decide +kernel⟩, WALL_at 1245 (by decide +kernel) rfl, WALL_at 51 (by decide +kernel) rfl⟩
theorem vi_X5_meanWear : Cond.instanceMethod yX5_meanWear ∈ WALL ∧ Cond.selects RX5 yX5_meanWear yX5_meanWear ∈ WALL := ⟨WALL_at 1243 (by decide +kernel) rfl, WALL_at 1244 (by decide +kernel) rfl⟩
theorem cal_X2_wearSum : Cal yX2_wearSum cX2_wearSum 3 (some FieldType.int) 0 := ⟨by decide +kernel, ⟨by decide +kernel, by decide +kernel, by decide +kernel⟩, WALL_at 1249 (by decide +kernel) rfl, WALL_at 72 (by decide +kernel) rfl⟩
theorem vi_X2_wearSum : Cond.instanceMethod yX2_wearSum ∈ WALL ∧ Cond.selects RX2 yX2_wearSum yX2_wearSum ∈ WALL := ⟨WALL_at 1247 (by decide +kernel) rfl, WALL_at 1248 (by decide +kernel) rfl⟩
theorem cal_X6_init : Cal yX6_init cX6_init 1 none 0 := ⟨by decide +kernel, ⟨by decide +kernel, by decide +kernel, by decide +kernel⟩, WALL_at 1255 (by decide +kernel) rfl, WALL_at 55 (by decide +kernel) rfl⟩
theorem in_X6_init : Cond.instanceMethod yX6_init ∈ WALL := WALL_at 1254 (by decide +kernel) rfl
theorem cal_X6_thrown : Cal yX6_thrown cX6_thrown 1 (some FieldType.int) 0 := ⟨by decide +kernel, ⟨by decide +kernel, by decide +kernel, by decide +kernel⟩, WALL_at 1356 (by decide +kernel) rfl, WALL_at 55 (by decide +kernel) rfl⟩
theorem vi_X6_thrown : Cond.instanceMethod yX6_thrown ∈ WALL ∧ Cond.selects RX6 yX6_thrown yX6_thrown ∈ WALL := ⟨WALL_at 1354 (by decide +kernel) rfl, WALL_at 1355 (by decide +kernel) rfl⟩
theorem cal_X6_addFilm : Cal yX6_addFilm cX6_addFilm 1 (some FieldType.int) 0 := ⟨by decide +kernel, ⟨by decide +kernel, by decide +kernel, by decide +kernel⟩, WALL_at 1360 (by decide +kernel) rfl, WALL_at 55 (by decide +kernel) rfl⟩
theorem vi_X6_addFilm : Cond.instanceMethod yX6_addFilm ∈ WALL ∧ Cond.selects RX6 yX6_addFilm yX6_addFilm ∈ WALL := ⟨WALL_at 1358 (by decide +kernel) rfl, WALL_at 1359 (by decide +kernel) rfl⟩
theorem cal_X6_goesOn : Cal yX6_goesOn cX6_goesOn 2 (some FieldType.boolean) 1 := ⟨by decide +kernel, ⟨by decide +kernel, by decide +kernel, by decide +kernel⟩, WALL_at 1364 (by decide +kernel) rfl, WALL_at 55 (by decide +kernel) rfl⟩
theorem vi_X6_goesOn : Cond.instanceMethod yX6_goesOn ∈ WALL ∧ Cond.selects RX6 yX6_goesOn yX6_goesOn ∈ WALL := ⟨WALL_at 1363 (by decide +kernel) rfl, WALL_at 28 (by decide +kernel) rfl⟩
theorem cal_X6_addShot : Cal yX6_addShot cX6_addShot 5 (some FieldType.int) 3 := ⟨by decide +kernel, ⟨by decide +kernel, by decide +kernel, by decide +kernel⟩, WALL_at 1368 (by decide +kernel) rfl, WALL_at 55 (by decide +kernel) rfl⟩
theorem vi_X6_addShot : Cond.instanceMethod yX6_addShot ∈ WALL ∧ Cond.selects RX6 yX6_addShot yX6_addShot ∈ WALL := ⟨WALL_at 1366 (by decide +kernel) rfl, WALL_at 1367 (by decide +kernel) rfl⟩
theorem cal_X6_isFilm : Cal yX6_isFilm cX6_isFilm 2 (some FieldType.boolean) 1 := ⟨by decide +kernel, ⟨by decide +kernel, by decide +kernel, by decide +kernel⟩, WALL_at 1372 (by decide +kernel) rfl, WALL_at 55 (by decide +kernel) rfl⟩
theorem vi_X6_isFilm : Cond.instanceMethod yX6_isFilm ∈ WALL ∧ Cond.selects RX6 yX6_isFilm yX6_isFilm ∈ WALL := ⟨WALL_at 1371 (by decide +kernel) rfl, WALL_at 29 (by decide +kernel) rfl⟩
theorem cal_X6_in : Cal yX6_in cX6_in 3 (some FieldType.boolean) 3 := ⟨by decide +kernel, ⟨by decide +kernel, by decide +kernel, by decide +kernel⟩, WALL_at 1375 (by decide +kernel) rfl, WALL_at 55 (by decide +kernel) rfl⟩
theorem st_X6_in : Cond.static yX6_in ∈ WALL := WALL_at 1374 (by decide +kernel) rfl
theorem cal_X6_areFine : Cal yX6_areFine cX6_areFine 2 (some FieldType.boolean) 2 := ⟨by decide +kernel, ⟨by decide +kernel, by decide +kernel, by decide +kernel⟩, WALL_at 1378 (by decide +kernel) rfl, WALL_at 55 (by decide +kernel) rfl⟩
theorem st_X6_areFine : Cond.static yX6_areFine ∈ WALL := WALL_at 1377 (by decide +kernel) rfl
theorem cal_X6_makes : Cal yX6_makes cX6_makes 6 (some FieldType.int) 4 := ⟨by decide +kernel, ⟨by decide +kernel, by decide +kernel, by decide +kernel⟩, WALL_at 1382 (by decide +kernel) rfl, WALL_at 55 (by decide +kernel) rfl⟩
theorem vi_X6_makes : Cond.instanceMethod yX6_makes ∈ WALL ∧ Cond.selects RX6 yX6_makes yX6_makes ∈ WALL := ⟨WALL_at 1381 (by decide +kernel) rfl, WALL_at 30 (by decide +kernel) rfl⟩
theorem cal_X6_addReel : Cal yX6_addReel cX6_addReel 2 (some FieldType.int) 1 := ⟨by decide +kernel, ⟨by decide +kernel, by decide +kernel, by decide +kernel⟩, WALL_at 1386 (by decide +kernel) rfl, WALL_at 55 (by decide +kernel) rfl⟩
theorem vi_X6_addReel : Cond.instanceMethod yX6_addReel ∈ WALL ∧ Cond.selects RX6 yX6_addReel yX6_addReel ∈ WALL := ⟨WALL_at 1384 (by decide +kernel) rfl, WALL_at 1385 (by decide +kernel) rfl⟩
theorem cal_X6_put : Cal yX6_put cX6_put 6 (some FieldType.int) 2 := ⟨by decide +kernel, ⟨by decide +kernel, by decide +kernel, by decide +kernel⟩, WALL_at 1390 (by decide +kernel) rfl, WALL_at 55 (by decide +kernel) rfl⟩
theorem vi_X6_put : Cond.instanceMethod yX6_put ∈ WALL ∧ Cond.selects RX6 yX6_put yX6_put ∈ WALL := ⟨WALL_at 1388 (by decide +kernel) rfl, WALL_at 1389 (by decide +kernel) rfl⟩
theorem cal_X6_isReel : Cal yX6_isReel cX6_isReel 2 (some FieldType.boolean) 1 := ⟨by decide +kernel, ⟨by decide +kernel, by decide +kernel, by decide +kernel⟩, WALL_at 1394 (by decide +kernel) rfl, WALL_at 55 (by decide +kernel) rfl⟩
theorem vi_X6_isReel : Cond.instanceMethod yX6_isReel ∈ WALL ∧ Cond.selects RX6 yX6_isReel yX6_isReel ∈ WALL := ⟨WALL_at 1393 (by decide +kernel) rfl, WALL_at 31 (by decide +kernel) rfl⟩
theorem cal_X6_isShot : Cal yX6_isShot cX6_isShot 2 (some FieldType.boolean) 1 := ⟨by decide +kernel, ⟨by decide +kernel, by decide +kernel, by decide +kernel⟩, WALL_at 1398 (by decide +kernel) rfl, WALL_at 55 (by decide +kernel) rfl⟩
theorem vi_X6_isShot : Cond.instanceMethod yX6_isShot ∈ WALL ∧ Cond.selects RX6 yX6_isShot yX6_isShot ∈ WALL := ⟨WALL_at 1397 (by decide +kernel) rfl, WALL_at 32 (by decide +kernel) rfl⟩
theorem cal_X6_placeOf : Cal yX6_placeOf cX6_placeOf 3 (some FieldType.int) 1 := ⟨by decide +kernel, ⟨by decide +kernel, by decide +kernel, by decide +kernel⟩, WALL_at 1402 (by decide +kernel) rfl, WALL_at 55 (by decide +kernel) rfl⟩
theorem vi_X6_placeOf : Cond.instanceMethod yX6_placeOf ∈ WALL ∧ Cond.selects RX6 yX6_placeOf yX6_placeOf ∈ WALL := ⟨WALL_at 1401 (by decide +kernel) rfl, WALL_at 33 (by decide +kernel) rfl⟩
theorem cal_X6_lastOf : Cal yX6_lastOf cX6_lastOf 2 (some FieldType.int) 1 := ⟨by decide +kernel, ⟨by decide +kernel, by decide +kernel, by decide +kernel⟩, WALL_at 1406 (by decide +kernel) rfl, WALL_at 55 (by decide +kernel) rfl⟩
theorem vi_X6_lastOf : Cond.instanceMethod yX6_lastOf ∈ WALL ∧ Cond.selects RX6 yX6_lastOf yX6_lastOf ∈ WALL := ⟨WALL_at 1405 (by decide +kernel) rfl, WALL_at 34 (by decide +kernel) rfl⟩
theorem cal_X6_isLent : Cal yX6_isLent cX6_isLent 4 (some FieldType.boolean) 1 := ⟨by decide +kernel, ⟨by decide +kernel, by decide +kernel, by decide +kernel⟩, WALL_at 1410 (by decide +kernel) rfl, WALL_at 55 (by decide +kernel) rfl⟩
theorem vi_X6_isLent : Cond.instanceMethod yX6_isLent ∈ WALL ∧ Cond.selects RX6 yX6_isLent yX6_isLent ∈ WALL := ⟨WALL_at 1409 (by decide +kernel) rfl, WALL_at 35 (by decide +kernel) rfl⟩
theorem cal_X6_adds : Cal yX6_adds cX6_adds 4 none 3 := ⟨by decide +kernel, ⟨by decide +kernel, by decide +kernel, by decide +kernel⟩, WALL_at 1414 (by decide +kernel) rfl, WALL_at 55 (by decide +kernel) rfl⟩
theorem vi_X6_adds : Cond.instanceMethod yX6_adds ∈ WALL ∧ Cond.selects RX6 yX6_adds yX6_adds ∈ WALL := ⟨WALL_at 1413 (by decide +kernel) rfl, WALL_at 36 (by decide +kernel) rfl⟩
theorem cal_X6_found : Cal yX6_found cX6_found 8 (some FieldType.int) 4 := ⟨by decide +kernel, ⟨by decide +kernel, by decide +kernel, by decide +kernel⟩, WALL_at 1418 (by decide +kernel) rfl, WALL_at 55 (by decide +kernel) rfl⟩
theorem vi_X6_found : Cond.instanceMethod yX6_found ∈ WALL ∧ Cond.selects RX6 yX6_found yX6_found ∈ WALL := ⟨WALL_at 1416 (by decide +kernel) rfl, WALL_at 1417 (by decide +kernel) rfl⟩
theorem cal_X6_join : Cal yX6_join cX6_join 9 (some FieldType.int) 2 := ⟨by decide +kernel, ⟨by decide +kernel, by decide +kernel, by decide +kernel⟩, WALL_at 1422 (by decide +kernel) rfl, WALL_at 55 (by decide +kernel) rfl⟩
theorem vi_X6_join : Cond.instanceMethod yX6_join ∈ WALL ∧ Cond.selects RX6 yX6_join yX6_join ∈ WALL := ⟨WALL_at 1420 (by decide +kernel) rfl, WALL_at 1421 (by decide +kernel) rfl⟩
theorem cal_X6_shots : Cal yX6_shots cX6_shots 2 (some FieldType.int) 1 := ⟨by decide +kernel, ⟨by decide +kernel, by decide +kernel, by decide +kernel⟩, WALL_at 1426 (by decide +kernel) rfl, WALL_at 55 (by decide +kernel) rfl⟩
theorem vi_X6_shots : Cond.instanceMethod yX6_shots ∈ WALL ∧ Cond.selects RX6 yX6_shots yX6_shots ∈ WALL := ⟨WALL_at 1424 (by decide +kernel) rfl, WALL_at 1425 (by decide +kernel) rfl⟩
theorem cal_X6_shotOf : Cal yX6_shotOf cX6_shotOf 4 (some FieldType.int) 2 := ⟨by decide +kernel, ⟨by decide +kernel, by decide +kernel, by decide +kernel⟩, WALL_at 1430 (by decide +kernel) rfl, WALL_at 55 (by decide +kernel) rfl⟩
theorem vi_X6_shotOf : Cond.instanceMethod yX6_shotOf ∈ WALL ∧ Cond.selects RX6 yX6_shotOf yX6_shotOf ∈ WALL := ⟨WALL_at 1428 (by decide +kernel) rfl, WALL_at 1429 (by decide +kernel) rfl⟩
theorem cal_X6_lengthOf : Cal yX6_lengthOf cX6_lengthOf 2 (some FieldType.int) 1 := ⟨by decide +kernel, ⟨by decide +kernel, by decide +kernel, by decide +kernel⟩, WALL_at 1434 (by decide +kernel) rfl, WALL_at 55 (by decide +kernel) rfl⟩
theorem vi_X6_lengthOf : Cond.instanceMethod yX6_lengthOf ∈ WALL ∧ Cond.selects RX6 yX6_lengthOf yX6_lengthOf ∈ WALL := ⟨WALL_at 1432 (by decide +kernel) rfl, WALL_at 1433 (by decide +kernel) rfl⟩
theorem cal_X6_frameOf : Cal yX6_frameOf cX6_frameOf 3 (some FieldType.int) 1 := ⟨by decide +kernel, ⟨by decide +kernel, by decide +kernel, by decide +kernel⟩, WALL_at 1438 (by decide +kernel) rfl, WALL_at 55 (by decide +kernel) rfl⟩
theorem vi_X6_frameOf : Cond.instanceMethod yX6_frameOf ∈ WALL ∧ Cond.selects RX6 yX6_frameOf yX6_frameOf ∈ WALL := ⟨WALL_at 1436 (by decide +kernel) rfl, WALL_at 1437 (by decide +kernel) rfl⟩
theorem cal_X6_framesAhead : Cal yX6_framesAhead cX6_framesAhead 6 (some FieldType.int) 2 := ⟨by decide +kernel, ⟨by decide +kernel, by decide +kernel, by decide +kernel⟩, WALL_at 1442 (by decide +kernel) rfl, WALL_at 55 (by decide +kernel) rfl⟩
theorem vi_X6_framesAhead : Cond.instanceMethod yX6_framesAhead ∈ WALL ∧ Cond.selects RX6 yX6_framesAhead yX6_framesAhead ∈ WALL := ⟨WALL_at 1441 (by decide +kernel) rfl, WALL_at 37 (by decide +kernel) rfl⟩
theorem cal_X6_shotAt : Cal yX6_shotAt cX6_shotAt 5 (some FieldType.int) 2 := ⟨by decide +kernel, ⟨by decide +kernel, by decide +kernel, by decide +kernel⟩, WALL_at 1446 (by decide +kernel) rfl, WALL_at 55 (by decide +kernel) rfl⟩
theorem vi_X6_shotAt : Cond.instanceMethod yX6_shotAt ∈ WALL ∧ Cond.selects RX6 yX6_shotAt yX6_shotAt ∈ WALL := ⟨WALL_at 1444 (by decide +kernel) rfl, WALL_at 1445 (by decide +kernel) rfl⟩
theorem cal_X6_shotWith : Cal yX6_shotWith cX6_shotWith 7 (some FieldType.int) 2 := ⟨by decide +kernel, ⟨by decide +kernel, by decide +kernel, by decide +kernel⟩, WALL_at 1450 (by decide +kernel) rfl, WALL_at 55 (by decide +kernel) rfl⟩
theorem vi_X6_shotWith : Cond.instanceMethod yX6_shotWith ∈ WALL ∧ Cond.selects RX6 yX6_shotWith yX6_shotWith ∈ WALL := ⟨WALL_at 1449 (by decide +kernel) rfl, WALL_at 38 (by decide +kernel) rfl⟩
theorem cal_X6_reelOf : Cal yX6_reelOf cX6_reelOf 2 (some FieldType.int) 1 := ⟨by decide +kernel, ⟨by decide +kernel, by decide +kernel, by decide +kernel⟩, WALL_at 1454 (by decide +kernel) rfl, WALL_at 55 (by decide +kernel) rfl⟩
theorem vi_X6_reelOf : Cond.instanceMethod yX6_reelOf ∈ WALL ∧ Cond.selects RX6 yX6_reelOf yX6_reelOf ∈ WALL := ⟨WALL_at 1452 (by decide +kernel) rfl, WALL_at 1453 (by decide +kernel) rfl⟩
theorem cal_X6_setLimit : Cal yX6_setLimit cX6_setLimit 5 (some FieldType.int) 1 := ⟨by decide +kernel, ⟨by decide +kernel, by decide +kernel, by decide +kernel⟩, WALL_at 1458 (by decide +kernel) rfl, WALL_at 55 (by decide +kernel) rfl⟩
theorem vi_X6_setLimit : Cond.instanceMethod yX6_setLimit ∈ WALL ∧ Cond.selects RX6 yX6_setLimit yX6_setLimit ∈ WALL := ⟨WALL_at 1456 (by decide +kernel) rfl, WALL_at 1457 (by decide +kernel) rfl⟩
theorem cal_X6_greatest : Cal yX6_greatest cX6_greatest 4 (some FieldType.int) 1 := ⟨by decide +kernel, ⟨by decide +kernel, by decide +kernel, by decide +kernel⟩, WALL_at 1462 (by decide +kernel) rfl, WALL_at 55 (by decide +kernel) rfl⟩
theorem vi_X6_greatest : Cond.instanceMethod yX6_greatest ∈ WALL ∧ Cond.selects RX6 yX6_greatest yX6_greatest ∈ WALL := ⟨WALL_at 1461 (by decide +kernel) rfl, WALL_at 39 (by decide +kernel) rfl⟩
theorem cal_X6_hasLoan : Cal yX6_hasLoan cX6_hasLoan 3 (some FieldType.boolean) 0 := ⟨by decide +kernel, ⟨by decide +kernel, by decide +kernel, by decide +kernel⟩, WALL_at 1466 (by decide +kernel) rfl, WALL_at 55 (by decide +kernel) rfl⟩
theorem vi_X6_hasLoan : Cond.instanceMethod yX6_hasLoan ∈ WALL ∧ Cond.selects RX6 yX6_hasLoan yX6_hasLoan ∈ WALL := ⟨WALL_at 1465 (by decide +kernel) rfl, WALL_at 40 (by decide +kernel) rfl⟩
theorem cal_X6_run : Cal yX6_run cX6_run 3 (some FieldType.int) 1 := ⟨by decide +kernel, ⟨by decide +kernel, by decide +kernel, by decide +kernel⟩, WALL_at 1470 (by decide +kernel) rfl, WALL_at 55 (by decide +kernel) rfl⟩
theorem vi_X6_run : Cond.instanceMethod yX6_run ∈ WALL ∧ Cond.selects RX6 yX6_run yX6_run ∈ WALL := ⟨WALL_at 1468 (by decide +kernel) rfl, WALL_at 1469 (by decide +kernel) rfl⟩
theorem cal_X6_bears : Cal yX6_bears cX6_bears 3 (some FieldType.boolean) 2 := ⟨by decide +kernel, ⟨by decide +kernel, by decide +kernel, by decide +kernel⟩, WALL_at 1474 (by decide +kernel) rfl, WALL_at 55 (by decide +kernel) rfl⟩
theorem vi_X6_bears : Cond.instanceMethod yX6_bears ∈ WALL ∧ Cond.selects RX6 yX6_bears yX6_bears ∈ WALL := ⟨WALL_at 1473 (by decide +kernel) rfl, WALL_at 41 (by decide +kernel) rfl⟩
theorem cal_X6_wears : Cal yX6_wears cX6_wears 4 none 2 := ⟨by decide +kernel, ⟨by decide +kernel, by decide +kernel, by decide +kernel⟩, WALL_at 1478 (by decide +kernel) rfl, WALL_at 55 (by decide +kernel) rfl⟩
theorem vi_X6_wears : Cond.instanceMethod yX6_wears ∈ WALL ∧ Cond.selects RX6 yX6_wears yX6_wears ∈ WALL := ⟨WALL_at 1477 (by decide +kernel) rfl, WALL_at 42 (by decide +kernel) rfl⟩
theorem cal_X6_framesOn : Cal yX6_framesOn cX6_framesOn 4 (some FieldType.int) 1 := ⟨by decide +kernel, ⟨by decide +kernel, by decide +kernel, by decide +kernel⟩, WALL_at 1482 (by decide +kernel) rfl, WALL_at 55 (by decide +kernel) rfl⟩
theorem vi_X6_framesOn : Cond.instanceMethod yX6_framesOn ∈ WALL ∧ Cond.selects RX6 yX6_framesOn yX6_framesOn ∈ WALL := ⟨WALL_at 1481 (by decide +kernel) rfl, WALL_at 43 (by decide +kernel) rfl⟩
theorem cal_X6_wear : Cal yX6_wear cX6_wear 3 (some FieldType.int) 2 := ⟨by decide +kernel, ⟨by decide +kernel, by decide +kernel, by decide +kernel⟩, WALL_at 1486 (by decide +kernel) rfl, WALL_at 55 (by decide +kernel) rfl⟩
theorem vi_X6_wear : Cond.instanceMethod yX6_wear ∈ WALL ∧ Cond.selects RX6 yX6_wear yX6_wear ∈ WALL := ⟨WALL_at 1484 (by decide +kernel) rfl, WALL_at 1485 (by decide +kernel) rfl⟩
theorem cal_X6_isSplice : Cal yX6_isSplice cX6_isSplice 3 (some FieldType.boolean) 2 := ⟨by decide +kernel, ⟨by decide +kernel, by decide +kernel, by decide +kernel⟩, WALL_at 1490 (by decide +kernel) rfl, WALL_at 55 (by decide +kernel) rfl⟩
theorem vi_X6_isSplice : Cond.instanceMethod yX6_isSplice ∈ WALL ∧ Cond.selects RX6 yX6_isSplice yX6_isSplice ∈ WALL := ⟨WALL_at 1489 (by decide +kernel) rfl, WALL_at 44 (by decide +kernel) rfl⟩
theorem cal_X6_mend : Cal yX6_mend cX6_mend 8 (some FieldType.int) 2 := ⟨by decide +kernel, ⟨by decide +kernel, by decide +kernel, by decide +kernel⟩, WALL_at 1494 (by decide +kernel) rfl, WALL_at 55 (by decide +kernel) rfl⟩
theorem vi_X6_mend : Cond.instanceMethod yX6_mend ∈ WALL ∧ Cond.selects RX6 yX6_mend yX6_mend ∈ WALL := ⟨WALL_at 1492 (by decide +kernel) rfl, WALL_at 1493 (by decide +kernel) rfl⟩
theorem cal_X6_scan : Cal yX6_scan cX6_scan 8 (some FieldType.int) 2 := ⟨by decide +kernel, ⟨by decide +kernel, by decide +kernel, by decide +kernel⟩, WALL_at 1498 (by decide +kernel) rfl, WALL_at 55 (by decide +kernel) rfl⟩
theorem vi_X6_scan : Cond.instanceMethod yX6_scan ∈ WALL ∧ Cond.selects RX6 yX6_scan yX6_scan ∈ WALL := ⟨WALL_at 1496 (by decide +kernel) rfl, WALL_at 1497 (by decide +kernel) rfl⟩
theorem cal_X6_isWorn : Cal yX6_isWorn cX6_isWorn 3 (some FieldType.boolean) 2 := ⟨by decide +kernel, ⟨by decide +kernel, by decide +kernel, by decide +kernel⟩, WALL_at 1502 (by decide +kernel) rfl, WALL_at 55 (by decide +kernel) rfl⟩
theorem vi_X6_isWorn : Cond.instanceMethod yX6_isWorn ∈ WALL ∧ Cond.selects RX6 yX6_isWorn yX6_isWorn ∈ WALL := ⟨WALL_at 1501 (by decide +kernel) rfl, WALL_at 45 (by decide +kernel) rfl⟩
theorem cal_X6_scanned : Cal yX6_scanned cX6_scanned 2 (some FieldType.int) 1 := ⟨by decide +kernel, ⟨by decide +kernel, by decide +kernel, by decide +kernel⟩, WALL_at 1506 (by decide +kernel) rfl, WALL_at 55 (by decide +kernel) rfl⟩
theorem vi_X6_scanned : Cond.instanceMethod yX6_scanned ∈ WALL ∧ Cond.selects RX6 yX6_scanned yX6_scanned ∈ WALL := ⟨WALL_at 1504 (by decide +kernel) rfl, WALL_at 1505 (by decide +kernel) rfl⟩
theorem cal_X6_missed : Cal yX6_missed cX6_missed 2 (some FieldType.int) 1 := ⟨by decide +kernel, ⟨by decide +kernel, by decide +kernel, by decide +kernel⟩, WALL_at 1510 (by decide +kernel) rfl, WALL_at 55 (by decide +kernel) rfl⟩
theorem vi_X6_missed : Cond.instanceMethod yX6_missed ∈ WALL ∧ Cond.selects RX6 yX6_missed yX6_missed ∈ WALL := ⟨WALL_at 1508 (by decide +kernel) rfl, WALL_at 1509 (by decide +kernel) rfl⟩
theorem cal_X6_grade : Cal yX6_grade cX6_grade 6 (some FieldType.int) 2 := ⟨by decide +kernel, ⟨by decide +kernel, by decide +kernel, by decide +kernel⟩, WALL_at 1514 (by decide +kernel) rfl, WALL_at 55 (by decide +kernel) rfl⟩
theorem vi_X6_grade : Cond.instanceMethod yX6_grade ∈ WALL ∧ Cond.selects RX6 yX6_grade yX6_grade ∈ WALL := ⟨WALL_at 1512 (by decide +kernel) rfl, WALL_at 1513 (by decide +kernel) rfl⟩
theorem cal_X6_gradeNow : Cal yX6_gradeNow cX6_gradeNow 2 (some FieldType.int) 1 := ⟨by decide +kernel, ⟨by decide +kernel, by decide +kernel, by decide +kernel⟩, WALL_at 1518 (by decide +kernel) rfl, WALL_at 55 (by decide +kernel) rfl⟩
theorem vi_X6_gradeNow : Cond.instanceMethod yX6_gradeNow ∈ WALL ∧ Cond.selects RX6 yX6_gradeNow yX6_gradeNow ∈ WALL := ⟨WALL_at 1517 (by decide +kernel) rfl, WALL_at 46 (by decide +kernel) rfl⟩
theorem cal_X6_passOn : Cal yX6_passOn cX6_passOn 5 (some FieldType.int) 1 := ⟨by decide +kernel, ⟨by decide +kernel, by decide +kernel, by decide +kernel⟩, WALL_at 1522 (by decide +kernel) rfl, WALL_at 55 (by decide +kernel) rfl⟩
theorem vi_X6_passOn : Cond.instanceMethod yX6_passOn ∈ WALL ∧ Cond.selects RX6 yX6_passOn yX6_passOn ∈ WALL := ⟨WALL_at 1520 (by decide +kernel) rfl, WALL_at 1521 (by decide +kernel) rfl⟩
theorem cal_X6_gradeOf : Cal yX6_gradeOf cX6_gradeOf 2 (some FieldType.int) 1 := ⟨by decide +kernel, ⟨by decide +kernel, by decide +kernel, by decide +kernel⟩, WALL_at 1526 (by decide +kernel) rfl, WALL_at 55 (by decide +kernel) rfl⟩
theorem vi_X6_gradeOf : Cond.instanceMethod yX6_gradeOf ∈ WALL ∧ Cond.selects RX6 yX6_gradeOf yX6_gradeOf ∈ WALL := ⟨WALL_at 1524 (by decide +kernel) rfl, WALL_at 1525 (by decide +kernel) rfl⟩
theorem cal_X6_gradeFrom : Cal yX6_gradeFrom cX6_gradeFrom 2 (some FieldType.int) 1 := ⟨by decide +kernel, ⟨by decide +kernel, by decide +kernel, by decide +kernel⟩, WALL_at 1530 (by decide +kernel) rfl, WALL_at 55 (by decide +kernel) rfl⟩
theorem vi_X6_gradeFrom : Cond.instanceMethod yX6_gradeFrom ∈ WALL ∧ Cond.selects RX6 yX6_gradeFrom yX6_gradeFrom ∈ WALL := ⟨WALL_at 1528 (by decide +kernel) rfl, WALL_at 1529 (by decide +kernel) rfl⟩
theorem cal_X6_addVersion : Cal yX6_addVersion cX6_addVersion 6 (some FieldType.int) 2 := ⟨by decide +kernel, ⟨by decide +kernel, by decide +kernel, by decide +kernel⟩, WALL_at 1534 (by decide +kernel) rfl, WALL_at 55 (by decide +kernel) rfl⟩
theorem vi_X6_addVersion : Cond.instanceMethod yX6_addVersion ∈ WALL ∧ Cond.selects RX6 yX6_addVersion yX6_addVersion ∈ WALL := ⟨WALL_at 1532 (by decide +kernel) rfl, WALL_at 1533 (by decide +kernel) rfl⟩
theorem cal_X6_leaveOut : Cal yX6_leaveOut cX6_leaveOut 13 (some FieldType.int) 4 := ⟨by decide +kernel, ⟨by decide +kernel, by decide +kernel, by decide +kernel⟩, WALL_at 1538 (by decide +kernel) rfl, WALL_at 55 (by decide +kernel) rfl⟩
theorem vi_X6_leaveOut : Cond.instanceMethod yX6_leaveOut ∈ WALL ∧ Cond.selects RX6 yX6_leaveOut yX6_leaveOut ∈ WALL := ⟨WALL_at 1536 (by decide +kernel) rfl, WALL_at 1537 (by decide +kernel) rfl⟩
theorem cal_X6_isVersion : Cal yX6_isVersion cX6_isVersion 2 (some FieldType.boolean) 1 := ⟨by decide +kernel, ⟨by decide +kernel, by decide +kernel, by decide +kernel⟩, WALL_at 1542 (by decide +kernel) rfl, WALL_at 55 (by decide +kernel) rfl⟩
theorem vi_X6_isVersion : Cond.instanceMethod yX6_isVersion ∈ WALL ∧ Cond.selects RX6 yX6_isVersion yX6_isVersion ∈ WALL := ⟨WALL_at 1541 (by decide +kernel) rfl, WALL_at 47 (by decide +kernel) rfl⟩
theorem cal_X6_isOutOf : Cal yX6_isOutOf cX6_isOutOf 4 (some FieldType.boolean) 3 := ⟨by decide +kernel, ⟨by decide +kernel, by decide +kernel, by decide +kernel⟩, WALL_at 1546 (by decide +kernel) rfl, WALL_at 55 (by decide +kernel) rfl⟩
theorem vi_X6_isOutOf : Cond.instanceMethod yX6_isOutOf ∈ WALL ∧ Cond.selects RX6 yX6_isOutOf yX6_isOutOf ∈ WALL := ⟨WALL_at 1545 (by decide +kernel) rfl, WALL_at 48 (by decide +kernel) rfl⟩
theorem cal_X6_frames : Cal yX6_frames cX6_frames 7 (some FieldType.int) 1 := ⟨by decide +kernel, ⟨by decide +kernel, by decide +kernel, by decide +kernel⟩, WALL_at 1550 (by decide +kernel) rfl, WALL_at 55 (by decide +kernel) rfl⟩
theorem vi_X6_frames : Cond.instanceMethod yX6_frames ∈ WALL ∧ Cond.selects RX6 yX6_frames yX6_frames ∈ WALL := ⟨WALL_at 1548 (by decide +kernel) rfl, WALL_at 1549 (by decide +kernel) rfl⟩
theorem cal_X6_lend : Cal yX6_lend cX6_lend 9 (some FieldType.int) 4 := ⟨by decide +kernel, ⟨by decide +kernel, by decide +kernel, by decide +kernel⟩, WALL_at 1554 (by decide +kernel) rfl, WALL_at 55 (by decide +kernel) rfl⟩
theorem vi_X6_lend : Cond.instanceMethod yX6_lend ∈ WALL ∧ Cond.selects RX6 yX6_lend yX6_lend ∈ WALL := ⟨WALL_at 1552 (by decide +kernel) rfl, WALL_at 1553 (by decide +kernel) rfl⟩
theorem cal_X6_show : Cal yX6_show cX6_show 4 (some FieldType.int) 1 := ⟨by decide +kernel, ⟨by decide +kernel, by decide +kernel, by decide +kernel⟩, WALL_at 1558 (by decide +kernel) rfl, WALL_at 55 (by decide +kernel) rfl⟩
theorem vi_X6_show : Cond.instanceMethod yX6_show ∈ WALL ∧ Cond.selects RX6 yX6_show yX6_show ∈ WALL := ⟨WALL_at 1556 (by decide +kernel) rfl, WALL_at 1557 (by decide +kernel) rfl⟩
theorem cal_X6_isLoan : Cal yX6_isLoan cX6_isLoan 2 (some FieldType.boolean) 1 := ⟨by decide +kernel, ⟨by decide +kernel, by decide +kernel, by decide +kernel⟩, WALL_at 1562 (by decide +kernel) rfl, WALL_at 55 (by decide +kernel) rfl⟩
theorem vi_X6_isLoan : Cond.instanceMethod yX6_isLoan ∈ WALL ∧ Cond.selects RX6 yX6_isLoan yX6_isLoan ∈ WALL := ⟨WALL_at 1561 (by decide +kernel) rfl, WALL_at 49 (by decide +kernel) rfl⟩
theorem cal_X6_giveBack : Cal yX6_giveBack cX6_giveBack 3 (some FieldType.int) 1 := ⟨by decide +kernel, ⟨by decide +kernel, by decide +kernel, by decide +kernel⟩, WALL_at 1566 (by decide +kernel) rfl, WALL_at 55 (by decide +kernel) rfl⟩
theorem vi_X6_giveBack : Cond.instanceMethod yX6_giveBack ∈ WALL ∧ Cond.selects RX6 yX6_giveBack yX6_giveBack ∈ WALL := ⟨WALL_at 1564 (by decide +kernel) rfl, WALL_at 1565 (by decide +kernel) rfl⟩
theorem cal_X6_advance : Cal yX6_advance cX6_advance 4 (some FieldType.int) 1 := ⟨by decide +kernel, ⟨by decide +kernel, by decide +kernel, by decide +kernel⟩, WALL_at 1570 (by decide +kernel) rfl, WALL_at 55 (by decide +kernel) rfl⟩
theorem vi_X6_advance : Cond.instanceMethod yX6_advance ∈ WALL ∧ Cond.selects RX6 yX6_advance yX6_advance ∈ WALL := ⟨WALL_at 1568 (by decide +kernel) rfl, WALL_at 1569 (by decide +kernel) rfl⟩
theorem cal_X6_shown : Cal yX6_shown cX6_shown 1 (some FieldType.long) 0 := ⟨by decide +kernel, ⟨by decide +kernel, by decide +kernel, by decide +kernel⟩, WALL_at 1574 (by decide +kernel) rfl, WALL_at 55 (by decide +kernel) rfl⟩
theorem vi_X6_shown : Cond.instanceMethod yX6_shown ∈ WALL ∧ Cond.selects RX6 yX6_shown yX6_shown ∈ WALL := ⟨WALL_at 1572 (by decide +kernel) rfl, WALL_at 1573 (by decide +kernel) rfl⟩
theorem cal_X6_keptShare : Cal yX6_keptShare cX6_keptShare 3 (some FieldType.float) 0 := ⟨by decide +kernel, ⟨by decide +kernel, by decide +kernel, by decide +kernel⟩, WALL_at 1578 (by decide +kernel) rfl, WALL_at 55 (by decide +kernel) rfl⟩
theorem vi_X6_keptShare : Cond.instanceMethod yX6_keptShare ∈ WALL ∧ Cond.selects RX6 yX6_keptShare yX6_keptShare ∈ WALL := ⟨WALL_at 1576 (by decide +kernel) rfl, WALL_at 1577 (by decide +kernel) rfl⟩
theorem cal_X6_meanWear : Cal yX6_meanWear cX6_meanWear 5 (some FieldType.double) 0 := ⟨by decide +kernel, ⟨by decide +kernel, by decide +kernel, by decide +kernel⟩, WALL_at 1582 (by decide +kernel) rfl, WALL_at 55 (by decide +kernel) rfl⟩
theorem vi_X6_meanWear : Cond.instanceMethod yX6_meanWear ∈ WALL ∧ Cond.selects RX6 yX6_meanWear yX6_meanWear ∈ WALL := ⟨WALL_at 1580 (by decide +kernel) rfl, WALL_at 1581 (by decide +kernel) rfl⟩
theorem cal_X6_isSound : Cal yX6_isSound cX6_isSound 1 (some FieldType.boolean) 0 := ⟨by decide +kernel, ⟨by decide +kernel, by decide +kernel, by decide +kernel⟩, WALL_at 1586 (by decide +kernel) rfl, WALL_at 55 (by decide +kernel) rfl⟩
theorem vi_X6_isSound : Cond.instanceMethod yX6_isSound ∈ WALL ∧ Cond.selects RX6 yX6_isSound yX6_isSound ∈ WALL := ⟨WALL_at 1584 (by decide +kernel) rfl, WALL_at 1585 (by decide +kernel) rfl⟩
theorem in_Oj : Cond.instanceMethod objectInit ∈ WALL := WALL_at 91 (by decide +kernel) rfl
theorem ini_Ma : Cond.initialized "java/lang/Math" ∈ WALL := WALL_at 62 (by decide +kernel) rfl
theorem ini_Sy : Cond.initialized "java/lang/System" ∈ WALL := WALL_at 64 (by decide +kernel) rfl
theorem co_Oj : Cond.code objectInit ⟨#[0xb1]⟩ 1 none ∈ WALL := WALL_at 92 (by decide +kernel) rfl
theorem kc_Lg_314 : Cond.constantLong RJ13 314 (6148914691236517205) ∈ WALL := WALL_at 218 (by decide +kernel) rfl
theorem kc_Lg_316 : Cond.constantLong RJ13 316 (3689348814741910323) ∈ WALL := WALL_at 219 (by decide +kernel) rfl
theorem kc_Lg_318 : Cond.constantLong RJ13 318 (1085102592571150095) ∈ WALL := WALL_at 220 (by decide +kernel) rfl
theorem ac_byte : Cond.arrayClass .byte ∈ WALL := WALL_at 308 (by decide +kernel) rfl
theorem sm_max : Cond.static Lib.Math.max.name ∈ WALL := WALL_at 346 (by decide +kernel) rfl
theorem co_max : Cond.code Lib.Math.max.name Lib.Math.max.code 2 (some .int) ∈ WALL := WALL_at 347 (by decide +kernel) rfl
theorem kc_As_200 : Cond.constant RJ8 200 (2147483639) ∈ WALL := WALL_at 348 (by decide +kernel) rfl
theorem sm_min : Cond.static Lib.Math.min.name ∈ WALL := WALL_at 383 (by decide +kernel) rfl
theorem co_min : Cond.code Lib.Math.min.name Lib.Math.min.code 2 (some .int) ∈ WALL := WALL_at 384 (by decide +kernel) rfl
theorem st_cp : Cond.static arraycopyName ∈ WALL := WALL_at 386 (by decide +kernel) rfl
theorem na_cp : Cond.native arraycopyName ∈ WALL := WALL_at 387 (by decide +kernel) rfl
theorem kc_Ve_32 : Cond.constantLong RX4 32 (-1) ∈ WALL := WALL_at 1018 (by decide +kernel) rfl
theorem ac_long : Cond.arrayClass .long ∈ WALL := WALL_at 1121 (by decide +kernel) rfl
theorem ac_int : Cond.arrayClass .int ∈ WALL := WALL_at 1351 (by decide +kernel) rfl
theorem ac_boolean : Cond.arrayClass .boolean ∈ WALL := WALL_at 1352 (by decide +kernel) rfl
theorem ac_double : Cond.arrayClass .double ∈ WALL := WALL_at 1587 (by decide +kernel) rfl
end
section
/-! CORE 2: numbers; the rows of the walk over the memory. -/
def iN (z : Int) : Int32 := Int32.ofInt z
def iL (z : Int) : Int64 := Int64.ofInt z
def rg (z : Int) : Prop := -2147483648 ≤ z ∧ z < 2147483648
def bN (b : Bool) : Int := if b then 1 else 0
theorem iN_add (a b : Int) : iN a + iN b = iN (a + b) := (Int32.ofInt_add a b).symm
theorem iN_sub (a b : Int) : iN a - iN b = iN (a - b) := (Int32.ofInt_sub a b).symm
theorem iN_mul (a b : Int) : iN a * iN b = iN (a * b) := (Int32.ofInt_mul a b).symm
theorem iN_T {z : Int} (h : rg z) : (iN z).toInt = z := by
  obtain ⟨h1, h2⟩ := h
  exact Int32.toInt_ofInt_of_le (by simpa using h1) (by simpa using h2)
theorem iN_asI (x : Int32) : iN x.toInt = x := by simp [iN]
theorem iN_lt {a b : Int} (ha : rg a) (hb : rg b) : iN a < iN b ↔ a < b := by rw [Int32.lt_iff_toInt_lt, iN_T ha, iN_T hb]
theorem iN_le {a b : Int} (ha : rg a) (hb : rg b) : iN a ≤ iN b ↔ a ≤ b := by rw [Int32.le_iff_toInt_le, iN_T ha, iN_T hb]
theorem iN_eq {a b : Int} (ha : rg a) (hb : rg b) : iN a = iN b ↔ a = b := ⟨fun h => by rw [← iN_T ha, ← iN_T hb, h], fun h => by rw [h]⟩
theorem iN_0 : (0 : Int32) = iN 0 := by decide
theorem rg_0 : rg 0 := by unfold rg; omega
theorem iN_lt0 {a : Int} (ha : rg a) : iN a < 0 ↔ a < 0 := by rw [iN_0]; exact iN_lt ha rg_0
theorem iN_eq0 {a : Int} (ha : rg a) : iN a = 0 ↔ a = 0 := by rw [iN_0]; exact iN_eq ha rg_0
theorem iN_le0 {a : Int} (ha : rg a) : iN a ≤ 0 ↔ a ≤ 0 := by rw [iN_0]; exact iN_le ha rg_0
theorem iN_ge0 {a : Int} (ha : rg a) : 0 ≤ iN a ↔ 0 ≤ a := by rw [iN_0]; exact iN_le rg_0 ha
theorem iN_gt0 {a : Int} (ha : rg a) : 0 < iN a ↔ 0 < a := by rw [iN_0]; exact iN_lt rg_0 ha
theorem iN_nat {z : Int} (h0 : 0 ≤ z) (h1 : z < 2147483648) : (iN z).toNatClampNeg = z.toNat := by
  show (iN z).toInt.toNat = z.toNat
  rw [iN_T ⟨by omega, h1⟩]
theorem iN_in {z : Int} {n : Nat} (h0 : 0 ≤ z) (h1 : z < n) (h2 : z < 2147483648) : ¬ (iN z < 0 ∨ n ≤ (iN z).toNatClampNeg) := by
  rw [iN_lt0 ⟨by omega, h2⟩, iN_nat h0 h2]
  omega
theorem iN_ofNat (n : Nat) : Int32.ofNat n = iN (n : Int) := by simp [iN, Int32.ofInt_eq_ofNat]
theorem bN_rg (b : Bool) : rg (bN b) := by cases b <;> (unfold rg bN; simp)
theorem bN_0 (b : Bool) : bN b = 0 ↔ b = false := by cases b <;> simp [bN]
section CORE
variable {p : Program} {l : Launch} {e : Env} {R : Room} {s : State} {m : MethodId} {args : Array Value} {below : List Frame} {meth : Method} {c : Code} {nL : Nat} {D : wD} {A : Nat → Prop} {Q : State → Prop}
variable {cc : ByteArray} {own : String} {pc : Nat} {lv : List (Nat × Value)} {st : List Value} {S : wS} {k n : Nat}
theorem FL.use {idx kd j : Nat} (h : FL own idx kd j) (hW : ∀ w ∈ WALL, w.before args s = true) : ∃ ref : String, (Cond.fieldLink own idx ref ((kC kd).2.1 j).2.1 ((kC kd).2.1 j).2.2.1).before args s = true ∧ ∀ x, s.fieldFound? ((kC kd).2.1 j).1 ((kC kd).2.1 j).2.1 ((kC kd).2.1 j).2.2.1 = some x → s.fieldFound? ref ((kC kd).2.1 j).2.1 ((kC kd).2.1 j).2.2.1 = some x := by
  obtain ⟨ref, h1, h2⟩ := h
  refine ⟨ref, hW _ h1, ?_⟩
  rcases h2 with h2 | h2
  · rw [← h2]
    exact fun _ h => h
  · exact u_same (hW _ h2)
/-- other locals, by their numbers -/
theorem J.lvs {lv' : List (Nat × Value)} (hs : ∀ q ∈ lv', lvg lv q.1 = some q.2) (kk : J p l e R s m args below meth c nL D A Q pc lv' st S k n) : J p l e R s m args below meth c nL D A Q pc lv st S k n :=
  fun H locs ls h1 h2 h3 => kk H locs ls (lvg_sub h1 hs) h2 h3
theorem J.widen {k' n' : Nat} (h1 : k ≤ k') (h2 : n ≤ n') (kk : J p l e R s m args below meth c nL D A Q pc lv st S k' n') : J p l e R s m args below meth c nL D A Q pc lv st S k n :=
  fun H locs ls a b c => W.widen h1 h2 (kk H locs ls a b c)
theorem j_iconst (C : Cx p l s m args meth c cc nL own D A) {z : Int} (d : decode cc pc = .ok (.iconst z, 1)) (kk : J p l e R s m args below meth c nL D A Q (pc + 1) lv (.int (iN z) :: st) S k n) : J p l e R s m args below meth c nL D A Q pc lv st S k n :=
  fun H locs ls h1 h2 h3 => lv_iconst C.1 C.2.1 d rfl (kk H locs ls h1 h2 h3)
theorem j_bipush (C : Cx p l s m args meth c cc nL own D A) {z : Int} (d : decode cc pc = .ok (.bipush z, 2)) (hv : (Int8.ofInt z).toInt32 = iN z) (kk : J p l e R s m args below meth c nL D A Q (pc + 2) lv (.int (iN z) :: st) S k n) : J p l e R s m args below meth c nL D A Q pc lv st S k n :=
  fun H locs ls h1 h2 h3 => lv_bipush C.1 C.2.1 d hv (kk H locs ls h1 h2 h3)
theorem j_sipush (C : Cx p l s m args meth c cc nL own D A) {z : Int} (d : decode cc pc = .ok (.sipush z, 3)) (hv : (Int16.ofInt z).toInt32 = iN z) (kk : J p l e R s m args below meth c nL D A Q (pc + 3) lv (.int (iN z) :: st) S k n) : J p l e R s m args below meth c nL D A Q pc lv st S k n :=
  fun H locs ls h1 h2 h3 => lv_sipush C.1 C.2.1 d hv (kk H locs ls h1 h2 h3)
theorem j_lconst (C : Cx p l s m args meth c cc nL own D A) {z : Fin 2} {v : Int} (d : decode cc pc = .ok (.lconst z, 1)) (hv : Int64.ofNat (z : Nat) = iL v) (kk : J p l e R s m args below meth c nL D A Q (pc + 1) lv (.long (iL v) :: st) S k n) : J p l e R s m args below meth c nL D A Q pc lv st S k n :=
  fun H locs ls h1 h2 h3 => lv_lconst C.1 C.2.1 d hv (kk H locs ls h1 h2 h3)
theorem j_null (C : Cx p l s m args meth c cc nL own D A) (d : decode cc pc = .ok (.aconst_null, 1)) (kk : J p l e R s m args below meth c nL D A Q (pc + 1) lv (.null :: st) S k n) : J p l e R s m args below meth c nL D A Q pc lv st S k n :=
  fun H locs ls h1 h2 h3 => lv_null C.1 C.2.1 d (kk H locs ls h1 h2 h3)
theorem j_ldc2 (C : Cx p l s m args meth c cc nL own D A) {idx : Nat} {v : Int64} (hc : Cond.constantLong own idx v ∈ WALL) (d : decode cc pc = .ok (.ldc2_w idx, 3)) (kk : J p l e R s m args below meth c nL D A Q (pc + 3) lv (.long v :: st) S k n) : J p l e R s m args below meth c nL D A Q pc lv st S k n :=
  fun H locs ls h1 h2 h3 => lv_ldc2 C.1 C.2.1 C.2.2.2.1 (C.2.2.2.2.1 _ hc) d (kk H locs ls h1 h2 h3)
theorem j_ldc (C : Cx p l s m args meth c cc nL own D A) {idx : Nat} {v : Int32} {z : Int} (hc : Cond.constant own idx v ∈ WALL) (hz : v = iN z) (d : decode cc pc = .ok (.ldc idx, 2)) (kk : J p l e R s m args below meth c nL D A Q (pc + 2) lv (.int (iN z) :: st) S k n) : J p l e R s m args below meth c nL D A Q pc lv st S k n :=
  fun H locs ls h1 h2 h3 => lv_ldc C.1 C.2.1 C.2.2.2.1 (C.2.2.2.2.1 _ hc) d (hz ▸ kk H locs ls h1 h2 h3)
theorem j_iload_n (C : Cx p l s m args meth c cc nL own D A) {i : Fin 4} {x : Int32} (d : decode cc pc = .ok (.iload_n i, 1)) (hl : lvg lv (i : Nat) = some (.int x)) (kk : J p l e R s m args below meth c nL D A Q (pc + 1) lv (.int x :: st) S k n) : J p l e R s m args below meth c nL D A Q pc lv st S k n :=
  fun H locs ls h1 h2 h3 => lv_iload_n C.1 C.2.1 d rfl (lvg_at h1 hl) (kk H locs ls h1 h2 h3)
theorem j_iload (C : Cx p l s m args meth c cc nL own D A) {i : Nat} {x : Int32} (d : decode cc pc = .ok (.iload i, 2)) (hl : lvg lv i = some (.int x)) (kk : J p l e R s m args below meth c nL D A Q (pc + 2) lv (.int x :: st) S k n) : J p l e R s m args below meth c nL D A Q pc lv st S k n :=
  fun H locs ls h1 h2 h3 => lv_iload C.1 C.2.1 d (lvg_at h1 hl) (kk H locs ls h1 h2 h3)
theorem j_aload_n (C : Cx p l s m args meth c cc nL own D A) {i : Fin 4} {x : Nat} (d : decode cc pc = .ok (.aload_n i, 1)) (hl : lvg lv (i : Nat) = some (.ref x)) (kk : J p l e R s m args below meth c nL D A Q (pc + 1) lv (.ref x :: st) S k n) : J p l e R s m args below meth c nL D A Q pc lv st S k n :=
  fun H locs ls h1 h2 h3 => lv_aload_n C.1 C.2.1 d rfl (lvg_at h1 hl) (kk H locs ls h1 h2 h3)
theorem j_aload (C : Cx p l s m args meth c cc nL own D A) {i : Nat} {x : Nat} (d : decode cc pc = .ok (.aload i, 2)) (hl : lvg lv i = some (.ref x)) (kk : J p l e R s m args below meth c nL D A Q (pc + 2) lv (.ref x :: st) S k n) : J p l e R s m args below meth c nL D A Q pc lv st S k n :=
  fun H locs ls h1 h2 h3 => lv_aload C.1 C.2.1 d (lvg_at h1 hl) (kk H locs ls h1 h2 h3)
theorem j_aload_nN (C : Cx p l s m args meth c cc nL own D A) {i : Fin 4} (d : decode cc pc = .ok (.aload_n i, 1)) (hl : lvg lv (i : Nat) = some .null) (kk : J p l e R s m args below meth c nL D A Q (pc + 1) lv (.null :: st) S k n) : J p l e R s m args below meth c nL D A Q pc lv st S k n :=
  fun H locs ls h1 h2 h3 => lv_aload_nN C.1 C.2.1 d rfl (lvg_at h1 hl) (kk H locs ls h1 h2 h3)
theorem j_lload_n (C : Cx p l s m args meth c cc nL own D A) {i : Fin 4} {x : Int64} (d : decode cc pc = .ok (.lload_n i, 1)) (hl : lvg lv (i : Nat) = some (.long x)) (kk : J p l e R s m args below meth c nL D A Q (pc + 1) lv (.long x :: st) S k n) : J p l e R s m args below meth c nL D A Q pc lv st S k n :=
  fun H locs ls h1 h2 h3 => lv_lload_n C.1 C.2.1 d rfl (lvg_at h1 hl) (kk H locs ls h1 h2 h3)
theorem j_lload (C : Cx p l s m args meth c cc nL own D A) {i : Nat} {x : Int64} (d : decode cc pc = .ok (.lload i, 2)) (hl : lvg lv i = some (.long x)) (kk : J p l e R s m args below meth c nL D A Q (pc + 2) lv (.long x :: st) S k n) : J p l e R s m args below meth c nL D A Q pc lv st S k n :=
  fun H locs ls h1 h2 h3 => lv_lload C.1 C.2.1 d (lvg_at h1 hl) (kk H locs ls h1 h2 h3)
theorem j_istore_n (C : Cx p l s m args meth c cc nL own D A) {i : Fin 4} {x : Int32} (d : decode cc pc = .ok (.istore_n i, 1)) (hn : (i : Nat) < nL) (kk : J p l e R s m args below meth c nL D A Q (pc + 1) (lvp lv i (.int x)) st S k n) : J p l e R s m args below meth c nL D A Q pc lv (.int x :: st) S k n :=
  fun H locs ls h1 h2 h3 => lv_istore_n C.1 C.2.1 d rfl h1 hn rfl (fun ls h1 => kk H locs ls h1 h2 h3)
theorem j_istore (C : Cx p l s m args meth c cc nL own D A) {i : Nat} {x : Int32} (d : decode cc pc = .ok (.istore i, 2)) (hn : i < nL) (kk : J p l e R s m args below meth c nL D A Q (pc + 2) (lvp lv i (.int x)) st S k n) : J p l e R s m args below meth c nL D A Q pc lv (.int x :: st) S k n :=
  fun H locs ls h1 h2 h3 => lv_istore C.1 C.2.1 d h1 hn rfl (fun ls h1 => kk H locs ls h1 h2 h3)
theorem j_astore_n (C : Cx p l s m args meth c cc nL own D A) {i : Fin 4} {x : Nat} (d : decode cc pc = .ok (.astore_n i, 1)) (hn : (i : Nat) < nL) (kk : J p l e R s m args below meth c nL D A Q (pc + 1) (lvp lv i (.ref x)) st S k n) : J p l e R s m args below meth c nL D A Q pc lv (.ref x :: st) S k n :=
  fun H locs ls h1 h2 h3 => lv_astore_n C.1 C.2.1 d rfl h1 hn rfl (fun ls h1 => kk H locs ls h1 h2 h3)
theorem j_astore (C : Cx p l s m args meth c cc nL own D A) {i : Nat} {x : Nat} (d : decode cc pc = .ok (.astore i, 2)) (hn : i < nL) (kk : J p l e R s m args below meth c nL D A Q (pc + 2) (lvp lv i (.ref x)) st S k n) : J p l e R s m args below meth c nL D A Q pc lv (.ref x :: st) S k n :=
  fun H locs ls h1 h2 h3 => lv_astore C.1 C.2.1 d h1 hn rfl (fun ls h1 => kk H locs ls h1 h2 h3)
theorem j_astore_nN (C : Cx p l s m args meth c cc nL own D A) {i : Fin 4} (d : decode cc pc = .ok (.astore_n i, 1)) (hn : (i : Nat) < nL) (kk : J p l e R s m args below meth c nL D A Q (pc + 1) (lvp lv i .null) st S k n) : J p l e R s m args below meth c nL D A Q pc lv (.null :: st) S k n :=
  fun H locs ls h1 h2 h3 => lv_astore_nN C.1 C.2.1 d rfl h1 hn rfl (fun ls h1 => kk H locs ls h1 h2 h3)
/-- a value put into a local of two words -/
def lvp2 (lv : List (Nat × Value)) (i : Nat) (v : Value) : List (Nat × Value) := (i, v) :: lv.filter (fun q => !(q.1 == i) && (!(q.1 == i + 1) && !(q.1 + 1 == i && q.2.category == 2)))
theorem j_lstore_n (C : Cx p l s m args meth c cc nL own D A) {i : Fin 4} {x : Int64} (d : decode cc pc = .ok (.lstore_n i, 1)) (hn : (i : Nat) + 1 < nL) (kk : J p l e R s m args below meth c nL D A Q (pc + 1) (lvp2 lv i (.long x)) st S k n) : J p l e R s m args below meth c nL D A Q pc lv (.long x :: st) S k n :=
  fun H locs ls h1 h2 h3 => lv_lstore_n C.1 C.2.1 d rfl h1 hn rfl (fun ls h1 => kk H locs ls h1 h2 h3)
theorem j_lstore (C : Cx p l s m args meth c cc nL own D A) {i : Nat} {x : Int64} (d : decode cc pc = .ok (.lstore i, 2)) (hn : i + 1 < nL) (kk : J p l e R s m args below meth c nL D A Q (pc + 2) (lvp2 lv i (.long x)) st S k n) : J p l e R s m args below meth c nL D A Q pc lv (.long x :: st) S k n :=
  fun H locs ls h1 h2 h3 => lv_lstore C.1 C.2.1 d h1 hn rfl (fun ls h1 => kk H locs ls h1 h2 h3)
theorem lvg_idx : ∀ {lv : List (Nat × Value)} {i : Nat} {v : Value}, lvg lv i = some v → ∃ q : Nat, lv[q]? = some (i, v) := fun h => List.getElem?_of_mem (lvg_mem h)
theorem j_iinc (C : Cx p l s m args meth c cc nL own D A) {i : Nat} {z x : Int} (d : decode cc pc = .ok (.iinc i z, 3)) (hl : lvg lv i = some (.int (iN x))) (hn : i < nL) (kk : J p l e R s m args below meth c nL D A Q (pc + 3) (lvp lv i (.int (iN (x + z)))) st S k n) : J p l e R s m args below meth c nL D A Q pc lv st S k n := by
  intro H locs ls h1 h2 h3
  obtain ⟨q, hq⟩ := lvg_idx hl
  exact lv_iinc C.1 C.2.1 d h1 hq (iN_add x z) hn rfl (fun ls h1 => kk H locs ls h1 h2 h3)
theorem j_iadd (C : Cx p l s m args meth c cc nL own D A) {x y : Int} (d : decode cc pc = .ok (.iadd, 1)) (kk : J p l e R s m args below meth c nL D A Q (pc + 1) lv (.int (iN (x + y)) :: st) S k n) : J p l e R s m args below meth c nL D A Q pc lv (.int (iN y) :: .int (iN x) :: st) S k n :=
  fun H locs ls h1 h2 h3 => lv_iadd C.1 C.2.1 d (iN_add x y ▸ kk H locs ls h1 h2 h3)
theorem j_isub (C : Cx p l s m args meth c cc nL own D A) {x y : Int} (d : decode cc pc = .ok (.isub, 1)) (kk : J p l e R s m args below meth c nL D A Q (pc + 1) lv (.int (iN (x - y)) :: st) S k n) : J p l e R s m args below meth c nL D A Q pc lv (.int (iN y) :: .int (iN x) :: st) S k n :=
  fun H locs ls h1 h2 h3 => lv_isub C.1 C.2.1 d (iN_sub x y ▸ kk H locs ls h1 h2 h3)
theorem j_imul (C : Cx p l s m args meth c cc nL own D A) {x y : Int} (d : decode cc pc = .ok (.imul, 1)) (kk : J p l e R s m args below meth c nL D A Q (pc + 1) lv (.int (iN (x * y)) :: st) S k n) : J p l e R s m args below meth c nL D A Q pc lv (.int (iN y) :: .int (iN x) :: st) S k n :=
  fun H locs ls h1 h2 h3 => lv_imul C.1 C.2.1 d (iN_mul x y ▸ kk H locs ls h1 h2 h3)
theorem j_goto (C : Cx p l s m args meth c cc nL own D A) {off : Int} {tgt : Nat} (d : decode cc pc = .ok (.goto off, 3)) (ht : (pc : Int) + off = (tgt : Int)) (kk : J p l e R s m args below meth c nL D A Q tgt lv st S k n) : J p l e R s m args below meth c nL D A Q pc lv st S k n :=
  fun H locs ls h1 h2 h3 => lv_goto C.1 C.2.1 d ht (kk H locs ls h1 h2 h3)
theorem j_dup (C : Cx p l s m args meth c cc nL own D A) {v : Value} (d : decode cc pc = .ok (.dup, 1)) (hv : v.category = 1) (kk : J p l e R s m args below meth c nL D A Q (pc + 1) lv (v :: v :: st) S k n) : J p l e R s m args below meth c nL D A Q pc lv (v :: st) S k n :=
  fun H locs ls h1 h2 h3 => lv_dup C.1 C.2.1 d hv (kk H locs ls h1 h2 h3)
theorem j_pop (C : Cx p l s m args meth c cc nL own D A) {v : Value} (d : decode cc pc = .ok (.pop, 1)) (hv : v.category = 1) (kk : J p l e R s m args below meth c nL D A Q (pc + 1) lv st S k n) : J p l e R s m args below meth c nL D A Q pc lv (v :: st) S k n :=
  fun H locs ls h1 h2 h3 => lv_pop C.1 C.2.1 d hv (kk H locs ls h1 h2 h3)
theorem j_dup_x1 (C : Cx p l s m args meth c cc nL own D A) {v w : Value} (d : decode cc pc = .ok (.dup_x1, 1)) (hv : v.category = 1) (hw : w.category = 1) (kk : J p l e R s m args below meth c nL D A Q (pc + 1) lv (v :: w :: v :: st) S k n) : J p l e R s m args below meth c nL D A Q pc lv (v :: w :: st) S k n :=
  fun H locs ls h1 h2 h3 => lv_dup_x1 C.1 C.2.1 d hv hw (kk H locs ls h1 h2 h3)
theorem j_dup2 (C : Cx p l s m args meth c cc nL own D A) {v w : Value} (d : decode cc pc = .ok (.dup2, 1)) (hv : v.category = 1) (hw : w.category = 1) (kk : J p l e R s m args below meth c nL D A Q (pc + 1) lv (v :: w :: v :: w :: st) S k n) : J p l e R s m args below meth c nL D A Q pc lv (v :: w :: st) S k n :=
  fun H locs ls h1 h2 h3 => lv_dup2_11 C.1 C.2.1 d hv hw (kk H locs ls h1 h2 h3)
theorem j_icmp_eq (C : Cx p l s m args meth c cc nL own D A) {a b : Int} {off : Int} {tgt : Nat} (d : decode cc pc = .ok (.if_icmp .eq off, 3)) (ht : (pc : Int) + off = (tgt : Int)) (ha : rg a) (hb : rg b) (kt : a = b → J p l e R s m args below meth c nL D A Q tgt lv st S k n) (kf : ¬ (a = b) → J p l e R s m args below meth c nL D A Q (pc + 3) lv st S k n) : J p l e R s m args below meth c nL D A Q pc lv (.int (iN b) :: .int (iN a) :: st) S k n :=
  fun H locs ls h1 h2 h3 => lv_icmp_eq C.1 C.2.1 d ht (fun h => kt ((iN_eq ha hb).mp h) H locs ls h1 h2 h3) (fun h => kf (fun z => h ((iN_eq ha hb).mpr z)) H locs ls h1 h2 h3)
theorem j_if_eq (C : Cx p l s m args meth c cc nL own D A) {a : Int} {off : Int} {tgt : Nat} (d : decode cc pc = .ok (.ifCond .eq off, 3)) (ht : (pc : Int) + off = (tgt : Int)) (ha : rg a) (kt : a = 0 → J p l e R s m args below meth c nL D A Q tgt lv st S k n) (kf : ¬ (a = 0) → J p l e R s m args below meth c nL D A Q (pc + 3) lv st S k n) : J p l e R s m args below meth c nL D A Q pc lv (.int (iN a) :: st) S k n :=
  fun H locs ls h1 h2 h3 => lv_if_eq C.1 C.2.1 d ht (fun h => kt ((iN_eq0 ha).mp h) H locs ls h1 h2 h3) (fun h => kf (fun z => h ((iN_eq0 ha).mpr z)) H locs ls h1 h2 h3)
theorem j_icmp_ne (C : Cx p l s m args meth c cc nL own D A) {a b : Int} {off : Int} {tgt : Nat} (d : decode cc pc = .ok (.if_icmp .ne off, 3)) (ht : (pc : Int) + off = (tgt : Int)) (ha : rg a) (hb : rg b) (kt : ¬ a = b → J p l e R s m args below meth c nL D A Q tgt lv st S k n) (kf : a = b → J p l e R s m args below meth c nL D A Q (pc + 3) lv st S k n) : J p l e R s m args below meth c nL D A Q pc lv (.int (iN b) :: .int (iN a) :: st) S k n :=
  fun H locs ls h1 h2 h3 => lv_icmp_ne C.1 C.2.1 d ht (fun h => kt (fun z => h ((iN_eq ha hb).mpr z)) H locs ls h1 h2 h3) (fun h => kf ((iN_eq ha hb).mp h) H locs ls h1 h2 h3)
theorem j_if_ne (C : Cx p l s m args meth c cc nL own D A) {a : Int} {off : Int} {tgt : Nat} (d : decode cc pc = .ok (.ifCond .ne off, 3)) (ht : (pc : Int) + off = (tgt : Int)) (ha : rg a) (kt : ¬ a = 0 → J p l e R s m args below meth c nL D A Q tgt lv st S k n) (kf : a = 0 → J p l e R s m args below meth c nL D A Q (pc + 3) lv st S k n) : J p l e R s m args below meth c nL D A Q pc lv (.int (iN a) :: st) S k n :=
  fun H locs ls h1 h2 h3 => lv_if_ne C.1 C.2.1 d ht (fun h => kt (fun z => h ((iN_eq0 ha).mpr z)) H locs ls h1 h2 h3) (fun h => kf ((iN_eq0 ha).mp h) H locs ls h1 h2 h3)
theorem j_icmp_lt (C : Cx p l s m args meth c cc nL own D A) {a b : Int} {off : Int} {tgt : Nat} (d : decode cc pc = .ok (.if_icmp .lt off, 3)) (ht : (pc : Int) + off = (tgt : Int)) (ha : rg a) (hb : rg b) (kt : a < b → J p l e R s m args below meth c nL D A Q tgt lv st S k n) (kf : ¬ (a < b) → J p l e R s m args below meth c nL D A Q (pc + 3) lv st S k n) : J p l e R s m args below meth c nL D A Q pc lv (.int (iN b) :: .int (iN a) :: st) S k n :=
  fun H locs ls h1 h2 h3 => lv_icmp_lt C.1 C.2.1 d ht (fun h => kt ((iN_lt ha hb).mp h) H locs ls h1 h2 h3) (fun h => kf (fun z => h ((iN_lt ha hb).mpr z)) H locs ls h1 h2 h3)
theorem j_if_lt (C : Cx p l s m args meth c cc nL own D A) {a : Int} {off : Int} {tgt : Nat} (d : decode cc pc = .ok (.ifCond .lt off, 3)) (ht : (pc : Int) + off = (tgt : Int)) (ha : rg a) (kt : a < 0 → J p l e R s m args below meth c nL D A Q tgt lv st S k n) (kf : ¬ (a < 0) → J p l e R s m args below meth c nL D A Q (pc + 3) lv st S k n) : J p l e R s m args below meth c nL D A Q pc lv (.int (iN a) :: st) S k n :=
  fun H locs ls h1 h2 h3 => lv_if_lt C.1 C.2.1 d ht (fun h => kt ((iN_lt0 ha).mp h) H locs ls h1 h2 h3) (fun h => kf (fun z => h ((iN_lt0 ha).mpr z)) H locs ls h1 h2 h3)
theorem j_icmp_ge (C : Cx p l s m args meth c cc nL own D A) {a b : Int} {off : Int} {tgt : Nat} (d : decode cc pc = .ok (.if_icmp .ge off, 3)) (ht : (pc : Int) + off = (tgt : Int)) (ha : rg a) (hb : rg b) (kt : b ≤ a → J p l e R s m args below meth c nL D A Q tgt lv st S k n) (kf : ¬ (b ≤ a) → J p l e R s m args below meth c nL D A Q (pc + 3) lv st S k n) : J p l e R s m args below meth c nL D A Q pc lv (.int (iN b) :: .int (iN a) :: st) S k n :=
  fun H locs ls h1 h2 h3 => lv_icmp_ge C.1 C.2.1 d ht (fun h => kt ((iN_le hb ha).mp h) H locs ls h1 h2 h3) (fun h => kf (fun z => h ((iN_le hb ha).mpr z)) H locs ls h1 h2 h3)
theorem j_if_ge (C : Cx p l s m args meth c cc nL own D A) {a : Int} {off : Int} {tgt : Nat} (d : decode cc pc = .ok (.ifCond .ge off, 3)) (ht : (pc : Int) + off = (tgt : Int)) (ha : rg a) (kt : 0 ≤ a → J p l e R s m args below meth c nL D A Q tgt lv st S k n) (kf : ¬ (0 ≤ a) → J p l e R s m args below meth c nL D A Q (pc + 3) lv st S k n) : J p l e R s m args below meth c nL D A Q pc lv (.int (iN a) :: st) S k n :=
  fun H locs ls h1 h2 h3 => lv_if_ge C.1 C.2.1 d ht (fun h => kt ((iN_ge0 ha).mp h) H locs ls h1 h2 h3) (fun h => kf (fun z => h ((iN_ge0 ha).mpr z)) H locs ls h1 h2 h3)
theorem j_icmp_gt (C : Cx p l s m args meth c cc nL own D A) {a b : Int} {off : Int} {tgt : Nat} (d : decode cc pc = .ok (.if_icmp .gt off, 3)) (ht : (pc : Int) + off = (tgt : Int)) (ha : rg a) (hb : rg b) (kt : b < a → J p l e R s m args below meth c nL D A Q tgt lv st S k n) (kf : ¬ (b < a) → J p l e R s m args below meth c nL D A Q (pc + 3) lv st S k n) : J p l e R s m args below meth c nL D A Q pc lv (.int (iN b) :: .int (iN a) :: st) S k n :=
  fun H locs ls h1 h2 h3 => lv_icmp_gt C.1 C.2.1 d ht (fun h => kt ((iN_lt hb ha).mp h) H locs ls h1 h2 h3) (fun h => kf (fun z => h ((iN_lt hb ha).mpr z)) H locs ls h1 h2 h3)
theorem j_if_gt (C : Cx p l s m args meth c cc nL own D A) {a : Int} {off : Int} {tgt : Nat} (d : decode cc pc = .ok (.ifCond .gt off, 3)) (ht : (pc : Int) + off = (tgt : Int)) (ha : rg a) (kt : 0 < a → J p l e R s m args below meth c nL D A Q tgt lv st S k n) (kf : ¬ (0 < a) → J p l e R s m args below meth c nL D A Q (pc + 3) lv st S k n) : J p l e R s m args below meth c nL D A Q pc lv (.int (iN a) :: st) S k n :=
  fun H locs ls h1 h2 h3 => lv_if_gt C.1 C.2.1 d ht (fun h => kt ((iN_gt0 ha).mp h) H locs ls h1 h2 h3) (fun h => kf (fun z => h ((iN_gt0 ha).mpr z)) H locs ls h1 h2 h3)
theorem j_icmp_le (C : Cx p l s m args meth c cc nL own D A) {a b : Int} {off : Int} {tgt : Nat} (d : decode cc pc = .ok (.if_icmp .le off, 3)) (ht : (pc : Int) + off = (tgt : Int)) (ha : rg a) (hb : rg b) (kt : a ≤ b → J p l e R s m args below meth c nL D A Q tgt lv st S k n) (kf : ¬ (a ≤ b) → J p l e R s m args below meth c nL D A Q (pc + 3) lv st S k n) : J p l e R s m args below meth c nL D A Q pc lv (.int (iN b) :: .int (iN a) :: st) S k n :=
  fun H locs ls h1 h2 h3 => lv_icmp_le C.1 C.2.1 d ht (fun h => kt ((iN_le ha hb).mp h) H locs ls h1 h2 h3) (fun h => kf (fun z => h ((iN_le ha hb).mpr z)) H locs ls h1 h2 h3)
theorem j_if_le (C : Cx p l s m args meth c cc nL own D A) {a : Int} {off : Int} {tgt : Nat} (d : decode cc pc = .ok (.ifCond .le off, 3)) (ht : (pc : Int) + off = (tgt : Int)) (ha : rg a) (kt : a ≤ 0 → J p l e R s m args below meth c nL D A Q tgt lv st S k n) (kf : ¬ (a ≤ 0) → J p l e R s m args below meth c nL D A Q (pc + 3) lv st S k n) : J p l e R s m args below meth c nL D A Q pc lv (.int (iN a) :: st) S k n :=
  fun H locs ls h1 h2 h3 => lv_if_le C.1 C.2.1 d ht (fun h => kt ((iN_le0 ha).mp h) H locs ls h1 h2 h3) (fun h => kf (fun z => h ((iN_le0 ha).mpr z)) H locs ls h1 h2 h3)
theorem j_ifeq_b (C : Cx p l s m args meth c cc nL own D A) {b : Bool} {off : Int} {tgt : Nat} (d : decode cc pc = .ok (.ifCond .eq off, 3)) (ht : (pc : Int) + off = (tgt : Int)) (kt : b = false → J p l e R s m args below meth c nL D A Q tgt lv st S k n) (kf : b = true → J p l e R s m args below meth c nL D A Q (pc + 3) lv st S k n) : J p l e R s m args below meth c nL D A Q pc lv (.int (iN (bN b)) :: st) S k n :=
  j_if_eq C d ht (bN_rg b) (fun h => kt ((bN_0 b).mp h)) (fun h => kf (by cases b with | false => exact absurd rfl h | true => rfl))
theorem j_ifne_b (C : Cx p l s m args meth c cc nL own D A) {b : Bool} {off : Int} {tgt : Nat} (d : decode cc pc = .ok (.ifCond .ne off, 3)) (ht : (pc : Int) + off = (tgt : Int)) (kt : b = true → J p l e R s m args below meth c nL D A Q tgt lv st S k n) (kf : b = false → J p l e R s m args below meth c nL D A Q (pc + 3) lv st S k n) : J p l e R s m args below meth c nL D A Q pc lv (.int (iN (bN b)) :: st) S k n :=
  j_if_ne C d ht (bN_rg b) (fun h => kt (by cases b with | false => exact absurd rfl h | true => rfl)) (fun h => kf ((bN_0 b).mp h))
theorem j_acmp_ne (C : Cx p l s m args meth c cc nL own D A) {x y : Nat} {off : Int} {tgt : Nat} (d : decode cc pc = .ok (.if_acmp .ne off, 3)) (ht : (pc : Int) + off = (tgt : Int)) (kt : ¬ x = y → J p l e R s m args below meth c nL D A Q tgt lv st S k n) (kf : x = y → J p l e R s m args below meth c nL D A Q (pc + 3) lv st S k n) : J p l e R s m args below meth c nL D A Q pc lv (.ref y :: .ref x :: st) S k n :=
  fun H locs ls h1 h2 h3 => lv_acmp_ne (rx := some x) (ry := some y) C.1 C.2.1 d ht (fun h => kt (fun z => h (by rw [z])) H locs ls h1 h2 h3) (fun h => kf (Option.some.inj h) H locs ls h1 h2 h3)
theorem j_acmp_eq (C : Cx p l s m args meth c cc nL own D A) {x y : Nat} {off : Int} {tgt : Nat} (d : decode cc pc = .ok (.if_acmp .eq off, 3)) (ht : (pc : Int) + off = (tgt : Int)) (kt : x = y → J p l e R s m args below meth c nL D A Q tgt lv st S k n) (kf : ¬ x = y → J p l e R s m args below meth c nL D A Q (pc + 3) lv st S k n) : J p l e R s m args below meth c nL D A Q pc lv (.ref y :: .ref x :: st) S k n :=
  fun H locs ls h1 h2 h3 => lv_acmp_eq (rx := some x) (ry := some y) C.1 C.2.1 d ht (fun h => kt (Option.some.inj h) H locs ls h1 h2 h3) (fun h => kf (fun z => h (by rw [z])) H locs ls h1 h2 h3)
theorem j_acmp_neN (C : Cx p l s m args meth c cc nL own D A) {y : Nat} {off : Int} {tgt : Nat} (d : decode cc pc = .ok (.if_acmp .ne off, 3)) (ht : (pc : Int) + off = (tgt : Int)) (kt : J p l e R s m args below meth c nL D A Q tgt lv st S k n) : J p l e R s m args below meth c nL D A Q pc lv (.ref y :: .null :: st) S k n :=
  fun H locs ls h1 h2 h3 => lv_acmp_ne (rx := none) (ry := some y) C.1 C.2.1 d ht (fun h => kt H locs ls h1 h2 h3) (fun h => by cases h)
theorem j_ifnonnull (C : Cx p l s m args meth c cc nL own D A) {x : Nat} {off : Int} {tgt : Nat} (d : decode cc pc = .ok (.ifnonnull off, 3)) (ht : (pc : Int) + off = (tgt : Int)) (kk : J p l e R s m args below meth c nL D A Q tgt lv st S k n) : J p l e R s m args below meth c nL D A Q pc lv (.ref x :: st) S k n :=
  fun H locs ls h1 h2 h3 => lv_ifnonnull C.1 C.2.1 d ht (kk H locs ls h1 h2 h3)
theorem j_ifnonnullN (C : Cx p l s m args meth c cc nL own D A) {off : Int} (d : decode cc pc = .ok (.ifnonnull off, 3)) (kk : J p l e R s m args below meth c nL D A Q (pc + 3) lv st S k n) : J p l e R s m args below meth c nL D A Q pc lv (.null :: st) S k n :=
  fun H locs ls h1 h2 h3 => lv_ifnonnullN C.1 C.2.1 d (kk H locs ls h1 h2 h3)
theorem j_ifnull (C : Cx p l s m args meth c cc nL own D A) {x : Nat} {off : Int} (d : decode cc pc = .ok (.ifnull off, 3)) (kk : J p l e R s m args below meth c nL D A Q (pc + 3) lv st S k n) : J p l e R s m args below meth c nL D A Q pc lv (.ref x :: st) S k n :=
  fun H locs ls h1 h2 h3 => lv_ifnull C.1 C.2.1 d (kk H locs ls h1 h2 h3)
theorem j_ifnullN (C : Cx p l s m args meth c cc nL own D A) {off : Int} {tgt : Nat} (d : decode cc pc = .ok (.ifnull off, 3)) (ht : (pc : Int) + off = (tgt : Int)) (kk : J p l e R s m args below meth c nL D A Q tgt lv st S k n) : J p l e R s m args below meth c nL D A Q pc lv (.null :: st) S k n :=
  fun H locs ls h1 h2 h3 => lv_ifnullN C.1 C.2.1 d ht (kk H locs ls h1 h2 h3)
theorem j_mmax (C : Cx p l s m args meth c cc nL own D A) {idx : Nat} {x y : Int} (hl : Cond.methodLink own idx Lib.Math.max.name ∈ WALL) (hx : rg x) (hy : rg y) (hr : 1 ≤ R.frames ∧ (st.map fun v => v.category).sum + 13 ≤ R.locals ∧ k ≤ R.cells ∧ n ≤ R.slots) (d : decode cc pc = .ok (.invokestatic idx, 3))
    (kk : J p l e R s m args below meth c nL D A Q (pc + 3) lv (.int (iN (max x y)) :: st) S k n) : J p l e R s m args below meth c nL D A Q pc lv (.int (iN y) :: .int (iN x) :: st) S k n := by
  intro H locs ls h1 h2 h3
  obtain ⟨c1, c2, c3, c4, c5, -⟩ := C
  refine va_mmax c1 c2 (by rw [c3]; exact h1.1.symm) c4 (c5 _ hl) (c5 _ sm_max) (c5 _ ini_Ma) (c5 _ co_max) hr.1 hr.2.1 hr.2.2.1 hr.2.2.2 d ?_
  have e : (if iN x < iN y then iN y else iN x) = iN (max x y) := by
    by_cases q : x < y
    · rw [if_pos ((iN_lt hx hy).mpr q)]; congr 1; omega
    · rw [if_neg (fun z => q ((iN_lt hx hy).mp z))]; congr 1; omega
  rw [e]
  exact kk H locs ls h1 h2 h3
theorem j_mmin (C : Cx p l s m args meth c cc nL own D A) {idx : Nat} {x y : Int} (hl : Cond.methodLink own idx Lib.Math.min.name ∈ WALL) (hx : rg x) (hy : rg y) (hr : 1 ≤ R.frames ∧ (st.map fun v => v.category).sum + 13 ≤ R.locals ∧ k ≤ R.cells ∧ n ≤ R.slots) (d : decode cc pc = .ok (.invokestatic idx, 3))
    (kk : J p l e R s m args below meth c nL D A Q (pc + 3) lv (.int (iN (min x y)) :: st) S k n) : J p l e R s m args below meth c nL D A Q pc lv (.int (iN y) :: .int (iN x) :: st) S k n := by
  intro H locs ls h1 h2 h3
  obtain ⟨c1, c2, c3, c4, c5, -⟩ := C
  refine va_mmin c1 c2 (by rw [c3]; exact h1.1.symm) c4 (c5 _ hl) (c5 _ sm_min) (c5 _ ini_Ma) (c5 _ co_min) hr.1 hr.2.1 hr.2.2.1 hr.2.2.2 d ?_
  have e : (if iN y < iN x then iN y else iN x) = iN (min x y) := by
    by_cases q : y < x
    · rw [if_pos ((iN_lt hy hx).mpr q)]; congr 1; omega
    · rw [if_neg (fun z => q ((iN_lt hy hx).mp z))]; congr 1; omega
  rw [e]
  exact kk H locs ls h1 h2 h3
/-- getfield -/
theorem j_get (C : Cx p l s m args meth c cc nL own D A) {a kd j idx : Nat} {v : Value} (hf : FL own idx kd j) (hk : sK S a = kd) (h8 : 1 ≤ kd ∧ kd ≤ 8 ∧ j < (kC kd).2.2) (hv : sG S (64 * kd + j) a = v) (d : decode cc pc = .ok (.getfield idx, 3))
    (kk : J p l e R s m args below meth c nL D A Q (pc + 3) lv (v :: st) S k n) : J p l e R s m args below meth c nL D A Q pc lv (.ref a :: st) S k n := by
  intro H locs ls h1 h2 h3
  obtain ⟨c1, c2, c3, c4, c5, c6, -⟩ := C
  obtain ⟨g1, g2, g3⟩ := h8
  obtain ⟨ref, f1, f2⟩ := hf.use c5
  obtain ⟨-, w2, -⟩ := h2 a (by omega)
  obtain ⟨cell, q1, q2, q3, q4⟩ := w2.1 (by omega)
  rw [hk] at q2 q4
  obtain ⟨hS, hfc, kC9, hkC, hkind⟩ := c6.1 kd g1 g2
  obtain ⟨cf, kf, fi, f, hi, hsl⟩ := hS j g3
  refine W.getf c1 c2 c4 f1 (f2 _ hi) (u_facts hfc hkC (u_lays c5 (kC_in kd g1 g2) g3) hi).1 q1 (by rw [q3]; exact fun h => by cases h) (v := v) ?_ rfl rfl d (kk H locs ls h1 h2 h3)
  rw [hsl, q4 j g3]
  exact congrArg some hv
theorem wI_put {H H' : Heap} {a kd j : Nat} {v : Value} (h2 : wI D A S H) (hk : sK S a = kd) (h8 : 1 ≤ kd ∧ kd ≤ 8 ∧ j < (kC kd).2.2) (hn : ∀ x y, x < (kC kd).2.2 → y < (kC kd).2.2 → x ≠ y → D.2.1 kd x ≠ D.2.1 kd y) {cell : Cell} (q2 : cell.cls = D.1 kd) (q3 : cell.vm = .none) (q4 : ∀ i, i < (kC kd).2.2 → cell.slots[D.2.1 kd i]? = some (sG S (64 * kd + i) a)) (e1 : H'[a]? = some (cell.setSlot (D.2.1 kd j) v)) (e3 : ∀ q, q ≠ a → H'[q]? = H[q]?) : wI D A (sPut S (64 * kd + j) a v) H' := by
  intro b hb
  obtain ⟨w1, w2, w3⟩ := h2 b hb
  refine ⟨w1, ?_, w3⟩
  obtain ⟨g1, g2, g3⟩ := h8
  by_cases e : b = a
  · subst e
    refine ⟨fun q => ?_, fun q => ?_⟩
    · show t_OB b (D.1 (sK S b)) (kC (sK S b)).2.2 (D.2.1 (sK S b)) H' _
      rw [hk]
      refine t_OB.to (V := updV (fun i => sG S (64 * kd + i) b) j v) ⟨_, e1, q2, q3, t_set q4 hn g3 v⟩ (fun i hi => ?_)
      show (if i = j then v else sG S (64 * kd + i) b) = if (64 * sK S b + i = 64 * kd + j ∧ b = b) then v else sG S (64 * sK S b + i) b
      rw [hk]
      by_cases z : i = j
      · subst z; simp
      · rw [if_neg z, if_neg (by omega)]
    · exact absurd (show 9 ≤ sK S b from q) (by omega)
  · refine ⟨fun q => ?_, fun q => ?_⟩
    · refine ((w2.1 q).kept (e3 b e)).to (fun i hi => ?_)
      show sG S (64 * sK S b + i) b = if (64 * sK S b + i = 64 * kd + j ∧ b = a) then v else sG S (64 * sK S b + i) b
      rw [if_neg (fun z => e z.2)]
    · show H'[b]? = _
      rw [e3 b e]
      exact w2.2 q
/-- putfield of a field that isn't final -/
theorem j_put (C : Cx p l s m args meth c cc nL own D A) {a kd j idx : Nat} {v : Value} (hf : FL own idx kd j) (hk : sK S a = kd) (h8 : 1 ≤ kd ∧ kd ≤ 8 ∧ j < (kC kd).2.2) (hfin : ((kC kd).2.1 j).2.2.2 = false) (hn : narrow (kT kd j) v = v) (hfit : fits (kT kd j) v = true) (d : decode cc pc = .ok (.putfield idx, 3))
    (kk : J p l e R s m args below meth c nL D A Q (pc + 3) lv st (sPut S (64 * kd + j) a v) k n) : J p l e R s m args below meth c nL D A Q pc lv (v :: .ref a :: st) S k n := by
  intro H locs ls h1 h2 h3
  obtain ⟨c1, c2, c3, c4, c5, c6, -⟩ := C
  obtain ⟨g1, g2, g3⟩ := h8
  obtain ⟨ref, f1, f2⟩ := hf.use c5
  obtain ⟨-, w2, w3⟩ := h2 a (by omega)
  obtain ⟨cell, q1, q2, q3, q4⟩ := w2.1 (by omega)
  rw [hk] at q2 q4
  obtain ⟨hS, hfc, kC9, hkC, hkind⟩ := c6.1 kd g1 g2
  have hap : ∀ x y, x < (kC kd).2.2 → y < (kC kd).2.2 → x ≠ y → D.2.1 kd x ≠ D.2.1 kd y := by
    intro x y hx hy hne
    obtain ⟨_, _, _, fa, hia, ea⟩ := hS x hx
    obtain ⟨_, _, _, fb, hib, eb⟩ := hS y hy
    rw [← ea, ← eb]
    refine u_apart (u_lays c5 (kC_in kd g1 g2) hx) (u_lays c5 (kC_in kd g1 g2) hy) hia hib ?_
    rw [(State.fieldFound?_type hia (kC_ty kd g1 g2 x hx)).1, (State.fieldFound?_type hib (kC_ty kd g1 g2 y hy)).1]
    exact kC_nm kd g1 g2 x hx y hy hne
  obtain ⟨cf, kf, fi, f, hi, hsl⟩ := hS j g3
  have hlay := c5 _ (kC_in kd g1 g2 _ (u_in_lay g3))
  unfold u_lay at hlay
  rw [if_neg (by rw [hfin]; decide)] at hlay
  have hst := (u_facts hfc hkC (u_lays c5 (kC_in kd g1 g2) g3) hi).1
  have h6 := u_store hfc hkC hkind hlay hi (kC_ty kd g1 g2 j g3) hn hfit
  refine W.putK c1 c2 (f := f) ⟨c4, f1, ⟨_, _, _, f2 _ hi⟩, hst⟩ (by rw [q2]; exact h6) q1 q3 (by rw [hsl]; exact k2_hasslot (q4 j g3)) rfl rfl d fun H' e1 e2 e3 => ?_
  rw [hsl] at e1 ⊢
  exact kk H' _ ls h1 (wI_put h2 hk ⟨g1, g2, g3⟩ hap q2 q3 q4 e1 e3) (h3.put e2 e3 w3)
/-- putfield of a final field in a constructor -/
theorem j_putF (C : Cx p l s m args meth c cc nL own D A) (hin : meth.name = "<init>") {a kd j idx : Nat} {v : Value} (hf : FL own idx kd j) (hk : sK S a = kd) (h8 : 1 ≤ kd ∧ kd ≤ 8 ∧ j < (kC kd).2.2) (hfin : ((kC kd).2.1 j).2.2.2 = true) (hdecl : ((kC kd).2.1 j).1 = own) (hn : narrow (kT kd j) v = v) (hfit : fits (kT kd j) v = true) (d : decode cc pc = .ok (.putfield idx, 3))
    (kk : J p l e R s m args below meth c nL D A Q (pc + 3) lv st (sPut S (64 * kd + j) a v) k n) : J p l e R s m args below meth c nL D A Q pc lv (v :: .ref a :: st) S k n := by
  intro H locs ls h1 h2 h3
  obtain ⟨c1, c2, c3, c4, c5, c6, -⟩ := C
  obtain ⟨g1, g2, g3⟩ := h8
  obtain ⟨ref, f1, f2⟩ := hf.use c5
  obtain ⟨-, w2, w3⟩ := h2 a (by omega)
  obtain ⟨cell, q1, q2, q3, q4⟩ := w2.1 (by omega)
  rw [hk] at q2 q4
  obtain ⟨hS, hfc, kC9, hkC, hkind⟩ := c6.1 kd g1 g2
  have hap : ∀ x y, x < (kC kd).2.2 → y < (kC kd).2.2 → x ≠ y → D.2.1 kd x ≠ D.2.1 kd y := by
    intro x y hx hy hne
    obtain ⟨_, _, _, fa, hia, ea⟩ := hS x hx
    obtain ⟨_, _, _, fb, hib, eb⟩ := hS y hy
    rw [← ea, ← eb]
    refine u_apart (u_lays c5 (kC_in kd g1 g2) hx) (u_lays c5 (kC_in kd g1 g2) hy) hia hib ?_
    rw [(State.fieldFound?_type hia (kC_ty kd g1 g2 x hx)).1, (State.fieldFound?_type hib (kC_ty kd g1 g2 y hy)).1]
    exact kC_nm kd g1 g2 x hx y hy hne
  obtain ⟨cf, kf, fi, f, hi, hsl⟩ := hS j g3
  have hlay := c5 _ (kC_in kd g1 g2 _ (u_in_lay g3))
  unfold u_lay at hlay
  rw [if_pos hfin] at hlay
  have hst := (u_facts hfc hkC (u_lays c5 (kC_in kd g1 g2) g3) hi).1
  have hcf : m.cls = cf := by
    obtain ⟨_, _, c', _, _, _, -, -, hf', -, -, -, hown2, -⟩ := Cond.laysFinal_spec hlay
    have e1 : c' = cf := by have := hi.symm.trans hf'; simp at this; exact this.1.symm
    rw [hdecl] at hown2
    rw [← e1]; exact Option.some.inj (c4.symm.trans hown2)
  have h6 := u_fits hfc hkC hkind (Or.inr hlay) hi (kC_ty kd g1 g2 j g3) hn hfit
  refine W.putFinK c1 c2 c4 f1 (f2 _ hi) hst hcf hin (by rw [q2]; exact h6) q1 q3 (by rw [hsl]; exact k2_hasslot (q4 j g3)) rfl rfl d fun H' e1 e2 e3 => ?_
  rw [hsl] at e1 ⊢
  exact kk H' _ ls h1 (wI_put h2 hk ⟨g1, g2, g3⟩ hap q2 q3 q4 e1 e3) (h3.put e2 e3 w3)
theorem wI_putE {H H' : Heap} {a kd i : Nat} {v : Value} (h2 : wI D A S H) (hk : sK S a = kd) (h9 : 9 ≤ kd) (hi : i < sN S a) (e1 : H'[a]? = some ((arrV (D.1 kd) (sN S a) (fun j => sE S kd a j)).setSlot i v)) (e3 : ∀ q, q ≠ a → H'[q]? = H[q]?) : wI D A (sPutE S kd a i v) H' := by
  intro b hb
  obtain ⟨w1, w2, w3⟩ := h2 b hb
  refine ⟨w1, ?_, w3⟩
  by_cases e : b = a
  · subst e
    refine ⟨fun q => absurd (show sK S b ≤ 8 from q) (by omega), fun q => ?_⟩
    show H'[b]? = some (arrV (D.1 (sK S b)) (sN S b) (fun j => if (sK S b = kd ∧ b = b ∧ j = i) then v else sE S (sK S b) b j))
    rw [e1, hk, arrV_store]
    congr 2
    funext j
    by_cases z : j = i
    · subst z; simp [updV]
    · simp [updV, z]
  · refine ⟨fun q => (w2.1 q).kept (e3 b e), fun q => ?_⟩
    show H'[b]? = some (arrV (D.1 (sK S b)) (sN S b) (fun j => if (sK S b = kd ∧ b = a ∧ j = i) then v else sE S (sK S b) b j))
    rw [e3 b e, w2.2 q]
    congr 2
    funext j
    rw [if_neg (fun z => e z.2.1)]
theorem j_iald (C : Cx p l s m args meth c cc nL own D A) {a : Nat} {z : Int} {v : Value} (hk : sK S a = 9) (hz : 0 ≤ z ∧ z < (sN S a : Int) ∧ z < 2147483648) (hv : sE S 9 a z.toNat = v) (d : decode cc pc = .ok (.iaload, 1)) (kk : J p l e R s m args below meth c nL D A Q (pc + 1) lv (v :: st) S k n) : J p l e R s m args below meth c nL D A Q pc lv (.int (iN z) :: .ref a :: st) S k n := by
  intro H locs ls h1 h2 h3
  obtain ⟨c1, c2, c3, c4, c5, c6, -⟩ := C
  obtain ⟨-, w2, -⟩ := h2 a (by omega)
  have q1 := w2.2 (by omega)
  rw [hk] at q1
  refine W.iald c1 c2 q1 ((c6.2 9 (by omega) (by omega)).1 _ _) (fun h => by cases h) (by rw [arrV_size]; exact iN_in hz.1 hz.2.1 hz.2.2) (v := v) (by rw [iN_nat hz.1 hz.2.2, arrV_read _ _ (by omega), hv]) rfl rfl d (kk H locs ls h1 h2 h3)
theorem j_lald (C : Cx p l s m args meth c cc nL own D A) {a : Nat} {z : Int} {v : Value} (hk : sK S a = 10) (hz : 0 ≤ z ∧ z < (sN S a : Int) ∧ z < 2147483648) (hv : sE S 10 a z.toNat = v) (d : decode cc pc = .ok (.laload, 1)) (kk : J p l e R s m args below meth c nL D A Q (pc + 1) lv (v :: st) S k n) : J p l e R s m args below meth c nL D A Q pc lv (.int (iN z) :: .ref a :: st) S k n := by
  intro H locs ls h1 h2 h3
  obtain ⟨c1, c2, c3, c4, c5, c6, -⟩ := C
  obtain ⟨-, w2, -⟩ := h2 a (by omega)
  have q1 := w2.2 (by omega)
  rw [hk] at q1
  refine W.lald c1 c2 q1 ((c6.2 10 (by omega) (by omega)).1 _ _) (fun h => by cases h) (by rw [arrV_size]; exact iN_in hz.1 hz.2.1 hz.2.2) (v := v) (by rw [iN_nat hz.1 hz.2.2, arrV_read _ _ (by omega), hv]) rfl rfl d (kk H locs ls h1 h2 h3)
theorem j_zald (C : Cx p l s m args meth c cc nL own D A) {a : Nat} {z : Int} {v : Value} (hk : sK S a = 11) (hz : 0 ≤ z ∧ z < (sN S a : Int) ∧ z < 2147483648) (hv : sE S 11 a z.toNat = v) (d : decode cc pc = .ok (.baload, 1)) (kk : J p l e R s m args below meth c nL D A Q (pc + 1) lv (v :: st) S k n) : J p l e R s m args below meth c nL D A Q pc lv (.int (iN z) :: .ref a :: st) S k n := by
  intro H locs ls h1 h2 h3
  obtain ⟨c1, c2, c3, c4, c5, c6, -⟩ := C
  obtain ⟨-, w2, -⟩ := h2 a (by omega)
  have q1 := w2.2 (by omega)
  rw [hk] at q1
  refine W.zald c1 c2 q1 ((c6.2 11 (by omega) (by omega)).1 _ _) (fun h => by cases h) (by rw [arrV_size]; exact iN_in hz.1 hz.2.1 hz.2.2) (v := v) (by rw [iN_nat hz.1 hz.2.2, arrV_read _ _ (by omega), hv]) rfl rfl d (kk H locs ls h1 h2 h3)
theorem j_aald (C : Cx p l s m args meth c cc nL own D A) {a : Nat} {z : Int} {v : Value} (hk : sK S a = 12) (hz : 0 ≤ z ∧ z < (sN S a : Int) ∧ z < 2147483648) (hv : sE S 12 a z.toNat = v) (d : decode cc pc = .ok (.aaload, 1)) (kk : J p l e R s m args below meth c nL D A Q (pc + 1) lv (v :: st) S k n) : J p l e R s m args below meth c nL D A Q pc lv (.int (iN z) :: .ref a :: st) S k n := by
  intro H locs ls h1 h2 h3
  obtain ⟨c1, c2, c3, c4, c5, c6, -⟩ := C
  obtain ⟨-, w2, -⟩ := h2 a (by omega)
  have q1 := w2.2 (by omega)
  rw [hk] at q1
  refine W.aald (ty := .object "java/lang/Object") c1 c2 q1 ((c6.2 12 (by omega) (by omega)).1 _ _) rfl (fun h => by cases h) (by rw [arrV_size]; exact iN_in hz.1 hz.2.1 hz.2.2) (v := v) (by rw [iN_nat hz.1 hz.2.2, arrV_read _ _ (by omega), hv]) rfl rfl d (kk H locs ls h1 h2 h3)
theorem j_dald (C : Cx p l s m args meth c cc nL own D A) {a : Nat} {z : Int} {v : Value} (hk : sK S a = 13) (hz : 0 ≤ z ∧ z < (sN S a : Int) ∧ z < 2147483648) (hv : sE S 13 a z.toNat = v) (d : decode cc pc = .ok (.daload, 1)) (kk : J p l e R s m args below meth c nL D A Q (pc + 1) lv (v :: st) S k n) : J p l e R s m args below meth c nL D A Q pc lv (.int (iN z) :: .ref a :: st) S k n := by
  intro H locs ls h1 h2 h3
  obtain ⟨c1, c2, c3, c4, c5, c6, -⟩ := C
  obtain ⟨-, w2, -⟩ := h2 a (by omega)
  have q1 := w2.2 (by omega)
  rw [hk] at q1
  refine W.dald c1 c2 q1 ((c6.2 13 (by omega) (by omega)).1 _ _) (fun h => by cases h) (by rw [arrV_size]; exact iN_in hz.1 hz.2.1 hz.2.2) (v := v) (by rw [iN_nat hz.1 hz.2.2, arrV_read _ _ (by omega), hv]) rfl rfl d (kk H locs ls h1 h2 h3)
theorem j_iast (C : Cx p l s m args meth c cc nL own D A) {a : Nat} {z : Int} {x : Int32} (hk : sK S a = 9) (hz : 0 ≤ z ∧ z < (sN S a : Int) ∧ z < 2147483648) (d : decode cc pc = .ok (.iastore, 1)) (kk : J p l e R s m args below meth c nL D A Q (pc + 1) lv st (sPutE S 9 a z.toNat (.int x)) k n) : J p l e R s m args below meth c nL D A Q pc lv (.int x :: .int (iN z) :: .ref a :: st) S k n := by
  intro H locs ls h1 h2 h3
  obtain ⟨c1, c2, c3, c4, c5, c6, -⟩ := C
  obtain ⟨-, w2, w3⟩ := h2 a (by omega)
  have q1 := w2.2 (by omega)
  rw [hk] at q1
  refine W.iast c1 c2 q1 ((c6.2 9 (by omega) (by omega)).1 _ _) (fun h => by cases h) (by rw [arrV_size]; exact iN_in hz.1 hz.2.1 hz.2.2) rfl rfl d (fun H' e1 e2 e3 => ?_)
  rw [iN_nat hz.1 hz.2.2] at e1 ⊢
  exact kk H' _ ls h1 (wI_putE h2 hk (by omega) (by omega) e1 e3) (h3.put e2 e3 w3)
theorem j_last (C : Cx p l s m args meth c cc nL own D A) {a : Nat} {z : Int} {x : Int64} (hk : sK S a = 10) (hz : 0 ≤ z ∧ z < (sN S a : Int) ∧ z < 2147483648) (d : decode cc pc = .ok (.lastore, 1)) (kk : J p l e R s m args below meth c nL D A Q (pc + 1) lv st (sPutE S 10 a z.toNat (.long x)) k n) : J p l e R s m args below meth c nL D A Q pc lv (.long x :: .int (iN z) :: .ref a :: st) S k n := by
  intro H locs ls h1 h2 h3
  obtain ⟨c1, c2, c3, c4, c5, c6, -⟩ := C
  obtain ⟨-, w2, w3⟩ := h2 a (by omega)
  have q1 := w2.2 (by omega)
  rw [hk] at q1
  refine W.last c1 c2 q1 ((c6.2 10 (by omega) (by omega)).1 _ _) (fun h => by cases h) (by rw [arrV_size]; exact iN_in hz.1 hz.2.1 hz.2.2) rfl rfl d (fun H' e1 e2 e3 => ?_)
  rw [iN_nat hz.1 hz.2.2] at e1 ⊢
  exact kk H' _ ls h1 (wI_putE h2 hk (by omega) (by omega) e1 e3) (h3.put e2 e3 w3)
theorem j_dast (C : Cx p l s m args meth c cc nL own D A) {a : Nat} {z : Int} {x : UInt64} (hk : sK S a = 13) (hz : 0 ≤ z ∧ z < (sN S a : Int) ∧ z < 2147483648) (d : decode cc pc = .ok (.dastore, 1)) (kk : J p l e R s m args below meth c nL D A Q (pc + 1) lv st (sPutE S 13 a z.toNat (.double x)) k n) : J p l e R s m args below meth c nL D A Q pc lv (.double x :: .int (iN z) :: .ref a :: st) S k n := by
  intro H locs ls h1 h2 h3
  obtain ⟨c1, c2, c3, c4, c5, c6, -⟩ := C
  obtain ⟨-, w2, w3⟩ := h2 a (by omega)
  have q1 := w2.2 (by omega)
  rw [hk] at q1
  refine W.dast c1 c2 q1 ((c6.2 13 (by omega) (by omega)).1 _ _) (fun h => by cases h) (by rw [arrV_size]; exact iN_in hz.1 hz.2.1 hz.2.2) rfl rfl d (fun H' e1 e2 e3 => ?_)
  rw [iN_nat hz.1 hz.2.2] at e1 ⊢
  exact kk H' _ ls h1 (wI_putE h2 hk (by omega) (by omega) e1 e3) (h3.put e2 e3 w3)
theorem j_zast (C : Cx p l s m args meth c cc nL own D A) {a : Nat} {z : Int} {b : Bool} (hk : sK S a = 11) (hz : 0 ≤ z ∧ z < (sN S a : Int) ∧ z < 2147483648) (d : decode cc pc = .ok (.bastore, 1)) (kk : J p l e R s m args below meth c nL D A Q (pc + 1) lv st (sPutE S 11 a z.toNat (.int (iN (bN b)))) k n) : J p l e R s m args below meth c nL D A Q pc lv (.int (iN (bN b)) :: .int (iN z) :: .ref a :: st) S k n := by
  intro H locs ls h1 h2 h3
  obtain ⟨c1, c2, c3, c4, c5, c6, -⟩ := C
  obtain ⟨-, w2, w3⟩ := h2 a (by omega)
  have q1 := w2.2 (by omega)
  rw [hk] at q1
  refine W.zast c1 c2 q1 ((c6.2 11 (by omega) (by omega)).1 _ _) (fun h => by cases h) (by rw [arrV_size]; exact iN_in hz.1 hz.2.1 hz.2.2) rfl rfl d (fun H' e1 e2 e3 => ?_)
  rw [iN_nat hz.1 hz.2.2] at e1 ⊢
  have e0 : narrow .boolean (.int (iN (bN b))) = .int (iN (bN b)) := by cases b <;> decide
  rw [e0] at e1
  exact kk H' _ ls h1 (wI_putE h2 hk (by omega) (by omega) e1 e3) (h3.put e2 e3 w3)
theorem j_alen (C : Cx p l s m args meth c cc nL own D A) {a kd : Nat} (hk : sK S a = kd) (h9 : 9 ≤ kd ∧ kd ≤ 13) (d : decode cc pc = .ok (.arraylength, 1)) (kk : J p l e R s m args below meth c nL D A Q (pc + 1) lv (.int (iN (sN S a)) :: st) S k n) : J p l e R s m args below meth c nL D A Q pc lv (.ref a :: st) S k n := by
  intro H locs ls h1 h2 h3
  obtain ⟨c1, c2, c3, c4, c5, c6, -⟩ := C
  obtain ⟨-, w2, -⟩ := h2 a (by omega)
  have q1 := w2.2 (by omega)
  rw [hk] at q1
  refine W.alen (n := iN (sN S a)) c1 c2 q1 ((c6.2 kd h9.1 h9.2).1 _ _) ?_ rfl rfl d (kk H locs ls h1 h2 h3)
  rw [arrV_size]
  exact iN_ofNat _
/-- what is known of ArrayList's empty row: it isn't ours -/
theorem j_ea (C : Cx p l s m args meth c cc nL own D A) (kk : sK S D.2.2.1 = 0 → J p l e R s m args below meth c nL D A Q pc lv st S k n) : J p l e R s m args below meth c nL D A Q pc lv st S k n := by
  intro H locs ls h1 h2 h3
  obtain ⟨c1, c2, c3, c4, c5, c6, c7, -⟩ := C
  refine kk ?_ H locs ls h1 h2 h3
  rcases Nat.eq_zero_or_pos (sK S D.2.2.1) with q | q
  · exact q
  · exact absurd (h2 _ (by omega)).2.2 c7.2.2.2.2
theorem wI_new {H H' : Heap} {kd : Nat} {f : Nat → Value} (h2 : wI D A S H) (h8 : 1 ≤ kd ∧ kd ≤ 8) (hA : A H.size) (e1 : t_OB H.size (D.1 kd) (kC kd).2.2 (D.2.1 kd) H' f) (e3 : ∀ q, q < H.size → H'[q]? = H[q]?) : wI D A (sNew S kd H.size f) H' := by
  intro b hb
  have h64 := kC_64 kd h8.1 h8.2
  by_cases e : b = H.size
  · subst e
    have ek : sK (sNew S kd H.size f) H.size = kd := by simp [sK, sNew]
    refine ⟨by omega, ⟨fun q => ?_, fun q => by omega⟩, hA⟩
    rw [ek]
    refine e1.to (fun i hi => ?_)
    show f i = if (H.size = H.size ∧ 64 * kd ≤ 64 * kd + i ∧ 64 * kd + i < 64 * kd + 64) then f (64 * kd + i - 64 * kd) else _
    rw [if_pos ⟨rfl, by omega, by omega⟩, Nat.add_sub_cancel_left]
  · have ek : sK (sNew S kd H.size f) b = sK S b := by simp [sK, sNew, e]
    rw [ek] at hb
    obtain ⟨w1, w2, w3⟩ := h2 b hb
    have hlt := w2.lt
    refine ⟨by omega, ⟨fun q => ?_, fun q => ?_⟩, w3⟩
    · rw [ek] at q ⊢
      refine ((w2.1 q).kept (e3 b hlt)).to (fun i hi => ?_)
      show sG S (64 * sK S b + i) b = if (b = H.size ∧ _) then _ else sG S (64 * sK S b + i) b
      rw [if_neg (fun z => e z.1)]
    · rw [ek] at q ⊢
      rw [e3 b hlt, w2.2 q]
      rfl
theorem j_new (C : Cx p l s m args meth c cc nL own D A) {kd idx : Nat} (h8 : 1 ≤ kd ∧ kd ≤ 8) (hl : Cond.classLink own idx (kC kd).1 ∈ WALL) (hi : Cond.instantiable (kC kd).1 (kC kd).2.2 ∈ WALL ∧ Cond.initialized (kC kd).1 ∈ WALL) (hr : k + 1 ≤ R.cells ∧ n + (kC kd).2.2 ≤ R.slots) (d : decode cc pc = .ok (.new idx, 3))
    (kk : ∀ q : Nat, sK S q = 0 → q ≠ D.2.2.1 → J p l e R s m args below meth c nL D A Q (pc + 3) lv (.ref q :: st) (sNew S kd q (fun j => defaultValue (kT kd j))) (k + 1) (n + (kC kd).2.2)) : J p l e R s m args below meth c nL D A Q pc lv st S k n := by
  intro H locs ls h1 h2 h3
  obtain ⟨c1, c2, c3, c4, c5, c6, c7, c8, c9, -⟩ := C
  have hKn := c6.1 kd h8.1 h8.2
  have hea : D.2.2.1 < H.size := by
    obtain ⟨cell, z, -⟩ := c7.2.2.2.1
    exact Nat.lt_of_lt_of_le (Array.getElem?_eq_some_iff.mp z).1 h3.1
  refine W.newcK c1 c2 c4 (c5 _ hl) (c5 _ hi.1) (c5 _ hi.2) rfl d hr.1 hr.2 hKn.2.1 rfl fun H1 kC9 hkC e1 z1 o1 => ?_
  exact kk H.size h2.new (by omega) H1 locs ls h1 (wI_new h2 h8 (c9 _ h3.1) (u_born (kT kd) c5 (kC_in kd h8.1 h8.2) hKn hkC e1 (kC_ty kd h8.1 h8.2)) o1) ⟨Nat.le_trans h3.1 (by omega), fun x g1 g2 => (o1 x (Nat.lt_of_lt_of_le g1 h3.1)).trans (h3.2.1 x g1 g2), h3.2.2⟩
theorem wI_newA {H H' : Heap} {kd N : Nat} {f : Nat → Value} (h2 : wI D A S H) (h9 : 9 ≤ kd ∧ kd ≤ 13) (hA : A H.size) (e1 : H'[H.size]? = some (arrV (D.1 kd) N f)) (e3 : ∀ q, q < H.size → H'[q]? = H[q]?) : wI D A (sNewA S kd H.size N f) H' := by
  intro b hb
  by_cases e : b = H.size
  · subst e
    have ek : sK (sNewA S kd H.size N f) H.size = kd := by simp [sK, sNewA]
    have en : sN (sNewA S kd H.size N f) H.size = N := by simp [sN, sNewA]
    refine ⟨by omega, ⟨fun q => by omega, fun q => ?_⟩, hA⟩
    rw [ek, en, e1]
    congr 2
    funext j
    show f j = if (kd = kd ∧ H.size = H.size) then f j else _
    rw [if_pos ⟨rfl, rfl⟩]
  · have ek : sK (sNewA S kd H.size N f) b = sK S b := by simp [sK, sNewA, e]
    have en : sN (sNewA S kd H.size N f) b = sN S b := by simp [sN, sNewA, e]
    rw [ek] at hb
    obtain ⟨w1, w2, w3⟩ := h2 b hb
    have hlt := w2.lt
    refine ⟨by omega, ⟨fun q => ?_, fun q => ?_⟩, w3⟩
    · rw [ek] at q ⊢
      exact (w2.1 q).kept (e3 b hlt)
    · rw [ek] at q ⊢
      rw [en, e3 b hlt, w2.2 q]
      congr 2
      funext j
      show sE S (sK S b) b j = if (sK S b = kd ∧ b = H.size) then f j else sE S (sK S b) b j
      rw [if_neg (fun z => e z.2)]
theorem j_newa (C : Cx p l s m args meth c cc nL own D A) {atype : ArrayType} {kd : Nat} {z : Int} {ty : FieldType} (h9 : 9 ≤ kd ∧ kd ≤ 13) (hty : newarray.typeOf atype = ty) (hta : ty = kA kd) (hac : Cond.arrayClass ty ∈ WALL) (hcid : ∀ (U : State) (cA : ClassId), va_RA U (D.1 kd) (kA kd) → U.vm.findClass ("[" ++ ty.toString) = some cA → cA = D.1 kd) (h0 : 0 ≤ z ∧ z < 2147483648) (hby : z.toNat * componentBytes ty ≤ 536870912) (hr : k + 1 ≤ R.cells ∧ n + z.toNat ≤ R.slots) (d : decode cc pc = .ok (.newarray atype, 2))
    (kk : ∀ q : Nat, sK S q = 0 → q ≠ D.2.2.1 → J p l e R s m args below meth c nL D A Q (pc + 2) lv (.ref q :: st) (sNewA S kd q z.toNat (fun _ => defaultValue ty)) (k + 1) (n + z.toNat)) : J p l e R s m args below meth c nL D A Q pc lv (.int (iN z) :: st) S k n := by
  intro H locs ls h1 h2 h3
  obtain ⟨c1, c2, c3, c4, c5, c6, c7, c8, c9, -⟩ := C
  subst hty
  have hea : D.2.2.1 < H.size := by
    obtain ⟨cell, z, -⟩ := c7.2.2.2.1
    exact Nat.lt_of_lt_of_le (Array.getElem?_eq_some_iff.mp z).1 h3.1
  refine va_newaK c1 c2 (c5 _ hac) rfl d rfl (by rw [iN_lt0 ⟨by omega, h0.2⟩]; omega) (iN_nat h0.1 h0.2) hby hr.1 hr.2 rfl fun H1 cA e1 z1 o1 hAr hNm => ?_
  cases hcid s cA (c6.2 kd h9.1 h9.2).2 hNm
  exact kk H.size h2.new (by omega) H1 locs ls h1 (wI_newA h2 h9 (c9 _ h3.1) e1 o1) ⟨Nat.le_trans h3.1 (by omega), fun x g1 g2 => (o1 x (Nat.lt_of_lt_of_le g1 h3.1)).trans (h3.2.1 x g1 g2), h3.2.2⟩
/-- an object of kind kd as a receiver -/
theorem wI_recv {H : Heap} {U : State} {a kd : Nat} (h2 : wI D A S H) (hK : wKn D U) (hk : sK S a = kd) (h8 : 1 ≤ kd ∧ kd ≤ 8) : ∃ cell : Cell, H[a]? = some cell ∧ cell.vm.isStatics = false ∧ U.vm.findClass (kC kd).1 = some cell.cls := by
  obtain ⟨-, w2, -⟩ := h2 a (by omega)
  obtain ⟨cell, q1, q2, q3, q4⟩ := w2.1 (by omega)
  rw [hk] at q2
  exact ⟨cell, q1, by rw [q3]; rfl, by rw [q2]; exact (hK.1 kd h8.1 h8.2).2.1⟩
theorem j_cast (C : Cx p l s m args meth c cc nL own D A) {a kd idx : Nat} (hk : sK S a = kd) (h8 : 1 ≤ kd ∧ kd ≤ 8) (hl : Cond.classLink own idx (kC kd).1 ∈ WALL) (d : decode cc pc = .ok (.checkcast idx, 3)) (kk : J p l e R s m args below meth c nL D A Q (pc + 3) lv (.ref a :: st) S k n) : J p l e R s m args below meth c nL D A Q pc lv (.ref a :: st) S k n := by
  intro H locs ls h1 h2 h3
  obtain ⟨c1, c2, c3, c4, c5, c6, -⟩ := C
  exact va_castS c1 c2 c4 (c5 _ hl) (c6.1 kd h8.1 h8.2).2 (wI_recv h2 c6 hk h8) d (kk H locs ls h1 h2 h3)
end CORE
end
