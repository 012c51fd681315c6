section
-- ===== PART A: goes FIRST, ahead of the names: the tables' words, and 'selects' of the private methods out of them =====
/-- a private method of a class that the tables say can be made, by its rows of tables_1 -/
def lw_okq (q : MethodName × Nat) : Prop := (q.1.cls ≠ "java/lang/invoke/MethodHandle" ∧ q.1.cls ≠ "java/lang/invoke/VarHandle") ∧ Cond.instantiable q.1.cls q.2 ∈ tables_1 ∧ Cond.privateMethod q.1 ∈ tables_1 ∧ Cond.instanceMethod q.1 ∈ tables_1
theorem lw_p0 : lw_okq (⟨"java/lang/Throwable", "fillInStackTrace", "(I)Ljava/lang/Throwable;"⟩, 6) := ⟨⟨by decide +kernel, by decide +kernel⟩, List.mem_of_getElem? (i := 176) (by decide +kernel), List.mem_of_getElem? (i := 174) (by decide +kernel), List.mem_of_getElem? (i := 175) (by decide +kernel)⟩
theorem lw_p1 : lw_okq (⟨"StreetIndex$Street", "takeName", "(II)V"⟩, 4) := ⟨⟨by decide +kernel, by decide +kernel⟩, List.mem_of_getElem? (i := 53) (by decide +kernel), List.mem_of_getElem? (i := 226) (by decide +kernel), List.mem_of_getElem? (i := 227) (by decide +kernel)⟩
theorem lw_p2 : lw_okq (⟨"StreetIndex", "checkStreet", "(I)V"⟩, 6) := ⟨⟨by decide +kernel, by decide +kernel⟩, List.mem_of_getElem? (i := 27) (by decide +kernel), List.mem_of_getElem? (i := 239) (by decide +kernel), List.mem_of_getElem? (i := 240) (by decide +kernel)⟩
theorem lw_p3 : lw_okq (⟨"StreetIndex$Track", "canGoTo", "(II)Z"⟩, 5) := ⟨⟨by decide +kernel, by decide +kernel⟩, List.mem_of_getElem? (i := 59) (by decide +kernel), List.mem_of_getElem? (i := 263) (by decide +kernel), List.mem_of_getElem? (i := 264) (by decide +kernel)⟩
theorem lw_p4 : lw_okq (⟨"StreetIndex$Track", "goTo", "(II)V"⟩, 5) := ⟨⟨by decide +kernel, by decide +kernel⟩, List.mem_of_getElem? (i := 59) (by decide +kernel), List.mem_of_getElem? (i := 272) (by decide +kernel), List.mem_of_getElem? (i := 273) (by decide +kernel)⟩
theorem lw_p5 : lw_okq (⟨"StreetIndex$Track", "addSquare", "(II)V"⟩, 5) := ⟨⟨by decide +kernel, by decide +kernel⟩, List.mem_of_getElem? (i := 59) (by decide +kernel), List.mem_of_getElem? (i := 276) (by decide +kernel), List.mem_of_getElem? (i := 277) (by decide +kernel)⟩
theorem lw_p6 : lw_okq (⟨"StreetIndex$Track", "goStraight", "(III)V"⟩, 5) := ⟨⟨by decide +kernel, by decide +kernel⟩, List.mem_of_getElem? (i := 59) (by decide +kernel), List.mem_of_getElem? (i := 283) (by decide +kernel), List.mem_of_getElem? (i := 284) (by decide +kernel)⟩
theorem lw_p7 : lw_okq (⟨"StreetIndex$Track", "goBack", "()V"⟩, 5) := ⟨⟨by decide +kernel, by decide +kernel⟩, List.mem_of_getElem? (i := 59) (by decide +kernel), List.mem_of_getElem? (i := 305) (by decide +kernel), List.mem_of_getElem? (i := 306) (by decide +kernel)⟩
theorem lw_p8 : lw_okq (⟨"StreetIndex", "countAhead", "(I)I"⟩, 6) := ⟨⟨by decide +kernel, by decide +kernel⟩, List.mem_of_getElem? (i := 27) (by decide +kernel), List.mem_of_getElem? (i := 342) (by decide +kernel), List.mem_of_getElem? (i := 343) (by decide +kernel)⟩
theorem lw_p9 : lw_okq (⟨"StreetIndex", "indexOrder", "(II)I"⟩, 6) := ⟨⟨by decide +kernel, by decide +kernel⟩, List.mem_of_getElem? (i := 27) (by decide +kernel), List.mem_of_getElem? (i := 346) (by decide +kernel), List.mem_of_getElem? (i := 347) (by decide +kernel)⟩
theorem lw_p10 : lw_okq (⟨"StreetIndex", "keyOrder", "(II)I"⟩, 6) := ⟨⟨by decide +kernel, by decide +kernel⟩, List.mem_of_getElem? (i := 27) (by decide +kernel), List.mem_of_getElem? (i := 350) (by decide +kernel), List.mem_of_getElem? (i := 351) (by decide +kernel)⟩
theorem lw_p11 : lw_okq (⟨"StreetIndex$Street", "putKey", "([I[I)I"⟩, 4) := ⟨⟨by decide +kernel, by decide +kernel⟩, List.mem_of_getElem? (i := 53) (by decide +kernel), List.mem_of_getElem? (i := 354) (by decide +kernel), List.mem_of_getElem? (i := 355) (by decide +kernel)⟩
theorem lw_p12 : lw_okq (⟨"StreetIndex$Street", "putWordsOf", "(I[I[II)I"⟩, 4) := ⟨⟨by decide +kernel, by decide +kernel⟩, List.mem_of_getElem? (i := 53) (by decide +kernel), List.mem_of_getElem? (i := 358) (by decide +kernel), List.mem_of_getElem? (i := 359) (by decide +kernel)⟩
theorem lw_p13 : lw_okq (⟨"StreetIndex", "lineOf", "(LStreetIndex$Street;)Ljava/lang/StringBuilder;"⟩, 6) := ⟨⟨by decide +kernel, by decide +kernel⟩, List.mem_of_getElem? (i := 27) (by decide +kernel), List.mem_of_getElem? (i := 446) (by decide +kernel), List.mem_of_getElem? (i := 447) (by decide +kernel)⟩
theorem lw_p14 : lw_okq (⟨"StreetIndex", "appendName", "(Ljava/lang/StringBuilder;LStreetIndex$Street;)V"⟩, 6) := ⟨⟨by decide +kernel, by decide +kernel⟩, List.mem_of_getElem? (i := 27) (by decide +kernel), List.mem_of_getElem? (i := 479) (by decide +kernel), List.mem_of_getElem? (i := 480) (by decide +kernel)⟩
theorem lw_p15 : lw_okq (⟨"StreetIndex$Street", "countMoved", "([I)I"⟩, 4) := ⟨⟨by decide +kernel, by decide +kernel⟩, List.mem_of_getElem? (i := 53) (by decide +kernel), List.mem_of_getElem? (i := 483) (by decide +kernel), List.mem_of_getElem? (i := 484) (by decide +kernel)⟩
def lw_privs_1 : List (MethodName × Nat) := [(⟨"java/lang/Throwable", "fillInStackTrace", "(I)Ljava/lang/Throwable;"⟩, 6), (⟨"StreetIndex$Street", "takeName", "(II)V"⟩, 4), (⟨"StreetIndex", "checkStreet", "(I)V"⟩, 6), (⟨"StreetIndex$Track", "canGoTo", "(II)Z"⟩, 5), (⟨"StreetIndex$Track", "goTo", "(II)V"⟩, 5), (⟨"StreetIndex$Track", "addSquare", "(II)V"⟩, 5), (⟨"StreetIndex$Track", "goStraight", "(III)V"⟩, 5), (⟨"StreetIndex$Track", "goBack", "()V"⟩, 5), (⟨"StreetIndex", "countAhead", "(I)I"⟩, 6), (⟨"StreetIndex", "indexOrder", "(II)I"⟩, 6), (⟨"StreetIndex", "keyOrder", "(II)I"⟩, 6), (⟨"StreetIndex$Street", "putKey", "([I[I)I"⟩, 4), (⟨"StreetIndex$Street", "putWordsOf", "(I[I[II)I"⟩, 4), (⟨"StreetIndex", "lineOf", "(LStreetIndex$Street;)Ljava/lang/StringBuilder;"⟩, 6), (⟨"StreetIndex", "appendName", "(Ljava/lang/StringBuilder;LStreetIndex$Street;)V"⟩, 6), (⟨"StreetIndex$Street", "countMoved", "([I)I"⟩, 4)]
theorem lw_r1 : ∀ q ∈ lw_privs_1, lw_okq q := List.forall_mem_cons.mpr ⟨lw_p0, List.forall_mem_cons.mpr ⟨lw_p1, List.forall_mem_cons.mpr ⟨lw_p2, List.forall_mem_cons.mpr ⟨lw_p3, List.forall_mem_cons.mpr ⟨lw_p4, List.forall_mem_cons.mpr ⟨lw_p5, List.forall_mem_cons.mpr ⟨lw_p6, List.forall_mem_cons.mpr ⟨lw_p7, List.forall_mem_cons.mpr ⟨lw_p8, List.forall_mem_cons.mpr ⟨lw_p9, List.forall_mem_cons.mpr ⟨lw_p10, List.forall_mem_cons.mpr ⟨lw_p11, List.forall_mem_cons.mpr ⟨lw_p12, List.forall_mem_cons.mpr ⟨lw_p13, List.forall_mem_cons.mpr ⟨lw_p14, List.forall_mem_cons.mpr ⟨lw_p15, fun _ h => absurd h List.not_mem_nil⟩⟩⟩⟩⟩⟩⟩⟩⟩⟩⟩⟩⟩⟩⟩⟩
theorem lw_p16 : lw_okq (⟨"StreetIndex", "appendWords", "(Ljava/lang/StringBuilder;LStreetIndex$Street;Z)V"⟩, 6) := ⟨⟨by decide +kernel, by decide +kernel⟩, List.mem_of_getElem? (i := 27) (by decide +kernel), List.mem_of_getElem? (i := 487) (by decide +kernel), List.mem_of_getElem? (i := 488) (by decide +kernel)⟩
theorem lw_p17 : lw_okq (⟨"StreetIndex$Track", "beginsRun", "(II)Z"⟩, 5) := ⟨⟨by decide +kernel, by decide +kernel⟩, List.mem_of_getElem? (i := 59) (by decide +kernel), List.mem_of_getElem? (i := 605) (by decide +kernel), List.mem_of_getElem? (i := 606) (by decide +kernel)⟩
theorem lw_p18 : lw_okq (⟨"StreetIndex$Track", "covers", "(II)Z"⟩, 5) := ⟨⟨by decide +kernel, by decide +kernel⟩, List.mem_of_getElem? (i := 59) (by decide +kernel), List.mem_of_getElem? (i := 609) (by decide +kernel), List.mem_of_getElem? (i := 610) (by decide +kernel)⟩
theorem lw_p19 : lw_okq (⟨"StreetIndex$Track", "endOfRun", "(II)I"⟩, 5) := ⟨⟨by decide +kernel, by decide +kernel⟩, List.mem_of_getElem? (i := 59) (by decide +kernel), List.mem_of_getElem? (i := 613) (by decide +kernel), List.mem_of_getElem? (i := 614) (by decide +kernel)⟩
theorem lw_p20 : lw_okq (⟨"StreetIndex$Track", "countSquares", "()I"⟩, 5) := ⟨⟨by decide +kernel, by decide +kernel⟩, List.mem_of_getElem? (i := 59) (by decide +kernel), List.mem_of_getElem? (i := 684) (by decide +kernel), List.mem_of_getElem? (i := 685) (by decide +kernel)⟩
theorem lw_p21 : lw_okq (⟨"StreetIndex$Track", "countRuns", "()I"⟩, 5) := ⟨⟨by decide +kernel, by decide +kernel⟩, List.mem_of_getElem? (i := 59) (by decide +kernel), List.mem_of_getElem? (i := 701) (by decide +kernel), List.mem_of_getElem? (i := 702) (by decide +kernel)⟩
theorem lw_p22 : lw_okq (⟨"StreetIndex$Track", "comesTo", "(I)Z"⟩, 5) := ⟨⟨by decide +kernel, by decide +kernel⟩, List.mem_of_getElem? (i := 59) (by decide +kernel), List.mem_of_getElem? (i := 721) (by decide +kernel), List.mem_of_getElem? (i := 722) (by decide +kernel)⟩
theorem lw_p23 : lw_okq (⟨"StreetIndex$Track", "nearestTo", "(II)I"⟩, 5) := ⟨⟨by decide +kernel, by decide +kernel⟩, List.mem_of_getElem? (i := 59) (by decide +kernel), List.mem_of_getElem? (i := 739) (by decide +kernel), List.mem_of_getElem? (i := 740) (by decide +kernel)⟩
theorem lw_p24 : lw_okq (⟨"StreetIndex$Walks", "spread", "([LStreetIndex$Street;II)I"⟩, 3) := ⟨⟨by decide +kernel, by decide +kernel⟩, List.mem_of_getElem? (i := 37) (by decide +kernel), List.mem_of_getElem? (i := 758) (by decide +kernel), List.mem_of_getElem? (i := 759) (by decide +kernel)⟩
theorem lw_p25 : lw_okq (⟨"StreetIndex$Walks", "findExits", "([LStreetIndex$Street;I)V"⟩, 3) := ⟨⟨by decide +kernel, by decide +kernel⟩, List.mem_of_getElem? (i := 37) (by decide +kernel), List.mem_of_getElem? (i := 762) (by decide +kernel), List.mem_of_getElem? (i := 763) (by decide +kernel)⟩
theorem lw_p26 : lw_okq (⟨"StreetIndex$Walks", "addExits", "(LStreetIndex$Track;Z)V"⟩, 3) := ⟨⟨by decide +kernel, by decide +kernel⟩, List.mem_of_getElem? (i := 37) (by decide +kernel), List.mem_of_getElem? (i := 767) (by decide +kernel), List.mem_of_getElem? (i := 768) (by decide +kernel)⟩
theorem lw_p27 : lw_okq (⟨"StreetIndex$Walks", "stepFrom", "(II)I"⟩, 3) := ⟨⟨by decide +kernel, by decide +kernel⟩, List.mem_of_getElem? (i := 37) (by decide +kernel), List.mem_of_getElem? (i := 771) (by decide +kernel), List.mem_of_getElem? (i := 772) (by decide +kernel)⟩
theorem lw_p28 : lw_okq (⟨"StreetIndex$Walks", "isNew", "(I)Z"⟩, 3) := ⟨⟨by decide +kernel, by decide +kernel⟩, List.mem_of_getElem? (i := 37) (by decide +kernel), List.mem_of_getElem? (i := 775) (by decide +kernel), List.mem_of_getElem? (i := 776) (by decide +kernel)⟩
theorem lw_p29 : lw_okq (⟨"StreetIndex$Walks", "stepsOf", "(I)I"⟩, 3) := ⟨⟨by decide +kernel, by decide +kernel⟩, List.mem_of_getElem? (i := 37) (by decide +kernel), List.mem_of_getElem? (i := 779) (by decide +kernel), List.mem_of_getElem? (i := 780) (by decide +kernel)⟩
theorem lw_p30 : lw_okq (⟨"StreetIndex$Walks", "tellBackwards", "([LStreetIndex$Street;II)V"⟩, 3) := ⟨⟨by decide +kernel, by decide +kernel⟩, List.mem_of_getElem? (i := 37) (by decide +kernel), List.mem_of_getElem? (i := 790) (by decide +kernel), List.mem_of_getElem? (i := 791) (by decide +kernel)⟩
theorem lw_p31 : lw_okq (⟨"StreetIndex$Walks", "tellAlong", "(LStreetIndex$Track;Z)Z"⟩, 3) := ⟨⟨by decide +kernel, by decide +kernel⟩, List.mem_of_getElem? (i := 37) (by decide +kernel), List.mem_of_getElem? (i := 794) (by decide +kernel), List.mem_of_getElem? (i := 795) (by decide +kernel)⟩
def lw_privs_2 : List (MethodName × Nat) := [(⟨"StreetIndex", "appendWords", "(Ljava/lang/StringBuilder;LStreetIndex$Street;Z)V"⟩, 6), (⟨"StreetIndex$Track", "beginsRun", "(II)Z"⟩, 5), (⟨"StreetIndex$Track", "covers", "(II)Z"⟩, 5), (⟨"StreetIndex$Track", "endOfRun", "(II)I"⟩, 5), (⟨"StreetIndex$Track", "countSquares", "()I"⟩, 5), (⟨"StreetIndex$Track", "countRuns", "()I"⟩, 5), (⟨"StreetIndex$Track", "comesTo", "(I)Z"⟩, 5), (⟨"StreetIndex$Track", "nearestTo", "(II)I"⟩, 5), (⟨"StreetIndex$Walks", "spread", "([LStreetIndex$Street;II)I"⟩, 3), (⟨"StreetIndex$Walks", "findExits", "([LStreetIndex$Street;I)V"⟩, 3), (⟨"StreetIndex$Walks", "addExits", "(LStreetIndex$Track;Z)V"⟩, 3), (⟨"StreetIndex$Walks", "stepFrom", "(II)I"⟩, 3), (⟨"StreetIndex$Walks", "isNew", "(I)Z"⟩, 3), (⟨"StreetIndex$Walks", "stepsOf", "(I)I"⟩, 3), (⟨"StreetIndex$Walks", "tellBackwards", "([LStreetIndex$Street;II)V"⟩, 3), (⟨"StreetIndex$Walks", "tellAlong", "(LStreetIndex$Track;Z)Z"⟩, 3)]
theorem lw_r2 : ∀ q ∈ lw_privs_2, lw_okq q := List.forall_mem_cons.mpr ⟨lw_p16, List.forall_mem_cons.mpr ⟨lw_p17, List.forall_mem_cons.mpr ⟨lw_p18, List.forall_mem_cons.mpr ⟨lw_p19, List.forall_mem_cons.mpr ⟨lw_p20, List.forall_mem_cons.mpr ⟨lw_p21, List.forall_mem_cons.mpr ⟨lw_p22, List.forall_mem_cons.mpr ⟨lw_p23, List.forall_mem_cons.mpr ⟨lw_p24, List.forall_mem_cons.mpr ⟨lw_p25, List.forall_mem_cons.mpr ⟨lw_p26, List.forall_mem_cons.mpr ⟨lw_p27, List.forall_mem_cons.mpr ⟨lw_p28, List.forall_mem_cons.mpr ⟨lw_p29, List.forall_mem_cons.mpr ⟨lw_p30, List.forall_mem_cons.mpr ⟨lw_p31, fun _ h => absurd h List.not_mem_nil⟩⟩⟩⟩⟩⟩⟩⟩⟩⟩⟩⟩⟩⟩⟩⟩
theorem lw_p32 : lw_okq (⟨"StreetIndex$Walks", "tell", "(II)Z"⟩, 3) := ⟨⟨by decide +kernel, by decide +kernel⟩, List.mem_of_getElem? (i := 37) (by decide +kernel), List.mem_of_getElem? (i := 798) (by decide +kernel), List.mem_of_getElem? (i := 799) (by decide +kernel)⟩
theorem lw_p33 : lw_okq (⟨"StreetIndexModel", "spell", "(IIIIIIII)V"⟩, 17) := ⟨⟨by decide +kernel, by decide +kernel⟩, List.mem_of_getElem? (i := 809) (by decide +kernel), List.mem_of_getElem? (i := 815) (by decide +kernel), List.mem_of_getElem? (i := 816) (by decide +kernel)⟩
theorem lw_p34 : lw_okq (⟨"StreetIndexModel", "gives", "(III)V"⟩, 17) := ⟨⟨by decide +kernel, by decide +kernel⟩, List.mem_of_getElem? (i := 809) (by decide +kernel), List.mem_of_getElem? (i := 886) (by decide +kernel), List.mem_of_getElem? (i := 887) (by decide +kernel)⟩
theorem lw_p35 : lw_okq (⟨"StreetIndexModel", "isStreet", "(I)Z"⟩, 17) := ⟨⟨by decide +kernel, by decide +kernel⟩, List.mem_of_getElem? (i := 809) (by decide +kernel), List.mem_of_getElem? (i := 894) (by decide +kernel), List.mem_of_getElem? (i := 895) (by decide +kernel)⟩
theorem lw_p36 : lw_okq (⟨"StreetIndexModel", "goes", "(ZZZ)Z"⟩, 17) := ⟨⟨by decide +kernel, by decide +kernel⟩, List.mem_of_getElem? (i := 809) (by decide +kernel), List.mem_of_getElem? (i := 901) (by decide +kernel), List.mem_of_getElem? (i := 902) (by decide +kernel)⟩
theorem lw_p37 : lw_okq (⟨"StreetIndexModel", "tracked", "(I)I"⟩, 17) := ⟨⟨by decide +kernel, by decide +kernel⟩, List.mem_of_getElem? (i := 809) (by decide +kernel), List.mem_of_getElem? (i := 905) (by decide +kernel), List.mem_of_getElem? (i := 906) (by decide +kernel)⟩
theorem lw_p38 : lw_okq (⟨"StreetIndexModel", "tracks", "(I)V"⟩, 17) := ⟨⟨by decide +kernel, by decide +kernel⟩, List.mem_of_getElem? (i := 809) (by decide +kernel), List.mem_of_getElem? (i := 909) (by decide +kernel), List.mem_of_getElem? (i := 910) (by decide +kernel)⟩
theorem lw_p39 : lw_okq (⟨"StreetIndexModel", "countAhead", "(I)I"⟩, 17) := ⟨⟨by decide +kernel, by decide +kernel⟩, List.mem_of_getElem? (i := 809) (by decide +kernel), List.mem_of_getElem? (i := 940) (by decide +kernel), List.mem_of_getElem? (i := 941) (by decide +kernel)⟩
theorem lw_p40 : lw_okq (⟨"StreetIndexModel", "isAhead", "(II)Z"⟩, 17) := ⟨⟨by decide +kernel, by decide +kernel⟩, List.mem_of_getElem? (i := 809) (by decide +kernel), List.mem_of_getElem? (i := 944) (by decide +kernel), List.mem_of_getElem? (i := 945) (by decide +kernel)⟩
theorem lw_p41 : lw_okq (⟨"StreetIndexModel", "compareOf", "(II)I"⟩, 17) := ⟨⟨by decide +kernel, by decide +kernel⟩, List.mem_of_getElem? (i := 809) (by decide +kernel), List.mem_of_getElem? (i := 948) (by decide +kernel), List.mem_of_getElem? (i := 949) (by decide +kernel)⟩
theorem lw_p42 : lw_okq (⟨"StreetIndexModel", "keyOf", "(I[I)I"⟩, 17) := ⟨⟨by decide +kernel, by decide +kernel⟩, List.mem_of_getElem? (i := 809) (by decide +kernel), List.mem_of_getElem? (i := 952) (by decide +kernel), List.mem_of_getElem? (i := 953) (by decide +kernel)⟩
theorem lw_p43 : lw_okq (⟨"StreetIndexModel", "compareWords", "(II)I"⟩, 17) := ⟨⟨by decide +kernel, by decide +kernel⟩, List.mem_of_getElem? (i := 809) (by decide +kernel), List.mem_of_getElem? (i := 956) (by decide +kernel), List.mem_of_getElem? (i := 957) (by decide +kernel)⟩
theorem lw_p44 : lw_okq (⟨"StreetIndexModel", "writeLine", "(I)V"⟩, 17) := ⟨⟨by decide +kernel, by decide +kernel⟩, List.mem_of_getElem? (i := 809) (by decide +kernel), List.mem_of_getElem? (i := 972) (by decide +kernel), List.mem_of_getElem? (i := 973) (by decide +kernel)⟩
theorem lw_p45 : lw_okq (⟨"StreetIndexModel", "writes", "(IZZ)V"⟩, 17) := ⟨⟨by decide +kernel, by decide +kernel⟩, List.mem_of_getElem? (i := 809) (by decide +kernel), List.mem_of_getElem? (i := 976) (by decide +kernel), List.mem_of_getElem? (i := 977) (by decide +kernel)⟩
theorem lw_p46 : lw_okq (⟨"StreetIndexModel", "sign", "(I)V"⟩, 17) := ⟨⟨by decide +kernel, by decide +kernel⟩, List.mem_of_getElem? (i := 809) (by decide +kernel), List.mem_of_getElem? (i := 980) (by decide +kernel), List.mem_of_getElem? (i := 981) (by decide +kernel)⟩
theorem lw_p47 : lw_okq (⟨"StreetIndexModel", "beginsRun", "(I)Z"⟩, 17) := ⟨⟨by decide +kernel, by decide +kernel⟩, List.mem_of_getElem? (i := 809) (by decide +kernel), List.mem_of_getElem? (i := 984) (by decide +kernel), List.mem_of_getElem? (i := 985) (by decide +kernel)⟩
def lw_privs_3 : List (MethodName × Nat) := [(⟨"StreetIndex$Walks", "tell", "(II)Z"⟩, 3), (⟨"StreetIndexModel", "spell", "(IIIIIIII)V"⟩, 17), (⟨"StreetIndexModel", "gives", "(III)V"⟩, 17), (⟨"StreetIndexModel", "isStreet", "(I)Z"⟩, 17), (⟨"StreetIndexModel", "goes", "(ZZZ)Z"⟩, 17), (⟨"StreetIndexModel", "tracked", "(I)I"⟩, 17), (⟨"StreetIndexModel", "tracks", "(I)V"⟩, 17), (⟨"StreetIndexModel", "countAhead", "(I)I"⟩, 17), (⟨"StreetIndexModel", "isAhead", "(II)Z"⟩, 17), (⟨"StreetIndexModel", "compareOf", "(II)I"⟩, 17), (⟨"StreetIndexModel", "keyOf", "(I[I)I"⟩, 17), (⟨"StreetIndexModel", "compareWords", "(II)I"⟩, 17), (⟨"StreetIndexModel", "writeLine", "(I)V"⟩, 17), (⟨"StreetIndexModel", "writes", "(IZZ)V"⟩, 17), (⟨"StreetIndexModel", "sign", "(I)V"⟩, 17), (⟨"StreetIndexModel", "beginsRun", "(I)Z"⟩, 17)]
theorem lw_r3 : ∀ q ∈ lw_privs_3, lw_okq q := List.forall_mem_cons.mpr ⟨lw_p32, List.forall_mem_cons.mpr ⟨lw_p33, List.forall_mem_cons.mpr ⟨lw_p34, List.forall_mem_cons.mpr ⟨lw_p35, List.forall_mem_cons.mpr ⟨lw_p36, List.forall_mem_cons.mpr ⟨lw_p37, List.forall_mem_cons.mpr ⟨lw_p38, List.forall_mem_cons.mpr ⟨lw_p39, List.forall_mem_cons.mpr ⟨lw_p40, List.forall_mem_cons.mpr ⟨lw_p41, List.forall_mem_cons.mpr ⟨lw_p42, List.forall_mem_cons.mpr ⟨lw_p43, List.forall_mem_cons.mpr ⟨lw_p44, List.forall_mem_cons.mpr ⟨lw_p45, List.forall_mem_cons.mpr ⟨lw_p46, List.forall_mem_cons.mpr ⟨lw_p47, fun _ h => absurd h List.not_mem_nil⟩⟩⟩⟩⟩⟩⟩⟩⟩⟩⟩⟩⟩⟩⟩⟩
theorem lw_p48 : lw_okq (⟨"StreetIndexModel", "number", "(I)V"⟩, 17) := ⟨⟨by decide +kernel, by decide +kernel⟩, List.mem_of_getElem? (i := 809) (by decide +kernel), List.mem_of_getElem? (i := 988) (by decide +kernel), List.mem_of_getElem? (i := 989) (by decide +kernel)⟩
theorem lw_p49 : lw_okq (⟨"StreetIndexModel", "nearestOf", "(III)I"⟩, 17) := ⟨⟨by decide +kernel, by decide +kernel⟩, List.mem_of_getElem? (i := 809) (by decide +kernel), List.mem_of_getElem? (i := 1025) (by decide +kernel), List.mem_of_getElem? (i := 1026) (by decide +kernel)⟩
theorem lw_p50 : lw_okq (⟨"StreetIndexModel", "walks", "(I)V"⟩, 17) := ⟨⟨by decide +kernel, by decide +kernel⟩, List.mem_of_getElem? (i := 809) (by decide +kernel), List.mem_of_getElem? (i := 1043) (by decide +kernel), List.mem_of_getElem? (i := 1044) (by decide +kernel)⟩
theorem lw_p51 : lw_okq (⟨"StreetIndexModel", "passes", "(II)Z"⟩, 17) := ⟨⟨by decide +kernel, by decide +kernel⟩, List.mem_of_getElem? (i := 809) (by decide +kernel), List.mem_of_getElem? (i := 1048) (by decide +kernel), List.mem_of_getElem? (i := 1049) (by decide +kernel)⟩
def lw_privs_4 : List (MethodName × Nat) := [(⟨"StreetIndexModel", "number", "(I)V"⟩, 17), (⟨"StreetIndexModel", "nearestOf", "(III)I"⟩, 17), (⟨"StreetIndexModel", "walks", "(I)V"⟩, 17), (⟨"StreetIndexModel", "passes", "(II)Z"⟩, 17)]
theorem lw_r4 : ∀ q ∈ lw_privs_4, lw_okq q := List.forall_mem_cons.mpr ⟨lw_p48, List.forall_mem_cons.mpr ⟨lw_p49, List.forall_mem_cons.mpr ⟨lw_p50, List.forall_mem_cons.mpr ⟨lw_p51, fun _ h => absurd h List.not_mem_nil⟩⟩⟩⟩
def lw_privs : List (MethodName × Nat) := lw_privs_1 ++ (lw_privs_2 ++ (lw_privs_3 ++ (lw_privs_4)))
def lw_tbl : List Cond := k2_sels lw_privs ++ tables_1
theorem lw_privs_ok : ∀ q ∈ lw_privs, lw_okq q := by
  show ∀ q ∈ lw_privs_1 ++ (lw_privs_2 ++ (lw_privs_3 ++ (lw_privs_4))), lw_okq q
  exact List.forall_mem_append.mpr ⟨lw_r1, List.forall_mem_append.mpr ⟨lw_r2, List.forall_mem_append.mpr ⟨lw_r3, lw_r4⟩⟩⟩
-- ===== end of PART A; then your names; then what follows =====
end
section
/-! ===== BEGIN words of one list among another's, by their places ===== -/
theorem goodIn_r {big : List Cond} (ws : List Cond) (ps : List Nat) (hp : ws = ps.filterMap (fun i => big[i]?)) (h : ws.all goodWord = true) : GoodIn big ws := by
  intro w hw
  have h1 := List.all_eq_true.mp h w hw
  rw [hp] at hw
  obtain ⟨i, -, hi⟩ := List.mem_filterMap.mp hw
  have hm : w ∈ big := by first | exact List.mem_of_getElem? hi | exact List.getElem?_mem hi
  exact ⟨hm, good_of_word h1⟩
theorem goodIn_app {big a b : List Cond} (ha : GoodIn big a) (hb : GoodIn big b) : GoodIn big (a ++ b) := fun w h => (List.mem_append.mp h).elim (ha w) (hb w)
theorem goodIn_ca {big a b : List Cond} {c : Cond} (ha : GoodIn big (c :: a)) (hb : GoodIn big b) : GoodIn big (c :: (a ++ b)) := fun w h => (List.mem_cons.mp h).elim (fun e => ha w (List.mem_cons.mpr (Or.inl e))) (fun h => (List.mem_append.mp h).elim (fun h => ha w (List.mem_cons.mpr (Or.inr h))) (hb w))
theorem goodIn_sub {big ws : List Cond} (hm : ∀ w ∈ ws, w ∈ big) (h : ws.all goodWord = true) : GoodIn big ws := fun w hw => ⟨hm w hw, good_of_word (List.all_eq_true.mp h w hw)⟩
/-! ===== END ===== -/

/-! ===== BEGIN exceptions that leave a method, and their catching by the caller (launches without stack traces) ===== -/
section VXA
/-! The laws vx_back, vx_callV, vx_callS, vx_callSW, vx_throw0, vx_throwS follow proofs of the library, with one case more: JvmDerived/Free/Laws.lean (Back.of_free), Shelf42/LK1.lean (callV, callS), Shelf/KitTraced.lean (throwNew0V, throwNewS). -/
/-- where a method has thrown q: the class by its name, the cell, what was written, the world -/
def vx_T (XC : String → State → State → Prop) (st : State) (q : Addr) (t : State) (mc ms : Nat) (free : Addr → Prop) : Prop :=
  ∃ (E : String) (ce : Cell) (L : List Loc), XC E st t ∧ t.heap[q]? = some ce ∧ ce.vm = .none ∧ st.vm.findClass E = some ce.cls ∧ st.WarmedH t.vm ∧ st.sameButNew ({ t with vm := st.vm } : State) L mc ms ∧ ∀ z ∈ L, free z.base
def vx_Q (Qc : Array Value → State → Outcome → State → Prop) (XC : String → State → State → Prop) (mc ms : Nat) (free : Addr → Prop) : Array Value → State → Outcome → State → Prop := fun a st o t =>
  (Qc a st o t ∧ ∃ L, FrameEnd st o t L mc ms ∧ ∀ q ∈ L, free q.base) ∨ ∃ q, o = .threw q ∧ vx_T XC st q t mc ms free
/-- a callee that returns or throws -/
def vx_Met (l : Launch) (y : MethodName) (ws : List Cond) (rm : Room) (Pc : Array Value → State → Prop) (Qc : Array Value → State → Outcome → State → Prop) (XC : String → State → State → Prop) (mc ms : Nat) (free : Addr → Prop) : Prop :=
  MetFree l y (headSpec ws rm) Pc (fun _ _ _ _ _ => True) (vx_Q Qc XC mc ms free)
def vx_Post (XC : String → State → State → Prop) (mc ms : Nat) (free : Addr → Prop) : Pt → Array Value → Addr → Pt → Prop := fun A a q B =>
  ∃ (g : JFrame) (mk : MethodId) (t : State) (L : List Loc) (E : String) (ce : Cell), B.U.heap = t.heap ∧ B.U.vm = t.vm ∧ XC E (A.U.calling g mk a) t ∧ t.heap[q]? = some ce ∧ ce.vm = .none ∧ A.U.vm.findClass E = some ce.cls ∧ B.locs = A.locs ++ L ∧ (∀ z ∈ L, free z.base) ∧ B.cells = A.cells + mc ∧ B.slots = A.slots + ms
def vx_Back (l : Launch) (R : Room) (p : Program) (e : Env) (below : List Frame) (s : State) (sargs : Array Value) (y : MethodName) (len W9 : Nat)
    (Pre : Pt → Array Value → Prop) (Post : Pt → Array Value → Option Value → Pt → Prop) (PostX : Pt → Array Value → Addr → Pt → Prop) : Prop :=
  ∀ (m : MethodId) (meth : Method) (c : Code) (A : Pt) (g : JFrame) (ig : Instr) (mk : MethodId) (a : Array Value),
    Stand p l e R s m sargs below meth c A.U A.locs A.cells A.slots → g.method = m → g.locals.size = c.maxLocals → decode c.code g.pc = .ok (ig, len) →
    2 * g.monitorRoom + (g.stack.map fun v => v.category).sum ≤ W9 → A.U.methodNamed? y = some mk → Pre A a →
    (∃ (v : Option Value) (B : Pt), Stand p l e R s m sargs below meth c B.U B.locs B.cells B.slots ∧ Post A a v B ∧
      Steps p.tables e below (doInvoke e (A.U.setTop g) [] mk a).1 (B.U.setTop { g with pc := g.pc + len, stack := v.toList ++ g.stack })) ∨
    (∃ (q : Addr) (B : Pt), Stand p l e R s m sargs below meth c B.U B.locs B.cells B.slots ∧ PostX A a q B ∧
      Steps p.tables e below (doInvoke e (A.U.setTop g) [] mk a).1 ((B.U.setTop g).pushFrame (.throwing q)))
section Payer
variable {l : Launch} {R : Room} {p : Program} {e : Env} {below : List Frame} {s : State} {sargs : Array Value} {y : MethodName} {len W9 : Nat}
theorem vx_back {ws : List Cond} {rm : Room} {Pc : Array Value → State → Prop} {Qc : Array Value → State → Outcome → State → Prop} {XC : String → State → State → Prop} {mc ms : Nat} {free : Addr → Prop} {bytes : ByteArray} {maxL : Nat} {ret : Option FieldType}
    (hM : vx_Met l y ws rm Pc Qc XC mc ms free) (hblind : FrameBlind Pc) (hrc : rm.cells = mc) (hrs : rm.slots = ms)
    (hframes : rm.frames + 1 ≤ R.frames) (hlocals : W9 + (maxL + 11) + rm.locals ≤ R.locals)
    (hws : ∀ w ∈ ws, ∀ a' U, s.WarmedH U.vm → w.before a' U = true) (hcode : Cond.code y bytes maxL ret ∈ ws) (hinit : ∀ a' U, s.WarmedH U.vm → (Cond.initialized y.cls).before a' U = true) :
    vx_Back l R p e below s sargs y len W9 (PreOf R mc ms Pc) (PostOf Qc mc ms free) (vx_Post XC mc ms free) := by
  intro m meth c A g ig mk a X hg hsize hdg hW hn hp
  have h1 : (headSpec ws rm).pre.before a A.U = true := atoms_intro fun w hw => hws w hw _ _ X.warmed
  have h2 : (Cond.code y bytes maxL ret).before a A.U = true := hws _ hcode _ _ X.warmed
  have h3 : (Cond.initialized y.cls).before a A.U = true := hinit _ _ X.warmed
  have h4 : A.cells + (headSpec ws rm).room.cells ≤ R.cells := by rw [show (headSpec ws rm).room.cells = mc from hrc]; exact hp.1
  have h5 : A.slots + (headSpec ws rm).room.slots ≤ R.slots := by rw [show (headSpec ws rm).room.slots = ms from hrs]; exact hp.2.1
  have hPc : Pc a (A.U.calling g mk a) := hblind _ _ _ _ hp.2.2
  obtain ⟨U, Ls, c0, s0⟩ := A
  dsimp only [Pt.U, Pt.locs, Pt.cells, Pt.slots] at h1 h2 h3 h4 h5 X hn hPc ⊢
  obtain ⟨methY, cY, hmY, hcY, -, hlY, -, -, -, -⟩ := Cond.code_spec hn h2
  obtain ⟨kY, hkY, -⟩ := className_of_methodNamed hn
  have hinitY : kY.init = .initialized := Cond.initialized_spec (findClass_of_methodNamed hn) hkY h3
  have h : At U g.method c below := by rw [hg]; exact X.here
  have hlocals9 : W9 + (maxL + 11) + (headSpec ws rm).room.locals ≤ R.locals := hlocals
  have happ : (headSpec ws rm).appliesLoose y e.platform (U.calling g mk a) = true :=
    Spec.appliesLoose_calling (g := g) h hdg hn hkY hinitY
      (X.room_calling (g := g) (R' := (headSpec ws rm).room) hsize hmY hcY hframes (by rw [hlY]; omega) h4 h5) h1
  obtain ⟨mid, hmid⟩ := h.above
  have hfr : (U.setTop g).frames = (.java g :: mid) ++ below := by rw [State.frames_setTop' g h.top, hmid]; rfl
  obtain ⟨o, s₂, hsteps, -, hend, hq⟩ := Steps.callFree hM p X.admits X.cas X.clock (acts := []) hfr happ hPc trivial
  have hq' : vx_Q Qc XC mc ms free a (U.calling g mk a) o s₂ := hq
  rw [State.frames_setTop' g h.top] at hend
  obtain ⟨g₀, hg0⟩ := Option.isSome_iff_exists.mp h.top
  obtain ⟨r, hr⟩ := State.topJava?_eq_some.mp hg0
  have hr' : (({ U with heap := s₂.heap, slotsUsed := s₂.slotsUsed } : State).setVm s₂.vm).frames = .java g₀ :: r := hr
  rcases hq' with ⟨hqc, L, hfe, hL⟩ | ⟨q, rfl, E, ce, L, hx, hce, hcv, hcl, hW₂, hsm, hL⟩
  · obtain ⟨⟨v, rfl⟩, hW₂, e2, q2, q3, q4, q5, q6⟩ := id hfe
    have e3 : s₂ = ({ (U.calling g mk a).setFrames s₂.frames with heap := s₂.heap, slotsUsed := s₂.slotsUsed } : State).setVm s₂.vm := by
      have : s₂ = ({ s₂ with vm := (U.calling g mk a).vm } : State).setVm s₂.vm := rfl
      rw [e2] at this
      exact this
    obtain ⟨c₂, i₂, len₂, hc₂, hd₂, hf₂⟩ := hend
    have hW' : U.WarmedH s₂.vm := hW₂
    have hcc : c₂ = c := by
      have h1 : s₂.code? g.method = U.code? g.method := by
        rw [State.code?_eq, State.code?_eq, hW'.alike.method?]
      exact Option.some.inj (hc₂.symm.trans (h1.trans h.code))
    subst hcc
    have hlen : len₂ = len := by rw [hdg] at hd₂; cases hd₂; rfl
    subst hlen
    have hs₂ : s₂ = (({ U with heap := s₂.heap, slotsUsed := s₂.slotsUsed } : State).setVm s₂.vm).setTop { g with pc := g.pc + len₂, stack := v.toList ++ g.stack } := by
      refine e3.trans ?_
      rw [hf₂, State.calling_eq h.top, State.setFrames_setFrames, State.setTop_of_frames _ hr', hr]
      rfl
    have hsame : U.sameButNew ({ U with heap := s₂.heap, slotsUsed := s₂.slotsUsed } : State) L mc ms := by
      refine ⟨?_, q2, q3, q4, q5, q6⟩
      obtain ⟨t, ht, -⟩ := State.frames_cons hr
      show ({ U with heap := s₂.heap, slotsUsed := s₂.slotsUsed } : State) = { U.setFrames U.frames with heap := s₂.heap, slotsUsed := s₂.slotsUsed }
      rw [State.setFrames_self ht]
    subst hg
    refine Or.inl ⟨v, ⟨(({ U with heap := s₂.heap, slotsUsed := s₂.slotsUsed } : State).setVm s₂.vm), Ls ++ L, c0 + mc, s0 + ms⟩,
      ⟨X.admits, X.cas, X.clock, X.frames, X.room, X.hears, X.method, X.code, (X.here.setHeapUsed s₂.heap s₂.slotsUsed).setVm hW'.alike, X.tail, State.WarmedH.trans X.warmed hW', X.limits, X.bytes, X.same.trans (hsame.setVm s.vm)⟩,
      ⟨g, mk, s₂, L, rfl, rfl, hqc, rfl, hL, rfl, rfl⟩, ?_⟩
    show Steps p.tables e below _ ((({ U with heap := s₂.heap, slotsUsed := s₂.slotsUsed } : State).setVm s₂.vm).setTop { g with pc := g.pc + len₂, stack := v.toList ++ g.stack })
    rw [← hs₂]
    exact hsteps
  · obtain ⟨e2, q2, q3, q4, q5, q6⟩ := id hsm
    have e3 : s₂ = ({ (U.calling g mk a).setFrames s₂.frames with heap := s₂.heap, slotsUsed := s₂.slotsUsed } : State).setVm s₂.vm := by
      have : s₂ = ({ s₂ with vm := (U.calling g mk a).vm } : State).setVm s₂.vm := rfl
      rw [e2] at this
      exact this
    have hf₂ : s₂.frames = .throwing q :: .java g :: U.frames.tail := hend
    have hW' : U.WarmedH s₂.vm := hW₂
    have hs₂ : s₂ = ((({ U with heap := s₂.heap, slotsUsed := s₂.slotsUsed } : State).setVm s₂.vm).setTop g).pushFrame (.throwing q) := by
      refine e3.trans ?_
      rw [hf₂, State.calling_eq h.top, State.setFrames_setFrames, State.pushFrame, State.frames_setTop _ hr', State.setTop_of_frames _ hr', State.setFrames_setFrames, hr]
      rfl
    have hsame : U.sameButNew ({ U with heap := s₂.heap, slotsUsed := s₂.slotsUsed } : State) L mc ms := by
      refine ⟨?_, q2, q3, q4, q5, q6⟩
      obtain ⟨t, ht, -⟩ := State.frames_cons hr
      show ({ U with heap := s₂.heap, slotsUsed := s₂.slotsUsed } : State) = { U.setFrames U.frames with heap := s₂.heap, slotsUsed := s₂.slotsUsed }
      rw [State.setFrames_self ht]
    subst hg
    refine Or.inr ⟨q, ⟨(({ U with heap := s₂.heap, slotsUsed := s₂.slotsUsed } : State).setVm s₂.vm), Ls ++ L, c0 + mc, s0 + ms⟩,
      ⟨X.admits, X.cas, X.clock, X.frames, X.room, X.hears, X.method, X.code, (X.here.setHeapUsed s₂.heap s₂.slotsUsed).setVm hW'.alike, X.tail, State.WarmedH.trans X.warmed hW', X.limits, X.bytes, X.same.trans (hsame.setVm s.vm)⟩,
      ⟨g, mk, s₂, L, E, ce, rfl, rfl, hx, hce, hcv, hcl, rfl, hL, rfl, rfl⟩, ?_⟩
    show Steps p.tables e below _ (((({ U with heap := s₂.heap, slotsUsed := s₂.slotsUsed } : State).setVm s₂.vm).setTop g).pushFrame (.throwing q))
    rw [← hs₂]
    exact hsteps
end Payer
section Calls
variable {p : Program} {l : Launch} {e : Env} {R : Room} {s : State} {m : MethodId} {args : Array Value} {below : List Frame} {meth : Method} {c : Code} {T : State} {locs : List Loc} {cells slots : Nat}
theorem vx_callV (X : Stand p l e R s m args below meth c T locs cells slots) (hexec : p.tables.exec = Jvm.exec) {own C : String} {index : Nat} {y : MethodName} {bytes : ByteArray} {maxL : Nat} {ret : Option FieldType}
    (hown : s.vm.findClass own = some m.cls) (hlink : (Cond.methodLink own index y).before args s = true) (hinst : (Cond.instanceMethod y).before args s = true) (hsel : (Cond.selects C y y).before args s = true)
    (hcode : (Cond.code y bytes maxL ret).before args s = true) (hy : y.cls ≠ "java/lang/invoke/MethodHandle" ∧ y.cls ≠ "java/lang/invoke/VarHandle")
    {W9 : Nat} {Pre : Pt → Array Value → Prop} {Post : Pt → Array Value → Option Value → Pt → Prop} {PostX : Pt → Array Value → Addr → Pt → Prop} (hK : vx_Back l R p e below s args y 3 W9 Pre Post PostX)
    {b : Addr} {cellB : Cell} (hcell : T.heap[b]? = some cellB) (hobj : cellB.vm.isStatics = false) (hcls : s.vm.findClass C = some cellB.cls)
    {g : JFrame} (hg : g.method = m) (hsize : g.locals.size = c.maxLocals) {argsL rest : List Value} (hlen : ∀ sig, parseMethodDescriptor y.desc = some sig → argsL.length = sig.parameters.length)
    (hstack : g.stack = argsL.reverse ++ .ref b :: rest) (hW : 2 * g.monitorRoom + (rest.map fun v => v.category).sum ≤ W9) (hdg : decode c.code g.pc = .ok (.invokevirtual index, 3))
    (hpre : ∀ vm₁, s.WarmedH vm₁ → Pre ⟨T.setVm vm₁, locs, cells, slots⟩ (Value.ref b :: argsL).toArray) :
    (∃ (v : Option Value) (vm₁ : Vm) (B : Pt), s.WarmedH vm₁ ∧ Stand p l e R s m args below meth c B.U B.locs B.cells B.slots ∧ Post ⟨T.setVm vm₁, locs, cells, slots⟩ (Value.ref b :: argsL).toArray v B ∧
      ∀ target, Steps p.tables e below (B.U.setTop { g with pc := g.pc + 3, stack := v.toList ++ rest }) target → Steps p.tables e below (T.setTop g) target) ∨
    (∃ (q : Addr) (vm₁ : Vm) (B : Pt), s.WarmedH vm₁ ∧ Stand p l e R s m args below meth c B.U B.locs B.cells B.slots ∧ PostX ⟨T.setVm vm₁, locs, cells, slots⟩ (Value.ref b :: argsL).toArray q B ∧
      Steps p.tables e below (T.setTop g) ((B.U.setTop { g with stack := rest }).pushFrame (.throwing q))) := by
  obtain ⟨mk, methM, hnamed, hmethM, hstM, habM⟩ := Cond.instanceMethod_spec hinst
  obtain ⟨methM', cM, hmethM', -, -, -, -, -, -, hsigM⟩ := Cond.code_spec hnamed hcode
  cases hmethM.symm.trans hmethM'
  obtain ⟨c2, r2, m2, q1, q2, q3, q4, kP, hkP, hkPi⟩ := Cond.selects_spec hsel
  cases hcls.symm.trans q1
  cases (State.methodFound?_of_named hnamed hy).symm.trans q2
  cases hnamed.symm.trans q3
  have hselP : selectMethod e.platform s.vm cellB.cls mk = .method mk := by rw [Launch.admits_selectMethod X.admits]; exact q4
  obtain ⟨vm₁, X₁, hstep₁⟩ := X.invokevirtual hexec hown hlink hnamed hmethM hstM hkP hkPi hy (a := b) (cell := cellB) hcell
    (fun z h => by rw [h] at hobj; cases hobj) hselP hmethM habM hkP hkPi (g := g) hg (argsL := argsL) (rest := rest) (hlen _ hsigM) hstack hdg
  rcases hK m meth c ⟨T.setVm vm₁, locs, cells, slots⟩ { g with stack := rest } (.invokevirtual index) mk (Value.ref b :: argsL).toArray X₁ hg hsize hdg hW (X₁.named hnamed) (hpre vm₁ X₁.warmed) with ⟨v, B, X', hpost, hsteps⟩ | ⟨q, B, X', hpost, hsteps⟩
  · exact Or.inl ⟨v, vm₁, B, X₁.warmed, X', hpost, fun target h => hstep₁ _ fun acts => by rw [doInvoke_state]; exact hsteps.trans h⟩
  · exact Or.inr ⟨q, vm₁, B, X₁.warmed, X', hpost, hstep₁ _ fun acts => by rw [doInvoke_state]; exact hsteps⟩
theorem vx_callS (X : Stand p l e R s m args below meth c T locs cells slots) (hexec : p.tables.exec = Jvm.exec) {own : String} {index : Nat} {y : MethodName} {bytes : ByteArray} {maxL : Nat} {ret : Option FieldType}
    (hown : s.vm.findClass own = some m.cls) (hlink : (Cond.methodLink own index y).before args s = true) (hstat : (Cond.static y).before args s = true) (hinit : (Cond.initialized y.cls).before args s = true)
    (hcode : (Cond.code y bytes maxL ret).before args s = true) (hy : y.cls ≠ "java/lang/invoke/MethodHandle" ∧ y.cls ≠ "java/lang/invoke/VarHandle")
    {W9 : Nat} {Pre : Pt → Array Value → Prop} {Post : Pt → Array Value → Option Value → Pt → Prop} {PostX : Pt → Array Value → Addr → Pt → Prop} (hK : vx_Back l R p e below s args y 3 W9 Pre Post PostX)
    {g : JFrame} (hg : g.method = m) (hsize : g.locals.size = c.maxLocals) {argsL rest : List Value} (hlen : ∀ sig, parseMethodDescriptor y.desc = some sig → argsL.length = sig.parameters.length)
    (hstack : g.stack = argsL.reverse ++ rest) (hW : 2 * g.monitorRoom + (rest.map fun v => v.category).sum ≤ W9) (hdg : decode c.code g.pc = .ok (.invokestatic index, 3))
    (hpre : ∀ vm₁, s.WarmedH vm₁ → Pre ⟨T.setVm vm₁, locs, cells, slots⟩ argsL.toArray) :
    (∃ (v : Option Value) (vm₁ : Vm) (B : Pt), s.WarmedH vm₁ ∧ Stand p l e R s m args below meth c B.U B.locs B.cells B.slots ∧ Post ⟨T.setVm vm₁, locs, cells, slots⟩ argsL.toArray v B ∧
      ∀ target, Steps p.tables e below (B.U.setTop { g with pc := g.pc + 3, stack := v.toList ++ rest }) target → Steps p.tables e below (T.setTop g) target) ∨
    (∃ (q : Addr) (vm₁ : Vm) (B : Pt), s.WarmedH vm₁ ∧ Stand p l e R s m args below meth c B.U B.locs B.cells B.slots ∧ PostX ⟨T.setVm vm₁, locs, cells, slots⟩ argsL.toArray q B ∧
      Steps p.tables e below (T.setTop g) ((B.U.setTop { g with stack := rest }).pushFrame (.throwing q))) := by
  obtain ⟨mk, hnamed⟩ := Cond.code_named hcode
  obtain ⟨methM, cM, hmethM, -, -, -, -, -, -, hsigM⟩ := Cond.code_spec hnamed hcode
  have hstatic : methM.isStatic = true := Cond.static_spec hnamed hmethM hstat
  obtain ⟨kP, hkP, -⟩ := className_of_methodNamed hnamed
  have hinitP : kP.init = .initialized := Cond.initialized_spec (findClass_of_methodNamed hnamed) hkP hinit
  obtain ⟨vm₁, X₁, hstep₁⟩ := X.invokestatic hexec hown hlink hnamed hmethM hstatic hkP hinitP hy (g := g) hg (argsL := argsL) (rest := rest) (hlen _ hsigM) hstack hdg
  rcases hK m meth c ⟨T.setVm vm₁, locs, cells, slots⟩ { g with stack := rest } (.invokestatic index) mk argsL.toArray X₁ hg hsize hdg hW (X₁.named hnamed) (hpre vm₁ X₁.warmed) with ⟨v, B, X', hpost, hsteps⟩ | ⟨q, B, X', hpost, hsteps⟩
  · exact Or.inl ⟨v, vm₁, B, X₁.warmed, X', hpost, fun target h => hstep₁ _ fun acts => by rw [doInvoke_state]; exact hsteps.trans h⟩
  · exact Or.inr ⟨q, vm₁, B, X₁.warmed, X', hpost, hstep₁ _ fun acts => by rw [doInvoke_state]; exact hsteps⟩
end Calls
theorem vx_cls {s : State} {T : State} {vm₁ : Vm} {E : String} {k : ClassId} (hW : s.WarmedH vm₁) (h : (T.setVm vm₁).vm.findClass E = some k) : s.vm.findClass E = some k := by
  have h1 : vm₁.findClass E = some k := h
  rw [hW.alike.findClass] at h1
  exact h1
/-- the method's frame g, with q thrown over it -/
def vx_W (p : Program) (l : Launch) (e : Env) (R : Room) (s : State) (m : MethodId) (args : Array Value) (below : List Frame) (meth : Method) (c : Code) (H : Heap) (locs : List Loc) (cells slots : Nat) (Q : State → Prop) (g : JFrame) (q : Addr) : Prop :=
  ∀ T : State, T.heap = H → Stand p l e R s m args below meth c T locs cells slots → ∃ t, Steps p.tables e below ((T.setTop g).pushFrame (.throwing q)) t ∧ Q t
def vx_Run (p : Program) (l : Launch) (e : Env) (R : Room) (s : State) (m : MethodId) (args : Array Value) (below : List Frame) (meth : Method) (c : Code) (H : Heap) (locs : List Loc) (cells slots mc ms : Nat) (g : JFrame) (rest : List Value) (Qa : State → Outcome → State → Prop) (XC : String → State → State → Prop) (free : Addr → Prop) : Prop :=
  ∀ T : State, T.heap = H → Stand p l e R s m args below meth c T locs cells slots →
    (∃ (v : Option Value) (st₀ t T' : State) (L : List Loc), st₀.heap = H ∧ Stand p l e R s m args below meth c T' (locs ++ L) (cells + mc) (slots + ms) ∧ (∀ q ∈ L, free q.base) ∧ T'.heap = t.heap ∧ T'.vm = t.vm ∧ Qa st₀ (.returned v) t ∧
      Goes p e below T g T' { g with pc := g.pc + 3, stack := v.toList ++ rest }) ∨
    (∃ (q : Addr) (st₀ t T' : State) (L : List Loc) (E : String) (ce : Cell), st₀.heap = H ∧ Stand p l e R s m args below meth c T' (locs ++ L) (cells + mc) (slots + ms) ∧ (∀ z ∈ L, free z.base) ∧ T'.heap = t.heap ∧ T'.vm = t.vm ∧ XC E st₀ t ∧ t.heap[q]? = some ce ∧ ce.vm = .none ∧ s.vm.findClass E = some ce.cls ∧
      Steps p.tables e below (T.setTop g) ((T'.setTop { g with stack := rest }).pushFrame (.throwing q)))
def vx_X {S : Type} (px : S → Prop) (B : String → S → State → Prop) (A : Nat → Prop) : String → State → State → Prop := fun E st t => ∃ u : S, px u ∧ B E u t ∧ va_F A st t
section Runs
variable {p : Program} {l : Launch} {e : Env} {R : Room} {s : State} {m : MethodId} {args : Array Value} {below : List Frame} {meth : Method} {c : Code} {H : Heap} {locs : List Loc} {cells slots : Nat}
variable {y : MethodName} {bytes cc : ByteArray} {maxL nL mc ms n index : Nat} {ret : Option FieldType} {ws : List Cond} {rm : Room} {Pc : Array Value → State → Prop} {Qc : Array Value → State → Outcome → State → Prop} {XC : String → State → State → Prop} {free : Addr → Prop} {Ts : List Cond} {own C : String} {b : Addr} {As rest : List Value} {g : JFrame}
theorem vx_callBack (cb : CallB R s args own index y bytes maxL ret ws rm mc ms n) (hM : vx_Met l y ws rm Pc Qc XC mc ms free) (hbl : FrameBlind Pc) : vx_Back l R p e below s args y 3 8 (PreOf R mc ms Pc) (PostOf Qc mc ms free) (vx_Post XC mc ms free) := by
  obtain ⟨hrc, hrs, hfr, hlo, hws, hcw, -, hini, -⟩ := cb
  exact vx_back (bytes := bytes) (maxL := maxL) (ret := ret) hM hbl hrc hrs hfr hlo hws hcw (fun a' U hW => word_at hW (Or.inl (by first | rfl | simp [Cond.onTables, Cond.keeps, Cond.steady])) hini)
theorem vx_runV (S : CallFix p m c cc nL s args Ts own) (hM : vx_Met l y ws rm Pc Qc XC mc ms free) (cw : CallW R s args own C index y bytes maxL ret ws rm mc ms n) (hp : PreV s H C b Pc As)
    (hg : g.method = m) (hn : As.length = n) (hsize : g.locals.size = nL) (hstack : g.stack = As.reverse ++ .ref b :: rest) (hW : 2 * g.monitorRoom + (rest.map fun v => v.category).sum ≤ 8) (hdg : decode cc g.pc = .ok (.invokevirtual index, 3)) (hf : cells + mc ≤ R.cells ∧ slots + ms ≤ R.slots) :
    vx_Run p l e R s m args below meth c H locs cells slots mc ms g rest (Qc (Value.ref b :: As).toArray) XC free := by
  have hK : vx_Back l R p e below s args y 3 8 (PreOf R mc ms Pc) (PostOf Qc mc ms free) (vx_Post XC mc ms free) := vx_callBack cw.1 hM hp.1
  obtain ⟨⟨-, -, -, -, -, -, hcode, -, hy, hlen, hl⟩, hin, hse⟩ := cw
  obtain ⟨hx, hb, hml, ho, -⟩ := S
  obtain ⟨-, ⟨cellB, hcB, hoB, hclB⟩, hPc⟩ := hp
  intro T hT X
  rcases vx_callV X hx (C := C) (bytes := bytes) (maxL := maxL) (ret := ret) ho hl hin hse hcode hy hK (by rw [hT]; exact hcB) hoB hclB hg (hsize.trans hml.symm) (argsL := As) (rest := rest) (fun sig h => hn.trans (hlen sig h)) hstack hW (by rw [hb]; exact hdg)
    (fun vm₁ hW₁ => ⟨hf.1, hf.2, hPc (T.setVm vm₁) hT hW₁⟩) with ⟨v, vm₁, ⟨U', l2, c2, s2⟩, hW₁, X', ⟨g', mk, t, L, e1, e2, hq, h1, hL, h2, h3⟩, st⟩ | ⟨q, vm₁, ⟨U', l2, c2, s2⟩, hW₁, X', ⟨g', mk, t, L, E, ce, e1, e2, hq, hce, hcv, hcl, h1, hL, h2, h3⟩, st⟩
  · dsimp only [Pt.U, Pt.locs, Pt.cells, Pt.slots] at X' e1 e2 h1 h2 h3 st
    subst h1; subst h2; subst h3
    exact Or.inl ⟨v, (T.setVm vm₁).calling g' mk (Value.ref b :: As).toArray, t, U', L, hT, X', hL, e1, e2, hq, st⟩
  · dsimp only [Pt.U, Pt.locs, Pt.cells, Pt.slots] at X' e1 e2 h1 h2 h3 st hcl
    subst h1; subst h2; subst h3
    exact Or.inr ⟨q, (T.setVm vm₁).calling g' mk (Value.ref b :: As).toArray, t, U', L, E, ce, hT, X', hL, e1, e2, hq, hce, hcv, vx_cls hW₁ hcl, st⟩
theorem vx_runS (S : CallFix p m c cc nL s args Ts own) (hM : vx_Met l y ws rm Pc Qc XC mc ms free) (cw : CallB R s args own index y bytes maxL ret ws rm mc ms n ∧ (Cond.static y).before args s = true) (hp : PreS s H Pc As)
    (hg : g.method = m) (hn : As.length = n) (hsize : g.locals.size = nL) (hstack : g.stack = As.reverse ++ rest) (hW : 2 * g.monitorRoom + (rest.map fun v => v.category).sum ≤ 8) (hdg : decode cc g.pc = .ok (.invokestatic index, 3)) (hf : cells + mc ≤ R.cells ∧ slots + ms ≤ R.slots) :
    vx_Run p l e R s m args below meth c H locs cells slots mc ms g rest (Qc As.toArray) XC free := by
  have hK : vx_Back l R p e below s args y 3 8 (PreOf R mc ms Pc) (PostOf Qc mc ms free) (vx_Post XC mc ms free) := vx_callBack cw.1 hM hp.1
  obtain ⟨⟨-, -, -, -, -, -, hcode, hini, hy, hlen, hl⟩, hstt⟩ := cw
  obtain ⟨hx, hb, hml, ho, -⟩ := S
  intro T hT X
  rcases vx_callS X hx (bytes := bytes) (maxL := maxL) (ret := ret) ho hl hstt hini hcode hy hK hg (hsize.trans hml.symm) (argsL := As) (rest := rest) (fun sig h => hn.trans (hlen sig h)) hstack hW (by rw [hb]; exact hdg)
    (fun vm₁ hW₁ => ⟨hf.1, hf.2, hp.2 (T.setVm vm₁) hT hW₁⟩) with ⟨v, vm₁, ⟨U', l2, c2, s2⟩, hW₁, X', ⟨g', mk, t, L, e1, e2, hq, h1, hL, h2, h3⟩, st⟩ | ⟨q, vm₁, ⟨U', l2, c2, s2⟩, hW₁, X', ⟨g', mk, t, L, E, ce, e1, e2, hq, hce, hcv, hcl, h1, hL, h2, h3⟩, st⟩
  · dsimp only [Pt.U, Pt.locs, Pt.cells, Pt.slots] at X' e1 e2 h1 h2 h3 st
    subst h1; subst h2; subst h3
    exact Or.inl ⟨v, (T.setVm vm₁).calling g' mk As.toArray, t, U', L, hT, X', hL, e1, e2, hq, st⟩
  · dsimp only [Pt.U, Pt.locs, Pt.cells, Pt.slots] at X' e1 e2 h1 h2 h3 st hcl
    subst h1; subst h2; subst h3
    exact Or.inr ⟨q, (T.setVm vm₁).calling g' mk As.toArray, t, U', L, E, ce, hT, X', hL, e1, e2, hq, hce, hcv, vx_cls hW₁ hcl, st⟩
end Runs
section Rows
variable {p : Program} {l : Launch} {e : Env} {R : Room} {s : State} {m : MethodId} {args : Array Value} {below : List Frame} {meth : Method} {c : Code} {H : Heap} {locs : List Loc} {cells slots : Nat} {Q : State → Prop}
variable {mc ms : Nat} {free : Addr → Prop} {A0 A1 : Nat → Prop} {H0 : Heap} {a : Array Value} {pc : Nat} {ls : Array Slot} {st0 rest : List Value}
theorem vx_keep {st₀ t T' : State} {L : List Loc} (h0 : st₀.heap = H) (e1 : T'.heap = t.heap) (hS : va_S A0 H0 H locs) (hA : ∀ q, q < H.size → A1 q → A0 q) (hf : ∀ q, free q → A0 q) (hL : ∀ q ∈ L, free q.base) (hF : va_F A1 st₀ t) :
    H.size ≤ T'.heap.size ∧ (∀ q : Nat, q < H.size → ¬ A1 q → T'.heap[q]? = H[q]?) ∧ va_S A0 H0 T'.heap (locs ++ L) := by
  obtain ⟨hz, hk⟩ := hF
  rw [h0] at hz hk
  exact ⟨by rw [e1]; exact hz, fun q h1 h2 => by rw [e1]; exact hk q h1 h2,
    ⟨Nat.le_trans hS.1 (by rw [e1]; exact hz), fun q h1 h2 => by rw [e1, hk q (Nat.lt_of_lt_of_le h1 hS.1) (fun z => h2 (hA q (Nat.lt_of_lt_of_le h1 hS.1) z))]; exact hS.2.1 q h1 h2, fun q hq => by
      rcases List.mem_append.mp hq with h | h
      · exact hS.2.2 q h
      · exact hf _ (hL q h)⟩⟩
theorem vx_calli {S SX : Type} {post : Int32 → S → Prop} {px : SX → Prop} {B : S → State → Prop} {BX : String → SX → State → Prop} {AX : Nat → Prop} (hr : vx_Run p l e R s m args below meth c H locs cells slots mc ms (F0 m pc ls st0) rest (va_Qi post B A1 a) (vx_X px BX AX) free) (hS : va_S A0 H0 H locs) (hA : ∀ q, q < H.size → A1 q → A0 q) (hf : ∀ q, free q → A0 q) (hAX : ∀ q, q < H.size → AX q → A0 q)
    (kx : ∀ (E : String) (ce : Cell) (q9 : Addr) (u : SX) (t : State) (H1 : Heap) (locs1 : List Loc), t.heap = H1 → s.vm.Alike t.vm → px u → BX E u t → H.size ≤ H1.size → (∀ q : Nat, q < H.size → ¬ AX q → H1[q]? = H[q]?) → va_S A0 H0 H1 locs1 → H1[q9]? = some ce → ce.vm = .none → s.vm.findClass E = some ce.cls → vx_W p l e R s m args below meth c H1 locs1 (cells + mc) (slots + ms) Q (F0 m pc ls rest) q9)
    (kk : ∀ (r : Int32) (u : S) (t : State) (H1 : Heap) (locs1 : List Loc), t.heap = H1 → s.vm.Alike t.vm → post r u → B u t → H.size ≤ H1.size → (∀ q : Nat, q < H.size → ¬ A1 q → H1[q]? = H[q]?) → va_S A0 H0 H1 locs1 → W p l e R s m args below meth c H1 locs1 (cells + mc) (slots + ms) Q (F0 m (pc + 3) ls (.int r :: rest))) : W p l e R s m args below meth c H locs cells slots Q (F0 m pc ls st0) := by
  intro T hT X
  rcases hr T hT X with ⟨v, st₀, t, T', L, h0, X', hL, e1, e2, ⟨⟨r, u, hv, hp, hb⟩, hF⟩, st⟩ | ⟨q, st₀, t, T', L, E, ce, h0, X', hL, e1, e2, ⟨u, hp, hb, hF⟩, hce, hcv, hcl, st⟩
  · cases hv
    obtain ⟨k1, k2, k3⟩ := vx_keep h0 e1 hS hA hf hL hF
    obtain ⟨t2, a1, b1⟩ := kk r u t T'.heap (locs ++ L) e1.symm (by rw [← e2]; exact X'.warmed.alike) hp hb k1 k2 k3 T' rfl X'
    exact ⟨t2, st t2 a1, b1⟩
  · obtain ⟨k1, k2, k3⟩ := vx_keep h0 e1 hS hAX hf hL hF
    obtain ⟨t2, a1, b1⟩ := kx E ce q u t T'.heap (locs ++ L) e1.symm (by rw [← e2]; exact X'.warmed.alike) hp hb k1 k2 k3 (by rw [e1]; exact hce) hcv hcl T' rfl X'
    exact ⟨t2, st.trans a1, b1⟩
theorem vx_calll {S SX : Type} {post : Int64 → S → Prop} {px : SX → Prop} {B : S → State → Prop} {BX : String → SX → State → Prop} {AX : Nat → Prop} (hr : vx_Run p l e R s m args below meth c H locs cells slots mc ms (F0 m pc ls st0) rest (va_Ql post B A1 a) (vx_X px BX AX) free) (hS : va_S A0 H0 H locs) (hA : ∀ q, q < H.size → A1 q → A0 q) (hf : ∀ q, free q → A0 q) (hAX : ∀ q, q < H.size → AX q → A0 q)
    (kx : ∀ (E : String) (ce : Cell) (q9 : Addr) (u : SX) (t : State) (H1 : Heap) (locs1 : List Loc), t.heap = H1 → s.vm.Alike t.vm → px u → BX E u t → H.size ≤ H1.size → (∀ q : Nat, q < H.size → ¬ AX q → H1[q]? = H[q]?) → va_S A0 H0 H1 locs1 → H1[q9]? = some ce → ce.vm = .none → s.vm.findClass E = some ce.cls → vx_W p l e R s m args below meth c H1 locs1 (cells + mc) (slots + ms) Q (F0 m pc ls rest) q9)
    (kk : ∀ (r : Int64) (u : S) (t : State) (H1 : Heap) (locs1 : List Loc), t.heap = H1 → s.vm.Alike t.vm → post r u → B u t → H.size ≤ H1.size → (∀ q : Nat, q < H.size → ¬ A1 q → H1[q]? = H[q]?) → va_S A0 H0 H1 locs1 → W p l e R s m args below meth c H1 locs1 (cells + mc) (slots + ms) Q (F0 m (pc + 3) ls (.long r :: rest))) : W p l e R s m args below meth c H locs cells slots Q (F0 m pc ls st0) := by
  intro T hT X
  rcases hr T hT X with ⟨v, st₀, t, T', L, h0, X', hL, e1, e2, ⟨⟨r, u, hv, hp, hb⟩, hF⟩, st⟩ | ⟨q, st₀, t, T', L, E, ce, h0, X', hL, e1, e2, ⟨u, hp, hb, hF⟩, hce, hcv, hcl, st⟩
  · cases hv
    obtain ⟨k1, k2, k3⟩ := vx_keep h0 e1 hS hA hf hL hF
    obtain ⟨t2, a1, b1⟩ := kk r u t T'.heap (locs ++ L) e1.symm (by rw [← e2]; exact X'.warmed.alike) hp hb k1 k2 k3 T' rfl X'
    exact ⟨t2, st t2 a1, b1⟩
  · obtain ⟨k1, k2, k3⟩ := vx_keep h0 e1 hS hAX hf hL hF
    obtain ⟨t2, a1, b1⟩ := kx E ce q u t T'.heap (locs ++ L) e1.symm (by rw [← e2]; exact X'.warmed.alike) hp hb k1 k2 k3 (by rw [e1]; exact hce) hcv hcl T' rfl X'
    exact ⟨t2, st.trans a1, b1⟩
theorem vx_callf {S SX : Type} {post : UInt32 → S → Prop} {px : SX → Prop} {B : S → State → Prop} {BX : String → SX → State → Prop} {AX : Nat → Prop} (hr : vx_Run p l e R s m args below meth c H locs cells slots mc ms (F0 m pc ls st0) rest (va_Qf post B A1 a) (vx_X px BX AX) free) (hS : va_S A0 H0 H locs) (hA : ∀ q, q < H.size → A1 q → A0 q) (hf : ∀ q, free q → A0 q) (hAX : ∀ q, q < H.size → AX q → A0 q)
    (kx : ∀ (E : String) (ce : Cell) (q9 : Addr) (u : SX) (t : State) (H1 : Heap) (locs1 : List Loc), t.heap = H1 → s.vm.Alike t.vm → px u → BX E u t → H.size ≤ H1.size → (∀ q : Nat, q < H.size → ¬ AX q → H1[q]? = H[q]?) → va_S A0 H0 H1 locs1 → H1[q9]? = some ce → ce.vm = .none → s.vm.findClass E = some ce.cls → vx_W p l e R s m args below meth c H1 locs1 (cells + mc) (slots + ms) Q (F0 m pc ls rest) q9)
    (kk : ∀ (r : UInt32) (u : S) (t : State) (H1 : Heap) (locs1 : List Loc), t.heap = H1 → s.vm.Alike t.vm → post r u → B u t → H.size ≤ H1.size → (∀ q : Nat, q < H.size → ¬ A1 q → H1[q]? = H[q]?) → va_S A0 H0 H1 locs1 → W p l e R s m args below meth c H1 locs1 (cells + mc) (slots + ms) Q (F0 m (pc + 3) ls (.float r :: rest))) : W p l e R s m args below meth c H locs cells slots Q (F0 m pc ls st0) := by
  intro T hT X
  rcases hr T hT X with ⟨v, st₀, t, T', L, h0, X', hL, e1, e2, ⟨⟨r, u, hv, hp, hb⟩, hF⟩, st⟩ | ⟨q, st₀, t, T', L, E, ce, h0, X', hL, e1, e2, ⟨u, hp, hb, hF⟩, hce, hcv, hcl, st⟩
  · cases hv
    obtain ⟨k1, k2, k3⟩ := vx_keep h0 e1 hS hA hf hL hF
    obtain ⟨t2, a1, b1⟩ := kk r u t T'.heap (locs ++ L) e1.symm (by rw [← e2]; exact X'.warmed.alike) hp hb k1 k2 k3 T' rfl X'
    exact ⟨t2, st t2 a1, b1⟩
  · obtain ⟨k1, k2, k3⟩ := vx_keep h0 e1 hS hAX hf hL hF
    obtain ⟨t2, a1, b1⟩ := kx E ce q u t T'.heap (locs ++ L) e1.symm (by rw [← e2]; exact X'.warmed.alike) hp hb k1 k2 k3 (by rw [e1]; exact hce) hcv hcl T' rfl X'
    exact ⟨t2, st.trans a1, b1⟩
theorem vx_calld {S SX : Type} {post : UInt64 → S → Prop} {px : SX → Prop} {B : S → State → Prop} {BX : String → SX → State → Prop} {AX : Nat → Prop} (hr : vx_Run p l e R s m args below meth c H locs cells slots mc ms (F0 m pc ls st0) rest (va_Qd post B A1 a) (vx_X px BX AX) free) (hS : va_S A0 H0 H locs) (hA : ∀ q, q < H.size → A1 q → A0 q) (hf : ∀ q, free q → A0 q) (hAX : ∀ q, q < H.size → AX q → A0 q)
    (kx : ∀ (E : String) (ce : Cell) (q9 : Addr) (u : SX) (t : State) (H1 : Heap) (locs1 : List Loc), t.heap = H1 → s.vm.Alike t.vm → px u → BX E u t → H.size ≤ H1.size → (∀ q : Nat, q < H.size → ¬ AX q → H1[q]? = H[q]?) → va_S A0 H0 H1 locs1 → H1[q9]? = some ce → ce.vm = .none → s.vm.findClass E = some ce.cls → vx_W p l e R s m args below meth c H1 locs1 (cells + mc) (slots + ms) Q (F0 m pc ls rest) q9)
    (kk : ∀ (r : UInt64) (u : S) (t : State) (H1 : Heap) (locs1 : List Loc), t.heap = H1 → s.vm.Alike t.vm → post r u → B u t → H.size ≤ H1.size → (∀ q : Nat, q < H.size → ¬ A1 q → H1[q]? = H[q]?) → va_S A0 H0 H1 locs1 → W p l e R s m args below meth c H1 locs1 (cells + mc) (slots + ms) Q (F0 m (pc + 3) ls (.double r :: rest))) : W p l e R s m args below meth c H locs cells slots Q (F0 m pc ls st0) := by
  intro T hT X
  rcases hr T hT X with ⟨v, st₀, t, T', L, h0, X', hL, e1, e2, ⟨⟨r, u, hv, hp, hb⟩, hF⟩, st⟩ | ⟨q, st₀, t, T', L, E, ce, h0, X', hL, e1, e2, ⟨u, hp, hb, hF⟩, hce, hcv, hcl, st⟩
  · cases hv
    obtain ⟨k1, k2, k3⟩ := vx_keep h0 e1 hS hA hf hL hF
    obtain ⟨t2, a1, b1⟩ := kk r u t T'.heap (locs ++ L) e1.symm (by rw [← e2]; exact X'.warmed.alike) hp hb k1 k2 k3 T' rfl X'
    exact ⟨t2, st t2 a1, b1⟩
  · obtain ⟨k1, k2, k3⟩ := vx_keep h0 e1 hS hAX hf hL hF
    obtain ⟨t2, a1, b1⟩ := kx E ce q u t T'.heap (locs ++ L) e1.symm (by rw [← e2]; exact X'.warmed.alike) hp hb k1 k2 k3 (by rw [e1]; exact hce) hcv hcl T' rfl X'
    exact ⟨t2, st.trans a1, b1⟩
theorem vx_callv {S SX : Type} {post : S → Prop} {px : SX → Prop} {B : S → State → Prop} {BX : String → SX → State → Prop} {AX : Nat → Prop} (hr : vx_Run p l e R s m args below meth c H locs cells slots mc ms (F0 m pc ls st0) rest (va_Qv post B A1 a) (vx_X px BX AX) free) (hS : va_S A0 H0 H locs) (hA : ∀ q, q < H.size → A1 q → A0 q) (hf : ∀ q, free q → A0 q) (hAX : ∀ q, q < H.size → AX q → A0 q)
    (kx : ∀ (E : String) (ce : Cell) (q9 : Addr) (u : SX) (t : State) (H1 : Heap) (locs1 : List Loc), t.heap = H1 → s.vm.Alike t.vm → px u → BX E u t → H.size ≤ H1.size → (∀ q : Nat, q < H.size → ¬ AX q → H1[q]? = H[q]?) → va_S A0 H0 H1 locs1 → H1[q9]? = some ce → ce.vm = .none → s.vm.findClass E = some ce.cls → vx_W p l e R s m args below meth c H1 locs1 (cells + mc) (slots + ms) Q (F0 m pc ls rest) q9)
    (kk : ∀ (u : S) (t : State) (H1 : Heap) (locs1 : List Loc), t.heap = H1 → s.vm.Alike t.vm → post u → B u t → H.size ≤ H1.size → (∀ q : Nat, q < H.size → ¬ A1 q → H1[q]? = H[q]?) → va_S A0 H0 H1 locs1 → W p l e R s m args below meth c H1 locs1 (cells + mc) (slots + ms) Q (F0 m (pc + 3) ls (rest))) : W p l e R s m args below meth c H locs cells slots Q (F0 m pc ls st0) := by
  intro T hT X
  rcases hr T hT X with ⟨v, st₀, t, T', L, h0, X', hL, e1, e2, ⟨⟨u, hv, hp, hb⟩, hF⟩, st⟩ | ⟨q, st₀, t, T', L, E, ce, h0, X', hL, e1, e2, ⟨u, hp, hb, hF⟩, hce, hcv, hcl, st⟩
  · cases hv
    obtain ⟨k1, k2, k3⟩ := vx_keep h0 e1 hS hA hf hL hF
    obtain ⟨t2, a1, b1⟩ := kk u t T'.heap (locs ++ L) e1.symm (by rw [← e2]; exact X'.warmed.alike) hp hb k1 k2 k3 T' rfl X'
    exact ⟨t2, st t2 a1, b1⟩
  · obtain ⟨k1, k2, k3⟩ := vx_keep h0 e1 hS hAX hf hL hF
    obtain ⟨t2, a1, b1⟩ := kx E ce q u t T'.heap (locs ++ L) e1.symm (by rw [← e2]; exact X'.warmed.alike) hp hb k1 k2 k3 (by rw [e1]; exact hce) hcv hcl T' rfl X'
    exact ⟨t2, st.trans a1, b1⟩
/-- caught by the row x of this method's table; the rows ahead don't take it -/
theorem vx_catch {own name : String} {E : String} {ce : Cell} {q : Addr} (hown : s.vm.findClass own = some m.cls) (pre : List ExceptionTableEntry) (x : ExceptionTableEntry) (suf : List ExceptionTableEntry) (hsplit : c.exceptionTable.toList = pre ++ x :: suf)
    (hpass : ∀ z ∈ pre, covers z pc = false ∨ (z.catchType ≠ 0 ∧ ∃ nm : String, (Cond.classLink own z.catchType nm).before args s = true ∧ va_Nc E nm s)) (hx : covers x pc = true) (h0 : x.catchType ≠ 0)
    (hlink : (Cond.classLink own x.catchType name).before args s = true) (hcast : (Cond.castable E name).before args s = true) (hcell : H[q]? = some ce) (hv : ce.vm = .none) (hcl : s.vm.findClass E = some ce.cls)
    (kk : W p l e R s m args below meth c H locs cells slots Q (F0 m x.handlerPc ls [.ref q])) : vx_W p l e R s m args below meth c H locs cells slots Q (F0 m pc ls rest) q := by
  intro T hT X
  have hpl : e.platform.magicAccessors = ({} : Platform).magicAccessors := by rw [X.admits.platform]
  obtain ⟨c3, c4, hc3, hc4, hasg⟩ := Cond.castable_spec hcast
  cases Option.some.inj (hc3.symm.trans hcl)
  obtain ⟨c5, hc5, hcl5⟩ := Cond.classLink_spec hown hlink e.platform hpl
  cases Option.some.inj (hc4.symm.trans hc5)
  obtain ⟨vm', X', st⟩ := X.thenCaughtThrough q (g := F0 m pc ls rest) rfl (Steps.refl _) (by rw [hT]; exact hcell) (by rw [hv]; rfl) (by obtain ⟨k9, h9, -⟩ := Vm.findClass_spec hcl; exact ⟨k9, h9⟩) pre x suf hsplit
    (fun z hz => by
      rcases hpass z hz with h | ⟨hz0, nm, hl1, hn1⟩
      · exact Or.inl h
      · obtain ⟨c6, hc6, hcl6⟩ := Cond.classLink_spec hown hl1 e.platform hpl
        obtain ⟨a8, b8, h1, h2, h3⟩ := hn1
        cases Option.some.inj (h1.symm.trans hcl)
        cases Option.some.inj (h2.symm.trans hc6)
        exact Or.inr ⟨hz0, _, hcl6, h3⟩) hx (Or.inr ⟨h0, c4, hcl5, hasg⟩)
  obtain ⟨t, a1, b1⟩ := kk (T.setVm vm') hT X'
  exact ⟨t, st.trans a1, b1⟩
end Rows
section Ends
variable {p : Program} {l : Launch} {e : Env} {R : Room} {s : State} {m : MethodId} {args : Array Value} {below : List Frame} {meth : Method} {c : Code} {H : Heap} {locs : List Loc} {cells slots : Nat} {Q : State → Prop}
variable {mc ms : Nat} {free : Addr → Prop} {A0 A1 : Nat → Prop} {H0 : Heap} {a : Array Value} {ls : Array Slot} {st0 rest : List Value}
variable {Qc : Array Value → State → Outcome → State → Prop} {XC : String → State → State → Prop}
/-- what a body that may throw owes at its end -/
def vx_MQ (below : List Frame) (Qc : Array Value → State → Outcome → State → Prop) (XC : String → State → State → Prop) (a : Array Value) (s : State) (mc ms : Nat) (free : Addr → Prop) : State → Prop := fun t =>
  ∃ o, t.status = .running ∧ Ended t below o ∧ vx_Q Qc XC mc ms free a s o t
theorem vx_ret {g : JFrame} {mc ms : Nat} (k : W p l e R s m args below meth c H locs cells slots (MQ below Qc args s mc ms free) g) : W p l e R s m args below meth c H locs cells slots (vx_MQ below Qc XC args s mc ms free) g := by
  intro T hT X
  obtain ⟨t, a1, o, b1, b2, b3, b4⟩ := k T hT X
  exact ⟨t, a1, o, b1, b2, Or.inl ⟨b3, b4⟩⟩
/-- not caught here: it goes on to the caller -/
theorem vx_widen {g : JFrame} {q : Addr} {k n : Nat} (h1 : cells ≤ k) (h2 : slots ≤ n) (kk : vx_W p l e R s m args below meth c H locs k n Q g q) : vx_W p l e R s m args below meth c H locs cells slots Q g q := fun T hT X => kk T hT (stand_widen X h1 h2)
theorem vx_out {pc : Nat} {E : String} {ce : Cell} {q : Addr} {mc ms : Nat} (hout : ∀ x ∈ c.exceptionTable.toList, covers x pc = false) (hlocks : meth.locks = false) (hcell : H[q]? = some ce) (hv : ce.vm = .none) (hcl : s.vm.findClass E = some ce.cls)
    (hx : ∀ t : State, t.heap = H → s.vm.Alike t.vm → XC E s t) (hf : ∀ z ∈ locs, free z.base) (hc : cells ≤ mc) (hs : slots ≤ ms) :
    vx_W p l e R s m args below meth c H locs cells slots (vx_MQ below Qc XC args s mc ms free) (F0 m pc ls rest) q := by
  intro T hT X
  obtain ⟨st1, hrun, hend, hW, hsm⟩ := X.leaveThrown q (g := F0 m pc ls rest) rfl rfl rfl hout hlocks
  have hcell9 : (T.setFrames (.throwing q :: below)).heap[q]? = some ce := by
    show T.heap[q]? = some ce
    rw [hT]; exact hcell
  exact ⟨_, st1, .threw q, hrun, hend, Or.inr ⟨q, rfl, E, ce, locs, hx _ hT hW.alike, hcell9, hv, hcl, hW, hsm.mono hc hs, hf⟩⟩
theorem vx_frame {U : State} {k n : Nat} (h : s.sameButNew ({ U with vm := s.vm } : State) locs k n) : s.heap.size ≤ U.heap.size ∧ ∀ q : Nat, q < s.heap.size → (∀ z ∈ locs, z.base ≠ q) → U.heap[q]? = s.heap[q]? := by
  obtain ⟨-, h2, -, -, -, h6⟩ := h
  refine ⟨h2, fun q hq hz => ?_⟩
  obtain ⟨c9, e1, e2, e3, e4⟩ := h6 q _ (Array.getElem?_eq_getElem hq)
  have hs : c9.slots = (s.heap[q]).slots := Array.ext_getElem? fun i => e4 i fun hm => hz _ hm rfl
  have h9 : c9 = s.heap[q] := by
    rw [hs] at e2
    exact e2
  have e5 : U.heap[q]? = some c9 := e1
  rw [e5, h9, Array.getElem?_eq_getElem hq]
/-- the words of a throw but the four that speak of the heap -/
def vx_no (w : Cond) : Bool := decide (w ≠ .isRef (.static Bundle.tN "UNASSIGNED_STACK" Bundle.steD)) && decide (w ≠ .isRef (.static Bundle.tN "SUPPRESSED_SENTINEL" Bundle.listD)) && decide (w ≠ .laysStatic Bundle.tN "UNASSIGNED_STACK" Bundle.steD) && decide (w ≠ .laysStatic Bundle.tN "SUPPRESSED_SENTINEL" Bundle.listD)
def vx_at0 (own : String) (ic : Nat) (X : String) (names : List String) : List Cond := (Bundle.ownAtoms0 own ic X names).filter vx_no
def vx_atS (own : String) (ic : Nat) (X : String) (names : List String) : List Cond := (Bundle.ownAtoms own ic X names).filter vx_no
/-- a word that the tables alone decide, or a good one -/
def vx_ot (w : Cond) : Bool := w.onTables || goodWord w
theorem vx_ot_at {args a' : Array Value} {s U : State} {w : Cond} (hW : s.WarmedH U.vm) (hvm : s.vm = U.vm) (hg : vx_ot w = true) (h : w.before args s = true) : w.before a' U = true := by
  simp only [vx_ot, Bool.or_eq_true] at hg
  rcases hg with hg | hg
  · exact va_tabs hg hvm h
  · exact word_at hW (good_of_word hg) h
/-- a list's words: the good ones out of the method's own list, the others by premises of their own -/
theorem vx_hat {args : Array Value} {s : State} {L B : List Cond} (h1 : ∀ w ∈ L.filter goodWord, w.before args s = true) (h2 : ∀ w ∈ L.filter (fun w => !goodWord w), w ∈ B) (h3 : ∀ w ∈ B, w.before args s = true) : ∀ w ∈ L, w.before args s = true := by
  intro w hw
  by_cases g : goodWord w = true
  · exact h1 w (List.mem_filter.mpr ⟨hw, g⟩)
  · refine h3 w (h2 w (List.mem_filter.mpr ⟨hw, ?_⟩))
    show (!goodWord w) = true
    cases hgw : goodWord w
    · rfl
    · exact absurd hgw g
theorem vx_c {args : Array Value} {s : State} {w : Cond} {B : List Cond} (h : w.before args s = true) (t : ∀ w ∈ B, w.before args s = true) : ∀ w' ∈ w :: B, w'.before args s = true := fun w' h' => (List.mem_cons.mp h').elim (fun e => by rw [e]; exact h) (t w')
theorem vx_n {args : Array Value} {s : State} : ∀ w ∈ ([] : List Cond), w.before args s = true := fun _ h => nomatch h
theorem vx_own {args : Array Value} {s : State} {L : List Cond} (h1 : ∀ w ∈ L.filter vx_no, w.before args s = true)
    (hU : (Cond.isRef (.static Bundle.tN "UNASSIGNED_STACK" Bundle.steD)).before args s = true) (hN : (Cond.isRef (.static Bundle.tN "SUPPRESSED_SENTINEL" Bundle.listD)).before args s = true)
    (lU : (Cond.laysStatic Bundle.tN "UNASSIGNED_STACK" Bundle.steD).before args s = true) (lN : (Cond.laysStatic Bundle.tN "SUPPRESSED_SENTINEL" Bundle.listD).before args s = true) : ∀ w ∈ L, w.before args s = true := by
  intro w hw
  by_cases e1 : w = .isRef (.static Bundle.tN "UNASSIGNED_STACK" Bundle.steD)
  · rw [e1]; exact hU
  · by_cases e2 : w = .isRef (.static Bundle.tN "SUPPRESSED_SENTINEL" Bundle.listD)
    · rw [e2]; exact hN
    · by_cases e3 : w = .laysStatic Bundle.tN "UNASSIGNED_STACK" Bundle.steD
      · rw [e3]; exact lU
      · by_cases e4 : w = .laysStatic Bundle.tN "SUPPRESSED_SENTINEL" Bundle.listD
        · rw [e4]; exact lN
        · exact h1 w (List.mem_filter.mpr ⟨hw, by unfold vx_no; rw [decide_eq_true e1, decide_eq_true e2, decide_eq_true e3, decide_eq_true e4]; rfl⟩)
/-- where a static field lies, its class's statics cell in H -/
def vx_L (C n d : String) (A : Nat → Prop) (U : State) (H : Heap) : Prop := ∃ (c : ClassId) (k : Class) (i : Nat) (f : Field) (a : Nat) (cell : Cell), U.vm.findClass C = some c ∧ U.fieldFound? C n d = some (c, k, i, f) ∧ f.isStatic = true ∧ k.statics = some a ∧ H[a]? = some cell ∧ cell.vm.isStatics = true ∧ cell.cls = c ∧ f.slot < cell.slots.size ∧ k.staticTypes[f.slot]? = some f.type ∧ ¬ A a
theorem vx_L.moved {C n d : String} {A : Nat → Prop} {u U : State} {H : Heap} (hvm : u.vm.Alike U.vm) (h : vx_L C n d A u H) : vx_L C n d A U H := by
  obtain ⟨c, k, i, f, a, cell, h1, h2, h3, h4, h5, h6, h7, h8, h9, h10⟩ := h
  obtain ⟨k', hi', he⟩ := State.fieldFound?_setVm hvm h2
  exact ⟨c, k', i, f, a, cell, by rw [hvm.findClass]; exact h1, hi', h3, by rw [he]; exact h4, h5, h6, h7, h8, by rw [he]; exact h9, h10⟩
theorem vx_L.kept {C n d : String} {A : Nat → Prop} {U : State} {H H1 : Heap} (h : vx_L C n d A U H) (hq : ∀ a : Nat, a < H.size → ¬ A a → H1[a]? = H[a]?) : vx_L C n d A U H1 := by
  obtain ⟨c, k, i, f, a, cell, h1, h2, h3, h4, h5, h6, h7, h8, h9, h10⟩ := h
  exact ⟨c, k, i, f, a, cell, h1, h2, h3, h4, by rw [hq a (Array.getElem?_eq_some_iff.mp h5).1 h10]; exact h5, h6, h7, h8, h9, h10⟩
theorem vx_L.narrow {C n d : String} {A B : Nat → Prop} {U : State} {H : Heap} (h : vx_L C n d A U H) (hAB : ∀ q, B q → A q) : vx_L C n d B U H := by
  obtain ⟨c, k, i, f, a, cell, h1, h2, h3, h4, h5, h6, h7, h8, h9, h10⟩ := h
  exact ⟨c, k, i, f, a, cell, h1, h2, h3, h4, h5, h6, h7, h8, h9, fun z => h10 (hAB _ z)⟩
theorem vx_L.word {C n d : String} {A : Nat → Prop} {s : State} {args : Array Value} (h : vx_L C n d A s s.heap) : (Cond.laysStatic C n d).before args s = true := by
  obtain ⟨c, k, i, f, a, cell, h1, h2, h3, h4, h5, h6, h7, h8, h9, -⟩ := h
  show (Cond.laysStatic C n d).holds args s none s [] = true
  exact Cond.laysStatic_of h1 h2 h3 h4 h5 h6 h7 h8 h9
/-- .. and what it holds: null or some reference -/
def vx_Zq (C n d : String) (A : Nat → Prop) (U : State) (H : Heap) : Prop := va_Zq C n d A U H ∧ vx_L C n d A U H
theorem vx_Zq.moved {C n d : String} {A : Nat → Prop} {u U : State} {H : Heap} (hvm : u.vm.Alike U.vm) (h : vx_Zq C n d A u H) : vx_Zq C n d A U H := ⟨va_Zq.moved hvm h.1, vx_L.moved hvm h.2⟩
theorem vx_Zq.kept {C n d : String} {A : Nat → Prop} {U : State} {H H1 : Heap} (h : vx_Zq C n d A U H) (hq : ∀ a : Nat, a < H.size → ¬ A a → H1[a]? = H[a]?) : vx_Zq C n d A U H1 := ⟨va_Zq.kept h.1 hq, vx_L.kept h.2 hq⟩
theorem vx_Zq.narrow {C n d : String} {A B : Nat → Prop} {U : State} {H : Heap} (h : vx_Zq C n d A U H) (hAB : ∀ q, B q → A q) : vx_Zq C n d B U H := ⟨va_Zq.narrow h.1 hAB, vx_L.narrow h.2 hAB⟩
theorem vx_Zqof {args : Array Value} {s : State} {C n d : String} {A : Nat → Prop} (hl : (Cond.laysStatic C n d).before args s = true) (hini : (Cond.initialized C).before args s = true) (h : (Cond.isRef (.static C n d)).before args s = true) (hA : ∀ a : Nat, a < s.heap.size → ¬ A a) : vx_Zq C n d A s s.heap := by
  refine ⟨va_Zqof hl hini h hA, ?_⟩
  obtain ⟨c, k, i, f, a, cell, h1, h2, h3, h4, h5, h6, h7, h8, h9⟩ := Cond.laysStatic_spec hl
  exact ⟨c, k, i, f, a, cell, h1, h2, h3, h4, h5, h6, h7, h8, h9, hA a (Array.getElem?_eq_some_iff.mp h5).1⟩
theorem vx_isRef {C n d : String} {v : Value} {A : Nat → Prop} {s : State} {args : Array Value} (h : va_Z C n d v A s s.heap) (hv : v.isRef = true) : (Cond.isRef (.static C n d)).before args s = true := by
  obtain ⟨cf, kf, fi, f, a, cell, h1, h2, h3, h4, h5, h6, h7, -⟩ := h
  have he : (Term.static C n d).eval args s none [] s = some v := by
    simp [Term.eval, State.fieldNamed?, h1, h2, h4, h5, h6, h7]
  simp only [Cond.before, Cond.holds, Cond.value, he]
  cases v <;> simp_all [Value.isRef]
theorem vx_isRefq {C n d : String} {A : Nat → Prop} {s : State} {args : Array Value} (h : va_Zq C n d A s s.heap) : (Cond.isRef (.static C n d)).before args s = true := by
  rcases h with h | ⟨t, h⟩
  · exact vx_isRef h rfl
  · exact vx_isRef h rfl
/-- the same frame, seen from here: as if the method were called anew in this heap -/
theorem vx_rebase {T : State} (X : Stand p l e R s m args below meth c T locs cells slots) {R' : Room} (hf : R'.frames ≤ R.frames) (hl : R'.locals ≤ R.locals) (hc : cells + R'.cells ≤ R.cells) (hs : slots + R'.slots ≤ R.slots) :
    Stand p l e R' ((T.setVm s.vm).setFrames (.invoking m args :: below)) m args below meth c T [] 0 0 := by
  have htop : (T.setVm s.vm).topJava?.isSome := X.here.top
  have hF : ((T.setVm s.vm).setFrames (.invoking m args :: below)).frames = .invoking m args :: below := State.frames_setFrames _ (State.cur_lt_of_top htop)
  obtain ⟨g₀, hg0⟩ := Option.isSome_iff_exists.mp htop
  obtain ⟨r, hr⟩ := State.topJava?_eq_some.mp hg0
  have hl9 : e.platform.stackLimits (T.setVm s.vm).me = e.platform.stackLimits s.me := X.limits
  have hb9 : (T.setVm s.vm).me.stackBytes = s.me.stackBytes := X.bytes
  refine ⟨X.admits, X.cas, X.clock, hF, ?_, X.hears, X.method, X.code, X.here, X.tail, X.warmed, ?_, ?_, ?_⟩
  · have h := X.room
    have hU : ((T.setVm s.vm).setFrames (.invoking m args :: below)).localsInUse = s.localsInUse := by
      rw [State.localsInUse_invoking hF (meth := meth) (c := c) X.method X.code, State.localsInUse_invoking X.frames X.method X.code]
    simp only [State.hasRoom, Bool.and_eq_true, decide_eq_true_eq] at h ⊢
    obtain ⟨⟨⟨⟨h1, h2, h3, h4, h5, h6⟩, h7⟩, h8⟩, h9⟩ := h
    rw [X.frames, List.length_cons] at h2 h3
    have q1 := X.heapSize
    have q2 := X.used
    simp only [hF, hU, List.length_cons, State.stackLimits_setFrames, State.stackBytes_setFrames, hl9, hb9]
    refine ⟨⟨⟨⟨by omega, by omega, by omega, by omega, by omega, h6⟩, ?_⟩, ?_⟩, X.book⟩
    · show T.heap.size + R'.cells ≤ e.platform.maxCells
      omega
    · show T.slotsUsed + R'.slots ≤ e.platform.maxSlots
      omega
  · rw [State.stackLimits_setFrames]; rfl
  · rw [State.stackBytes_setFrames]; rfl
  · refine ⟨?_, Nat.le_refl _, Nat.le_refl _, ?_, ?_, fun a c9 h9 => ⟨c9, h9, rfl, rfl, fun _ _ => rfl⟩⟩
    · obtain ⟨t, ht, -⟩ := State.frames_cons hr
      show T.setVm s.vm = { ((T.setVm s.vm).setFrames (.invoking m args :: below)).setFrames (T.setVm s.vm).frames with heap := T.heap, slotsUsed := T.slotsUsed }
      rw [State.setFrames_setFrames, State.setFrames_self ht]
      rfl
    · show T.slotsUsed = T.slotsUsed + ((T.heap.toList.drop T.heap.size).map (·.slots.size)).sum
      rw [List.drop_eq_nil_of_le (Nat.le_of_eq Array.length_toList)]
      rfl
    · show ((T.heap.toList.drop T.heap.size).map (·.slots.size)).sum ≤ 0
      rw [List.drop_eq_nil_of_le (Nat.le_of_eq Array.length_toList)]
      exact Nat.le_refl _
/-- 'throw new E()': new; dup; invokespecial; athrow -/
theorem vx_throw0 {cc : ByteArray} {pc : Nat} (hexec : p.tables.exec = Jvm.exec) (hb : c.code = cc) (hl : l.stackTraces = false) {own cls : String} {names : List String} {ik ic mc ms : Nat} {A : Nat → Prop}
    (hown : s.vm.findClass own = some m.cls) (hcls : Bundle.fit cls = true) (hnames : ∀ n ∈ names, Bundle.fit n = true)
    (hk : (Cond.classLink own ik cls).before args s = true) (hini : (Cond.initialized cls).before args s = true) (hat : ∀ w ∈ vx_at0 own ic cls names, w.before args s = true)
    (hgood : ∀ w ∈ Cond.classLink own ik cls :: Cond.initialized cls :: vx_at0 own ic cls names, vx_ot w = true)
    (hU : vx_Zq Bundle.tN "UNASSIGNED_STACK" Bundle.steD A s s.heap) (hN : vx_Zq Bundle.tN "SUPPRESSED_SENTINEL" Bundle.listD A s s.heap) (hS : va_S A s.heap H locs) (hsize : ls.size = c.maxLocals)
    (d0 : decode cc pc = .ok (.new ik, 3)) (d3 : decode cc (pc + 3) = .ok (.dup, 1)) (d4 : decode cc (pc + 4) = .ok (.invokespecial ic, 3)) (d7 : decode cc (pc + 7) = .ok (.athrow, 1))
    (hout : ∀ x ∈ c.exceptionTable.toList, covers x (pc + 7) = false)
    (hRframes : names.length + 3 < R.frames) (hRlocals : (rest.map fun v => v.category).sum + (13 * (names.length + 1) + 42) ≤ R.locals) (hRcells : cells + 1 ≤ R.cells) (hRslots : slots + 6 ≤ R.slots) (hlocks : meth.locks = false)
    (hx : ∀ t : State, s.vm.Alike t.vm → H.size ≤ t.heap.size → (∀ q : Nat, q < H.size → t.heap[q]? = H[q]?) → XC cls s t)
    (hf : ∀ z ∈ locs, free z.base) (hc : cells + 1 ≤ mc) (hs : slots + 6 ≤ ms) :
    W p l e R s m args below meth c H locs cells slots (vx_MQ below Qc XC args s mc ms free) (F0 m pc ls rest) := by
  intro T hT X
  have htr : e.platform.stackTraces = false := (show e.platform.stackTraces = l.stackTraces by rw [X.admits.platform]).trans hl
  have Y := vx_rebase X (R' := { frames := R.frames, locals := R.locals, cells := 1, slots := 6 }) (Nat.le_refl _) (Nat.le_refl _) hRcells hRslots
  obtain ⟨s', hA⟩ : ∃ z, z = (T.setVm s.vm).setFrames (.invoking m args :: below) := ⟨_, rfl⟩
  rw [← hA] at Y
  have hvm : s'.vm = s.vm := by rw [hA]; rfl
  have hhp : s'.heap = H := by rw [hA]; exact hT
  have hW0 : s.WarmedH s'.vm := by rw [hvm]; exact State.WarmedH.refl s
  have hat' : ∀ w ∈ vx_at0 own ic cls names, w.before args s' = true := fun w hw => vx_ot_at hW0 hvm.symm (hgood w (List.mem_cons_of_mem _ (List.mem_cons_of_mem _ hw))) (hat w hw)
  have hk' : (Cond.classLink own ik cls).before args s' = true := vx_ot_at hW0 hvm.symm (hgood _ List.mem_cons_self) hk
  have hini' : (Cond.initialized cls).before args s' = true := vx_ot_at hW0 hvm.symm (hgood _ (List.mem_cons_of_mem _ List.mem_cons_self)) hini
  have hU' : vx_Zq Bundle.tN "UNASSIGNED_STACK" Bundle.steD A s' s'.heap := by rw [hhp]; exact vx_Zq.moved hW0.alike (hU.kept hS.2.1)
  have hN' : vx_Zq Bundle.tN "SUPPRESSED_SENTINEL" Bundle.listD A s' s'.heap := by rw [hhp]; exact vx_Zq.moved hW0.alike (hN.kept hS.2.1)
  have h : ∀ w ∈ Bundle.ownAtoms0 own ic cls names, w.before args s' = true := vx_own hat' (vx_isRefq hU'.1) (vx_isRefq hN'.1) hU'.2.word hN'.2.word
  have hown' : s'.vm.findClass own = some m.cls := by rw [hvm]; exact hown
  have hins : (Cond.instantiable cls 6).before args s' = true := h _ (by simp [Bundle.ownAtoms0])
  obtain ⟨vm₁, cX, kX, hfX, hkX, -, -, X₁, st1⟩ := Y.newCold hexec (own := own) (C := cls) (index := ik) (n := 6) hown' hk' hins hini'
    (g := F0 m pc ls rest) rfl (by rw [hb]; exact d0) (Nat.le_refl _) (Nat.le_refl _)
  generalize hT1 : (T.setVm vm₁).pushCell { cls := cX, slots := kX.instanceTypes.map defaultValue, vm := .none } = T1 at X₁ st1
  have hcat : (Value.ref T.heap.size).category = 1 := rfl
  have hcellA : T1.heap[T.heap.size]? = some (freshCell cX kX) := by rw [← hT1]; exact State.heap_pushCell_size _ _
  have d3' : decode c.code (pc + 3) = .ok (.dup, 1) := by rw [hb]; exact d3
  obtain ⟨U, hsteps, hrun, hend, hW, hsame, ce, hce, hO⟩ := X₁.ctorThrow0 hexec htr (own := own) (cls := cls) (names := names) (ic := ic) hown' hcls hnames h (fun x hx => nomatch hx) hfX hkX hcellA (by rw [hhp, hT]; exact Nat.le_refl _)
    (g := { method := m, pc := pc + 4, locals := ls, stack := .ref T.heap.size :: .ref T.heap.size :: rest, locked := none }) rfl hsize rfl rfl (rest := rest) rfl
    (by rw [hb]; exact d4) (by rw [hb]; exact d7) hout hRframes (by simp only [List.map_cons, List.sum_cons, hcat]; omega) hlocks
  obtain ⟨f1, f2⟩ := vx_frame hsame
  rw [hhp] at f1 f2
  have hWs : s.WarmedH U.vm := State.WarmedH.trans hW0 hW
  have hcl : s.vm.findClass cls = some ce.cls := by
    have h9 := hO.cls
    rw [hvm] at h9
    exact h9
  have hall : s.sameButNew ({ U with vm := s.vm } : State) locs mc ms := by
    subst hA
    obtain ⟨e1, e2⟩ := hsame
    rw [State.setFrames_setFrames] at e1
    have h2 : (T.setVm s.vm).sameButNew ({ U with vm := s.vm } : State) [] (0 + 1) (0 + 6) := ⟨e1, e2⟩
    have h3 := X.same.trans h2
    rw [List.append_nil] at h3
    exact h3.mono hc hs
  refine ⟨U, ?_, .threw T.heap.size, hrun, hend, Or.inr ⟨T.heap.size, rfl, cls, ce, locs, hx U hWs.alike f1 (fun q hq => f2 q hq (fun z hz => nomatch hz)), hce, hO.vm, hcl, hWs, hall, hf⟩⟩
  refine st1 _ ?_
  show Steps p.tables e below (T1.setTop { method := m, pc := pc + 3, locals := ls, stack := .ref T.heap.size :: rest, locked := none }) _
  jvm_step X₁.here [X₁.here.top, hexec, d3', Value.category]
  exact hsteps
/-- 'throw new E("text")': new; dup; ldc; invokespecial; athrow -/
theorem vx_throwS {cc : ByteArray} {pc : Nat} (hexec : p.tables.exec = Jvm.exec) (hb : c.code = cc) (hl : l.stackTraces = false) {own cls text : String} {names : List String} {ik is ic mc ms sa : Nat} {A : Nat → Prop}
    (hown : s.vm.findClass own = some m.cls) (hcls : Bundle.fit cls = true) (hnames : ∀ n ∈ names, Bundle.fit n = true)
    (hk : (Cond.classLink own ik cls).before args s = true) (hini : (Cond.initialized cls).before args s = true) (hstr : vk_R own is text sa s) (hat : ∀ w ∈ vx_atS own ic cls names, w.before args s = true)
    (hgood : ∀ w ∈ Cond.classLink own ik cls :: Cond.initialized cls :: vx_atS own ic cls names, vx_ot w = true)
    (hU : vx_Zq Bundle.tN "UNASSIGNED_STACK" Bundle.steD A s s.heap) (hN : vx_Zq Bundle.tN "SUPPRESSED_SENTINEL" Bundle.listD A s s.heap) (hS : va_S A s.heap H locs) (hsize : ls.size = c.maxLocals)
    (d0 : decode cc pc = .ok (.new ik, 3)) (d3 : decode cc (pc + 3) = .ok (.dup, 1)) (d4 : decode cc (pc + 4) = .ok (.ldc is, 2)) (d6 : decode cc (pc + 6) = .ok (.invokespecial ic, 3)) (d9 : decode cc (pc + 9) = .ok (.athrow, 1))
    (hout : ∀ x ∈ c.exceptionTable.toList, covers x (pc + 9) = false)
    (hRframes : names.length + 3 < R.frames) (hRlocals : (rest.map fun v => v.category).sum + (13 * (names.length + 1) + 43) ≤ R.locals) (hRcells : cells + 1 ≤ R.cells) (hRslots : slots + 6 ≤ R.slots) (hlocks : meth.locks = false)
    (hx : ∀ t : State, s.vm.Alike t.vm → H.size ≤ t.heap.size → (∀ q : Nat, q < H.size → t.heap[q]? = H[q]?) → XC cls s t)
    (hf : ∀ z ∈ locs, free z.base) (hc : cells + 1 ≤ mc) (hs : slots + 6 ≤ ms) :
    W p l e R s m args below meth c H locs cells slots (vx_MQ below Qc XC args s mc ms free) (F0 m pc ls rest) := by
  intro T hT X
  have htr : e.platform.stackTraces = false := (show e.platform.stackTraces = l.stackTraces by rw [X.admits.platform]).trans hl
  have Y := vx_rebase X (R' := { frames := R.frames, locals := R.locals, cells := 1, slots := 6 }) (Nat.le_refl _) (Nat.le_refl _) hRcells hRslots
  obtain ⟨s', hA⟩ : ∃ z, z = (T.setVm s.vm).setFrames (.invoking m args :: below) := ⟨_, rfl⟩
  rw [← hA] at Y
  have hvm : s'.vm = s.vm := by rw [hA]; rfl
  have hhp : s'.heap = H := by rw [hA]; exact hT
  have hW0 : s.WarmedH s'.vm := by rw [hvm]; exact State.WarmedH.refl s
  have hat' : ∀ w ∈ vx_atS own ic cls names, w.before args s' = true := fun w hw => vx_ot_at hW0 hvm.symm (hgood w (List.mem_cons_of_mem _ (List.mem_cons_of_mem _ hw))) (hat w hw)
  have hk' : (Cond.classLink own ik cls).before args s' = true := vx_ot_at hW0 hvm.symm (hgood _ List.mem_cons_self) hk
  have hini' : (Cond.initialized cls).before args s' = true := vx_ot_at hW0 hvm.symm (hgood _ (List.mem_cons_of_mem _ List.mem_cons_self)) hini
  have hU' : vx_Zq Bundle.tN "UNASSIGNED_STACK" Bundle.steD A s' s'.heap := by rw [hhp]; exact vx_Zq.moved hW0.alike (hU.kept hS.2.1)
  have hN' : vx_Zq Bundle.tN "SUPPRESSED_SENTINEL" Bundle.listD A s' s'.heap := by rw [hhp]; exact vx_Zq.moved hW0.alike (hN.kept hS.2.1)
  have h : ∀ w ∈ Bundle.ownAtoms own ic cls names, w.before args s' = true := vx_own hat' (vx_isRefq hU'.1) (vx_isRefq hN'.1) hU'.2.word hN'.2.word
  have hown' : s'.vm.findClass own = some m.cls := by rw [hvm]; exact hown
  have hins : (Cond.instantiable cls 6).before args s' = true := h _ (by simp [Bundle.ownAtoms])
  obtain ⟨vm₁, cX, kX, hfX, hkX, -, -, X₁, st1⟩ := Y.newCold hexec (own := own) (C := cls) (index := ik) (n := 6) hown' hk' hins hini'
    (g := F0 m pc ls rest) rfl (by rw [hb]; exact d0) (Nat.le_refl _) (Nat.le_refl _)
  generalize hT1 : (T.setVm vm₁).pushCell { cls := cX, slots := kX.instanceTypes.map defaultValue, vm := .none } = T1 at X₁ st1
  have hcat : (Value.ref T.heap.size).category = 1 := rfl
  have hcellA : T1.heap[T.heap.size]? = some (freshCell cX kX) := by rw [← hT1]; exact State.heap_pushCell_size _ _
  have d3' : decode c.code (pc + 3) = .ok (.dup, 1) := by rw [hb]; exact d3
  have d4' : decode c.code (pc + 4) = .ok (.ldc is, 2) := by rw [hb]; exact d4
  have hstr' : vk_R own is text sa s' := vk_R.warm hW0 hstr
  obtain ⟨U, hsteps, hrun, hend, hW, hsame, ce, hce, hO⟩ := X₁.ctorThrowS hexec htr (own := own) (cls := cls) (names := names) (ic := ic) hown' hcls hnames h (fun x hx => nomatch hx) hfX hkX hcellA (by rw [hhp, hT]; exact Nat.le_refl _) (msg := .ref sa) rfl
    (g := { method := m, pc := pc + 6, locals := ls, stack := .ref sa :: .ref T.heap.size :: .ref T.heap.size :: rest, locked := none }) rfl hsize rfl rfl (rest := rest) rfl
    (by rw [hb]; exact d6) (by rw [hb]; exact d9) hout hRframes (by simp only [List.map_cons, List.sum_cons, hcat]; omega) hlocks
  obtain ⟨f1, f2⟩ := vx_frame hsame
  rw [hhp] at f1 f2
  have hWs : s.WarmedH U.vm := State.WarmedH.trans hW0 hW
  have hcl : s.vm.findClass cls = some ce.cls := by
    have h9 := hO.cls
    rw [hvm] at h9
    exact h9
  have hall : s.sameButNew ({ U with vm := s.vm } : State) locs mc ms := by
    subst hA
    obtain ⟨e1, e2⟩ := hsame
    rw [State.setFrames_setFrames] at e1
    have h2 : (T.setVm s.vm).sameButNew ({ U with vm := s.vm } : State) [] (0 + 1) (0 + 6) := ⟨e1, e2⟩
    have h3 := X.same.trans h2
    rw [List.append_nil] at h3
    exact h3.mono hc hs
  refine ⟨U, ?_, .threw T.heap.size, hrun, hend, Or.inr ⟨T.heap.size, rfl, cls, ce, locs, hx U hWs.alike f1 (fun q hq => f2 q hq (fun z hz => nomatch hz)), hce, hO.vm, hcl, hWs, hall, hf⟩⟩
  refine st1 _ ?_
  show Steps p.tables e below (T1.setTop { method := m, pc := pc + 3, locals := ls, stack := .ref T.heap.size :: rest, locked := none }) _
  jvm_step X₁.here [X₁.here.top, hexec, d3', Value.category]
  exact X₁.ldcString hexec (own := own) (text := text) (index := is) (a := sa) hown' hstr'.1 hstr'.2
    (g := { method := m, pc := pc + 4, locals := ls, stack := .ref T.heap.size :: .ref T.heap.size :: rest, locked := none }) rfl d4' _ hsteps
/-- 'throw new E("text")', the text by a wide index -/
theorem vx_throwSW {cc : ByteArray} {pc : Nat} (hexec : p.tables.exec = Jvm.exec) (hb : c.code = cc) (hl : l.stackTraces = false) {own cls text : String} {names : List String} {ik is ic mc ms sa : Nat} {A : Nat → Prop}
    (hown : s.vm.findClass own = some m.cls) (hcls : Bundle.fit cls = true) (hnames : ∀ n ∈ names, Bundle.fit n = true)
    (hk : (Cond.classLink own ik cls).before args s = true) (hini : (Cond.initialized cls).before args s = true) (hstr : vk_R own is text sa s) (hat : ∀ w ∈ vx_atS own ic cls names, w.before args s = true)
    (hgood : ∀ w ∈ Cond.classLink own ik cls :: Cond.initialized cls :: vx_atS own ic cls names, vx_ot w = true)
    (hU : vx_Zq Bundle.tN "UNASSIGNED_STACK" Bundle.steD A s s.heap) (hN : vx_Zq Bundle.tN "SUPPRESSED_SENTINEL" Bundle.listD A s s.heap) (hS : va_S A s.heap H locs) (hsize : ls.size = c.maxLocals)
    (d0 : decode cc pc = .ok (.new ik, 3)) (d3 : decode cc (pc + 3) = .ok (.dup, 1)) (d4 : decode cc (pc + 4) = .ok (.ldc_w is, 3)) (d7 : decode cc (pc + 7) = .ok (.invokespecial ic, 3)) (d10 : decode cc (pc + 10) = .ok (.athrow, 1))
    (hout : ∀ x ∈ c.exceptionTable.toList, covers x (pc + 10) = false)
    (hRframes : names.length + 3 < R.frames) (hRlocals : (rest.map fun v => v.category).sum + (13 * (names.length + 1) + 43) ≤ R.locals) (hRcells : cells + 1 ≤ R.cells) (hRslots : slots + 6 ≤ R.slots) (hlocks : meth.locks = false)
    (hx : ∀ t : State, s.vm.Alike t.vm → H.size ≤ t.heap.size → (∀ q : Nat, q < H.size → t.heap[q]? = H[q]?) → XC cls s t)
    (hf : ∀ z ∈ locs, free z.base) (hc : cells + 1 ≤ mc) (hs : slots + 6 ≤ ms) :
    W p l e R s m args below meth c H locs cells slots (vx_MQ below Qc XC args s mc ms free) (F0 m pc ls rest) := by
  intro T hT X
  have htr : e.platform.stackTraces = false := (show e.platform.stackTraces = l.stackTraces by rw [X.admits.platform]).trans hl
  have Y := vx_rebase X (R' := { frames := R.frames, locals := R.locals, cells := 1, slots := 6 }) (Nat.le_refl _) (Nat.le_refl _) hRcells hRslots
  obtain ⟨s', hA⟩ : ∃ z, z = (T.setVm s.vm).setFrames (.invoking m args :: below) := ⟨_, rfl⟩
  rw [← hA] at Y
  have hvm : s'.vm = s.vm := by rw [hA]; rfl
  have hhp : s'.heap = H := by rw [hA]; exact hT
  have hW0 : s.WarmedH s'.vm := by rw [hvm]; exact State.WarmedH.refl s
  have hat' : ∀ w ∈ vx_atS own ic cls names, w.before args s' = true := fun w hw => vx_ot_at hW0 hvm.symm (hgood w (List.mem_cons_of_mem _ (List.mem_cons_of_mem _ hw))) (hat w hw)
  have hk' : (Cond.classLink own ik cls).before args s' = true := vx_ot_at hW0 hvm.symm (hgood _ List.mem_cons_self) hk
  have hini' : (Cond.initialized cls).before args s' = true := vx_ot_at hW0 hvm.symm (hgood _ (List.mem_cons_of_mem _ List.mem_cons_self)) hini
  have hU' : vx_Zq Bundle.tN "UNASSIGNED_STACK" Bundle.steD A s' s'.heap := by rw [hhp]; exact vx_Zq.moved hW0.alike (hU.kept hS.2.1)
  have hN' : vx_Zq Bundle.tN "SUPPRESSED_SENTINEL" Bundle.listD A s' s'.heap := by rw [hhp]; exact vx_Zq.moved hW0.alike (hN.kept hS.2.1)
  have h : ∀ w ∈ Bundle.ownAtoms own ic cls names, w.before args s' = true := vx_own hat' (vx_isRefq hU'.1) (vx_isRefq hN'.1) hU'.2.word hN'.2.word
  have hown' : s'.vm.findClass own = some m.cls := by rw [hvm]; exact hown
  have hins : (Cond.instantiable cls 6).before args s' = true := h _ (by simp [Bundle.ownAtoms])
  obtain ⟨vm₁, cX, kX, hfX, hkX, -, -, X₁, st1⟩ := Y.newCold hexec (own := own) (C := cls) (index := ik) (n := 6) hown' hk' hins hini'
    (g := F0 m pc ls rest) rfl (by rw [hb]; exact d0) (Nat.le_refl _) (Nat.le_refl _)
  generalize hT1 : (T.setVm vm₁).pushCell { cls := cX, slots := kX.instanceTypes.map defaultValue, vm := .none } = T1 at X₁ st1
  have hcat : (Value.ref T.heap.size).category = 1 := rfl
  have hcellA : T1.heap[T.heap.size]? = some (freshCell cX kX) := by rw [← hT1]; exact State.heap_pushCell_size _ _
  have d3' : decode c.code (pc + 3) = .ok (.dup, 1) := by rw [hb]; exact d3
  have d4' : decode c.code (pc + 4) = .ok (.ldc_w is, 3) := by rw [hb]; exact d4
  have hstr' : vk_R own is text sa s' := vk_R.warm hW0 hstr
  obtain ⟨U, hsteps, hrun, hend, hW, hsame, ce, hce, hO⟩ := X₁.ctorThrowS hexec htr (own := own) (cls := cls) (names := names) (ic := ic) hown' hcls hnames h (fun x hx => nomatch hx) hfX hkX hcellA (by rw [hhp, hT]; exact Nat.le_refl _) (msg := .ref sa) rfl
    (g := { method := m, pc := pc + 7, locals := ls, stack := .ref sa :: .ref T.heap.size :: .ref T.heap.size :: rest, locked := none }) rfl hsize rfl rfl (rest := rest) rfl
    (by rw [hb]; exact d7) (by rw [hb]; exact d10) hout hRframes (by simp only [List.map_cons, List.sum_cons, hcat]; omega) hlocks
  obtain ⟨f1, f2⟩ := vx_frame hsame
  rw [hhp] at f1 f2
  have hWs : s.WarmedH U.vm := State.WarmedH.trans hW0 hW
  have hcl : s.vm.findClass cls = some ce.cls := by
    have h9 := hO.cls
    rw [hvm] at h9
    exact h9
  have hall : s.sameButNew ({ U with vm := s.vm } : State) locs mc ms := by
    subst hA
    obtain ⟨e1, e2⟩ := hsame
    rw [State.setFrames_setFrames] at e1
    have h2 : (T.setVm s.vm).sameButNew ({ U with vm := s.vm } : State) [] (0 + 1) (0 + 6) := ⟨e1, e2⟩
    have h3 := X.same.trans h2
    rw [List.append_nil] at h3
    exact h3.mono hc hs
  refine ⟨U, ?_, .threw T.heap.size, hrun, hend, Or.inr ⟨T.heap.size, rfl, cls, ce, locs, hx U hWs.alike f1 (fun q hq => f2 q hq (fun z hz => nomatch hz)), hce, hO.vm, hcl, hWs, hall, hf⟩⟩
  refine st1 _ ?_
  show Steps p.tables e below (T1.setTop { method := m, pc := pc + 3, locals := ls, stack := .ref T.heap.size :: rest, locked := none }) _
  jvm_step X₁.here [X₁.here.top, hexec, d3', Value.category]
  exact X₁.ldcStringW hexec (own := own) (text := text) (index := is) (a := sa) hown' hstr'.1 hstr'.2
    (g := { method := m, pc := pc + 4, locals := ls, stack := .ref T.heap.size :: .ref T.heap.size :: rest, locked := none }) rfl d4' _ hsteps
end Ends
section Bodies
variable {l : Launch}
theorem vx_ofW {y : MethodName} {ws ws' : List Cond} {rm : Room} {Pc : Array Value → State → Prop} {Qc : Array Value → State → Outcome → State → Prop} {XC : String → State → State → Prop} {mc ms : Nat} {free : Addr → Prop} {cc : ByteArray} {maxL : Nat} {ret : Option FieldType}
    (hy : plainName y.cls = true) (hw : ws = Cond.code y cc maxL ret :: ws')
    (body : ∀ p e s m args below meth c s₁, BodyLoose p l y (headSpec ws rm) cc maxL ret e s m args below meth c s₁ → c.maxLocals = maxL → (∀ x ∈ c.exceptionTable.toList, False) → Pc args s →
      W p l e (headSpec ws rm).room s m args below meth c s.heap [] 0 0 (vx_MQ below Qc XC args s mc ms free) (entryFrame m args maxL)) : vx_Met l y ws rm Pc Qc XC mc ms free := by
  refine MetFree.of_bodyS (code := cc) (maxLocals := maxL) (ret := ret) hy ?_ ?_
  · intro args s m h hn
    obtain ⟨meth, c, h1, h2, h3, h4, h5, h6, -, -⟩ := Cond.code_spec hn (atoms_spec (ws := ws) h _ (by rw [hw]; exact List.mem_cons_self))
    exact ⟨meth, c, h1, h2, h3, h4, h5, h6⟩
  · intro p e s m args below meth c s₁ B hml hP _
    have hh0 : s₁.heap = s.heap := by rw [B.state]; rfl
    have ht : ∀ x ∈ c.exceptionTable.toList, False := by
      obtain ⟨meth9, c9, h1, h2, -, -, -, -, h7, -⟩ := Cond.code_spec B.named (atoms_spec (ws := ws) B.pre _ (by rw [hw]; exact List.mem_cons_self))
      cases Option.some.inj (h1.symm.trans B.method)
      cases Option.some.inj (h2.symm.trans (Stand.of_body B).code)
      intro x hx
      rw [Array.isEmpty_iff.mp h7] at hx
      cases hx
    obtain ⟨t, a1, o, b1, b2, b3⟩ := body p e s m args below meth c s₁ B hml ht hP s₁ hh0 (Stand.of_body B)
    exact ⟨t, o, a1, b1, b2, b3⟩
/-- the table of a body with handlers -/
theorem vx_table {p : Program} {x y : MethodName} {S : Spec} {cc bytes : ByteArray} {maxL maxL' : Nat} {ret ret' : Option FieldType} {e : Env} {s s₁ : State} {m : MethodId} {args : Array Value} {below : List Frame} {meth : Method} {c : Code} {hh : List (Nat × Nat × Nat × Nat)}
    (B : BodyLoose p l y S cc maxL ret e s m args below meth c s₁) (h : (Cond.codeWith y bytes maxL' ret' hh).before args s = true) : c.exceptionTable.toList = tableOf hh := by
  obtain ⟨m9, meth9, c9, hn9, h1, h2, -, -, h6, -⟩ := Cond.codeWith_spec h
  cases Option.some.inj (hn9.symm.trans B.named)
  cases Option.some.inj (h1.symm.trans B.method)
  cases Option.some.inj (h2.symm.trans (Stand.of_body B).code)
  rw [← h6, table_eq]
end Bodies
end VXA
/-! ===== END ===== -/
/-! ===== BEGIN a static call of a method with an exception table ===== -/
section VXS
variable {p : Program} {l : Launch} {e : Env} {R : Room} {s : State} {m : MethodId} {args : Array Value} {below : List Frame} {meth : Method} {c : Code} {T : State} {H : Heap} {locs : List Loc} {cells slots : Nat}
abbrev vx_CSW (R : Room) (s : State) (args : Array Value) (own : String) (index : Nat) (y : MethodName) (bytes : ByteArray) (maxL : Nat) (ret : Option FieldType) (hh : List (Nat × Nat × Nat × Nat)) (ws : List Cond) (rm : Room) (mc ms n : Nat) : Prop :=
  (rm.cells = mc ∧ rm.slots = ms ∧ rm.frames + 1 ≤ R.frames ∧ 8 + (maxL + 11) + rm.locals ≤ R.locals ∧ (∀ w ∈ ws, ∀ (a' : Array Value) (U : State), s.WarmedH U.vm → w.before a' U = true) ∧ Cond.codeWith y bytes maxL ret hh ∈ ws) ∧
  (Cond.codeWith y bytes maxL ret hh).before args s = true ∧ (Cond.initialized y.cls).before args s = true ∧ (y.cls ≠ "java/lang/invoke/MethodHandle" ∧ y.cls ≠ "java/lang/invoke/VarHandle") ∧
  (∀ sig, parseMethodDescriptor y.desc = some sig → n = sig.parameters.length) ∧ (Cond.methodLink own index y).before args s = true ∧ (Cond.static y).before args s = true
theorem vx_cwSW {own : String} {index maxL mc ms : Nat} {y : MethodName} {bytes : ByteArray} {ret : Option FieldType} {hh : List (Nat × Nat × Nat × Nat)} {Ts ws ws' : List Cond} {rm : Room} (n : Nat) (ht : ∀ w ∈ Ts, w.before args s = true) (hT : GoodIn Ts (va_wsS own index y ws)) (hw : ws = Cond.codeWith y bytes maxL ret hh :: ws') (hrc : rm.cells = mc) (hrs : rm.slots = ms)
    (hd : y.cls ≠ "java/lang/invoke/MethodHandle" ∧ y.cls ≠ "java/lang/invoke/VarHandle" ∧ (parseMethodDescriptor y.desc).map (fun d => d.parameters.length) = some n) (hR : rm.frames + 1 ≤ R.frames ∧ 8 + (maxL + 11) + rm.locals ≤ R.locals) :
    vx_CSW R s args own index y bytes maxL ret hh ws rm mc ms n := by
  have ok : ∀ w ∈ va_wsS own index y ws, w.before args s = true := fun w h => ht w (hT w h).1
  have hG : GoodIn Ts ws := fun w h => hT w (by unfold va_wsS; exact List.mem_append_right _ h)
  have hc : Cond.codeWith y bytes maxL ret hh ∈ ws := by rw [hw]; exact List.mem_cons_self
  refine ⟨⟨hrc, hrs, hR.1, hR.2, pay_in ht hG, hc⟩, ht _ (hG _ hc).1, ok _ (by simp [va_wsS]), ⟨hd.1, hd.2.1⟩, fun sig h => ?_, ok _ (by simp [va_wsS]), ok _ (by simp [va_wsS])⟩
  have h2 := hd.2.2
  rw [h] at h2
  exact (Option.some.inj h2).symm
theorem vx_callSW (X : Stand p l e R s m args below meth c T locs cells slots) (hexec : p.tables.exec = Jvm.exec) {own : String} {index : Nat} {y : MethodName} {bytes : ByteArray} {maxL : Nat} {ret : Option FieldType} {hh : List (Nat × Nat × Nat × Nat)}
    (hown : s.vm.findClass own = some m.cls) (hlink : (Cond.methodLink own index y).before args s = true) (hstat : (Cond.static y).before args s = true) (hinit : (Cond.initialized y.cls).before args s = true)
    (hcode : (Cond.codeWith y bytes maxL ret hh).before args s = true) (hy : y.cls ≠ "java/lang/invoke/MethodHandle" ∧ y.cls ≠ "java/lang/invoke/VarHandle")
    {W9 : Nat} {Pre : Pt → Array Value → Prop} {Post : Pt → Array Value → Option Value → Pt → Prop} (hK : Back l R p e below s args y 3 W9 Pre Post)
    {g : JFrame} (hg : g.method = m) (hsize : g.locals.size = c.maxLocals) {argsL rest : List Value} (hlen : ∀ sig, parseMethodDescriptor y.desc = some sig → argsL.length = sig.parameters.length)
    (hstack : g.stack = argsL.reverse ++ rest) (hW : 2 * g.monitorRoom + (rest.map fun v => v.category).sum ≤ W9) (hdg : decode c.code g.pc = .ok (.invokestatic index, 3))
    (hpre : ∀ vm₁, s.WarmedH vm₁ → Pre ⟨T.setVm vm₁, locs, cells, slots⟩ argsL.toArray) :
    ∃ (v : Option Value) (vm₁ : Vm) (B : Pt), s.WarmedH vm₁ ∧ Stand p l e R s m args below meth c B.U B.locs B.cells B.slots ∧ Post ⟨T.setVm vm₁, locs, cells, slots⟩ argsL.toArray v B ∧
      ∀ target, Steps p.tables e below (B.U.setTop { g with pc := g.pc + 3, stack := v.toList ++ rest }) target → Steps p.tables e below (T.setTop g) target := by
  obtain ⟨mk, methM, cM, hnamed, hmethM, -, -, -, -, -, -, hsigM⟩ := Cond.codeWith_spec hcode
  have hstatic : methM.isStatic = true := Cond.static_spec hnamed hmethM hstat
  obtain ⟨kP, hkP, -⟩ := className_of_methodNamed hnamed
  have hinitP : kP.init = .initialized := Cond.initialized_spec (findClass_of_methodNamed hnamed) hkP hinit
  obtain ⟨vm₁, X₁, hstep₁⟩ := X.invokestatic hexec hown hlink hnamed hmethM hstatic hkP hinitP hy (g := g) hg (argsL := argsL) (rest := rest) (hlen _ hsigM) hstack hdg
  obtain ⟨v, B, X', hpost, hsteps⟩ := hK m meth c ⟨T.setVm vm₁, locs, cells, slots⟩ { g with stack := rest } (.invokestatic index) mk argsL.toArray X₁ hg hsize hdg hW (X₁.named hnamed) (hpre vm₁ X₁.warmed)
  exact ⟨v, vm₁, B, X₁.warmed, X', hpost, fun target h => hstep₁ _ fun acts => by rw [doInvoke_state]; exact hsteps.trans h⟩
theorem vx_runSW {y : MethodName} {bytes cc : ByteArray} {maxL nL mc ms n index : Nat} {ret : Option FieldType} {hh : List (Nat × Nat × Nat × Nat)} {ws : List Cond} {rm : Room} {Pc : Array Value → State → Prop} {Qc : Array Value → State → Outcome → State → Prop} {free : Addr → Prop} {Ts : List Cond} {own : String} {As rest : List Value} {g : JFrame}
    (S : CallFix p m c cc nL s args Ts own) (hM : Met l y ws rm Pc Qc mc ms free) (cw : vx_CSW R s args own index y bytes maxL ret hh ws rm mc ms n) (hp : PreS s H Pc As)
    (hg : g.method = m) (hn : As.length = n) (hsize : g.locals.size = nL) (hstack : g.stack = As.reverse ++ rest) (hW : 2 * g.monitorRoom + (rest.map fun v => v.category).sum ≤ 8) (hdg : decode cc g.pc = .ok (.invokestatic index, 3)) (hf : cells + mc ≤ R.cells ∧ slots + ms ≤ R.slots) :
    va_Run p l e R s m args below meth c H locs cells slots mc ms g rest (Qc As.toArray) (free) := by
  obtain ⟨⟨hrc, hrs, hfr, hlo, hws, hcw⟩, hcode, hini, hy, hlen, hl, hstt⟩ := cw
  have hK : Back l R p e below s args y 3 8 (PreOf R mc ms Pc) (PostOf Qc mc ms free) := va_backW (hh := hh) (bytes := bytes) (maxL := maxL) (ret := ret) hM hp.1 hrc hrs hfr hlo hws hcw (fun a' U hW => word_at hW (Or.inl (by first | rfl | simp [Cond.onTables, Cond.keeps, Cond.steady])) hini)
  obtain ⟨hx, hb, hml, ho, -⟩ := S
  intro T hT X
  obtain ⟨v, vm₁, ⟨U', l2, c2, s2⟩, hW₁, X', ⟨g', mk, t, L, e1, e2, hq, h1, hL, h2, h3⟩, st⟩ := vx_callSW X hx (hh := hh) (bytes := bytes) (maxL := maxL) (ret := ret) ho hl hstt hini hcode hy hK hg (hsize.trans hml.symm) (argsL := As) (rest := rest) (fun sig h => hn.trans (hlen sig h)) hstack hW (by rw [hb]; exact hdg)
    (fun vm₁ hW₁ => ⟨hf.1, hf.2, hp.2 (T.setVm vm₁) hT hW₁⟩)
  dsimp only [Pt.U, Pt.locs, Pt.cells, Pt.slots] at X' e1 e2 h1 h2 h3 st
  subst h1; subst h2; subst h3
  exact ⟨v, (T.setVm vm₁).calling g' mk As.toArray, t, U', L, hT, X', hL, e1, e2, hq, st⟩
/-- not caught here, past rows that name other classes: it goes on to the caller -/
theorem vx_outP {p : Program} {l : Launch} {e : Env} {R : Room} {s : State} {m : MethodId} {args : Array Value} {below : List Frame} {meth : Method} {c : Code} {H : Heap} {locs : List Loc} {cells slots : Nat} {free : Addr → Prop} {ls : Array Slot} {rest : List Value} {Qc : Array Value → State → Outcome → State → Prop} {XC : String → State → State → Prop}
    {pc : Nat} {own E : String} {ce : Cell} {q : Addr} {mc ms : Nat} (hown : s.vm.findClass own = some m.cls) (hlocks : meth.locks = false)
    (hpass : ∀ z ∈ c.exceptionTable.toList, covers z pc = false ∨ (z.catchType ≠ 0 ∧ ∃ nm : String, (Cond.classLink own z.catchType nm).before args s = true ∧ va_Nc E nm s)) (hcell : H[q]? = some ce) (hv : ce.vm = .none) (hcl : s.vm.findClass E = some ce.cls)
    (hx : ∀ t : State, t.heap = H → s.vm.Alike t.vm → XC E s t) (hf : ∀ z ∈ locs, free z.base) (hc : cells ≤ mc) (hs : slots ≤ ms) :
    vx_W p l e R s m args below meth c H locs cells slots (vx_MQ below Qc XC args s mc ms free) (F0 m pc ls rest) q := by
  intro T hT X
  have hpl : e.platform.magicAccessors = ({} : Platform).magicAccessors := by rw [X.admits.platform]
  obtain ⟨vm', hW', X', st⟩ := X.outThrough hlocks q (g := F0 m pc ls rest) rfl rfl rfl (cell := ce) (by rw [hT]; exact hcell) (by rw [hv]; rfl)
    (by obtain ⟨k9, h9, -⟩ := Vm.findClass_spec hcl; exact ⟨k9, h9⟩) (fun z hz => by
      rcases hpass z hz with h | ⟨hz0, nm, hl1, hn1⟩
      · exact Or.inl h
      · obtain ⟨c6, hc6, hcl6⟩ := Cond.classLink_spec hown hl1 e.platform hpl
        obtain ⟨a8, b8, h1, h2, h3⟩ := hn1
        cases Option.some.inj (h1.symm.trans hcl)
        cases Option.some.inj (h2.symm.trans hc6)
        exact Or.inr ⟨hz0, _, hcl6, h3⟩)
  obtain ⟨g₀, hfr⟩ := X'.frames_eq
  have hcell9 : ((T.setVm vm').setFrames (.throwing q :: below)).heap[q]? = some ce := by
    show T.heap[q]? = some ce
    rw [hT]; exact hcell
  have hend : Ended ((T.setVm vm').setFrames (.throwing q :: below)) below (.threw q) := State.frames_setFrames _ (State.cur_lt_of_frames hfr)
  refine ⟨(T.setVm vm').setFrames (.throwing q :: below), ?_, .threw q, X'.here.running, hend, Or.inr ⟨q, rfl, E, ce, locs, hx _ hT (X'.ends _).1.alike, hcell9, hv, hcl, (X'.ends _).1, (X'.ends _).2.mono hc hs, hf⟩⟩
  rw [X.pushThrowing_eq]
  exact st
/-- a thing of a world lies in the heap -/
theorem vx_lt {D : va_G} {cl : List vw_C} {ws : va_W} {H1 : Heap} (h : va_P D cl ws H1) {k : Nat} {q : Nat × va_E} (hk : ws[k]? = some q) : q.1 < H1.size := (h k q hk).lt
end VXS
/-! ===== END ===== -/
/-! ===== BEGIN methods with a table of their own: called by a name, returning or throwing ===== -/
section VXH
/-! vx_backW, vx_callVX, vx_callSX, vx_callVW, vx_runVW, vx_runVX, vx_runSX, vx_ofWH follow the same proofs as their sisters above (Free/Laws.lean, Shelf42/LK1.lean); vx_outP calls Shelf42/NT130.lean (outThrough). -/
section
variable {l : Launch} {R : Room} {p : Program} {e : Env} {below : List Frame} {s : State} {sargs : Array Value} {y : MethodName} {len W9 : Nat}
theorem vx_backW {ws : List Cond} {rm : Room} {Pc : Array Value → State → Prop} {Qc : Array Value → State → Outcome → State → Prop} {XC : String → State → State → Prop} {mc ms : Nat} {free : Addr → Prop} {bytes : ByteArray} {maxL : Nat} {ret : Option FieldType} {hh : List (Nat × Nat × Nat × Nat)}
    (hM : vx_Met l y ws rm Pc Qc XC mc ms free) (hblind : FrameBlind Pc) (hrc : rm.cells = mc) (hrs : rm.slots = ms)
    (hframes : rm.frames + 1 ≤ R.frames) (hlocals : W9 + (maxL + 11) + rm.locals ≤ R.locals)
    (hws : ∀ w ∈ ws, ∀ a' U, s.WarmedH U.vm → w.before a' U = true) (hcode : Cond.codeWith y bytes maxL ret hh ∈ ws) (hinit : ∀ a' U, s.WarmedH U.vm → (Cond.initialized y.cls).before a' U = true) :
    vx_Back l R p e below s sargs y len W9 (PreOf R mc ms Pc) (PostOf Qc mc ms free) (vx_Post XC mc ms free) := by
  intro m meth c A g ig mk a X hg hsize hdg hW hn hp
  have h1 : (headSpec ws rm).pre.before a A.U = true := atoms_intro fun w hw => hws w hw _ _ X.warmed
  have h2 : (Cond.codeWith y bytes maxL ret hh).before a A.U = true := hws _ hcode _ _ X.warmed
  have h3 : (Cond.initialized y.cls).before a A.U = true := hinit _ _ X.warmed
  have h4 : A.cells + (headSpec ws rm).room.cells ≤ R.cells := by rw [show (headSpec ws rm).room.cells = mc from hrc]; exact hp.1
  have h5 : A.slots + (headSpec ws rm).room.slots ≤ R.slots := by rw [show (headSpec ws rm).room.slots = ms from hrs]; exact hp.2.1
  have hPc : Pc a (A.U.calling g mk a) := hblind _ _ _ _ hp.2.2
  obtain ⟨U, Ls, c0, s0⟩ := A
  dsimp only [Pt.U, Pt.locs, Pt.cells, Pt.slots] at h1 h2 h3 h4 h5 X hn hPc ⊢
  obtain ⟨m9, methY, cY, hn9, hmY, hcY, -, hlY, -⟩ := Cond.codeWith_spec h2
  cases Option.some.inj (hn9.symm.trans hn)
  obtain ⟨kY, hkY, -⟩ := className_of_methodNamed hn
  have hinitY : kY.init = .initialized := Cond.initialized_spec (findClass_of_methodNamed hn) hkY h3
  have h : At U g.method c below := by rw [hg]; exact X.here
  have hlocals9 : W9 + (maxL + 11) + (headSpec ws rm).room.locals ≤ R.locals := hlocals
  have happ : (headSpec ws rm).appliesLoose y e.platform (U.calling g mk a) = true :=
    Spec.appliesLoose_calling (g := g) h hdg hn hkY hinitY
      (X.room_calling (g := g) (R' := (headSpec ws rm).room) hsize hmY hcY hframes (by rw [hlY]; omega) h4 h5) h1
  obtain ⟨mid, hmid⟩ := h.above
  have hfr : (U.setTop g).frames = (.java g :: mid) ++ below := by rw [State.frames_setTop' g h.top, hmid]; rfl
  obtain ⟨o, s₂, hsteps, -, hend, hq⟩ := Steps.callFree hM p X.admits X.cas X.clock (acts := []) hfr happ hPc trivial
  have hq' : vx_Q Qc XC mc ms free a (U.calling g mk a) o s₂ := hq
  rw [State.frames_setTop' g h.top] at hend
  obtain ⟨g₀, hg0⟩ := Option.isSome_iff_exists.mp h.top
  obtain ⟨r, hr⟩ := State.topJava?_eq_some.mp hg0
  have hr' : (({ U with heap := s₂.heap, slotsUsed := s₂.slotsUsed } : State).setVm s₂.vm).frames = .java g₀ :: r := hr
  rcases hq' with ⟨hqc, L, hfe, hL⟩ | ⟨q, rfl, E, ce, L, hx, hce, hcv, hcl, hW₂, hsm, hL⟩
  · obtain ⟨⟨v, rfl⟩, hW₂, e2, q2, q3, q4, q5, q6⟩ := id hfe
    have e3 : s₂ = ({ (U.calling g mk a).setFrames s₂.frames with heap := s₂.heap, slotsUsed := s₂.slotsUsed } : State).setVm s₂.vm := by
      have : s₂ = ({ s₂ with vm := (U.calling g mk a).vm } : State).setVm s₂.vm := rfl
      rw [e2] at this
      exact this
    obtain ⟨c₂, i₂, len₂, hc₂, hd₂, hf₂⟩ := hend
    have hW' : U.WarmedH s₂.vm := hW₂
    have hcc : c₂ = c := by
      have h1 : s₂.code? g.method = U.code? g.method := by
        rw [State.code?_eq, State.code?_eq, hW'.alike.method?]
      exact Option.some.inj (hc₂.symm.trans (h1.trans h.code))
    subst hcc
    have hlen : len₂ = len := by rw [hdg] at hd₂; cases hd₂; rfl
    subst hlen
    have hs₂ : s₂ = (({ U with heap := s₂.heap, slotsUsed := s₂.slotsUsed } : State).setVm s₂.vm).setTop { g with pc := g.pc + len₂, stack := v.toList ++ g.stack } := by
      refine e3.trans ?_
      rw [hf₂, State.calling_eq h.top, State.setFrames_setFrames, State.setTop_of_frames _ hr', hr]
      rfl
    have hsame : U.sameButNew ({ U with heap := s₂.heap, slotsUsed := s₂.slotsUsed } : State) L mc ms := by
      refine ⟨?_, q2, q3, q4, q5, q6⟩
      obtain ⟨t, ht, -⟩ := State.frames_cons hr
      show ({ U with heap := s₂.heap, slotsUsed := s₂.slotsUsed } : State) = { U.setFrames U.frames with heap := s₂.heap, slotsUsed := s₂.slotsUsed }
      rw [State.setFrames_self ht]
    subst hg
    refine Or.inl ⟨v, ⟨(({ U with heap := s₂.heap, slotsUsed := s₂.slotsUsed } : State).setVm s₂.vm), Ls ++ L, c0 + mc, s0 + ms⟩,
      ⟨X.admits, X.cas, X.clock, X.frames, X.room, X.hears, X.method, X.code, (X.here.setHeapUsed s₂.heap s₂.slotsUsed).setVm hW'.alike, X.tail, State.WarmedH.trans X.warmed hW', X.limits, X.bytes, X.same.trans (hsame.setVm s.vm)⟩,
      ⟨g, mk, s₂, L, rfl, rfl, hqc, rfl, hL, rfl, rfl⟩, ?_⟩
    show Steps p.tables e below _ ((({ U with heap := s₂.heap, slotsUsed := s₂.slotsUsed } : State).setVm s₂.vm).setTop { g with pc := g.pc + len₂, stack := v.toList ++ g.stack })
    rw [← hs₂]
    exact hsteps
  · obtain ⟨e2, q2, q3, q4, q5, q6⟩ := id hsm
    have e3 : s₂ = ({ (U.calling g mk a).setFrames s₂.frames with heap := s₂.heap, slotsUsed := s₂.slotsUsed } : State).setVm s₂.vm := by
      have : s₂ = ({ s₂ with vm := (U.calling g mk a).vm } : State).setVm s₂.vm := rfl
      rw [e2] at this
      exact this
    have hf₂ : s₂.frames = .throwing q :: .java g :: U.frames.tail := hend
    have hW' : U.WarmedH s₂.vm := hW₂
    have hs₂ : s₂ = ((({ U with heap := s₂.heap, slotsUsed := s₂.slotsUsed } : State).setVm s₂.vm).setTop g).pushFrame (.throwing q) := by
      refine e3.trans ?_
      rw [hf₂, State.calling_eq h.top, State.setFrames_setFrames, State.pushFrame, State.frames_setTop _ hr', State.setTop_of_frames _ hr', State.setFrames_setFrames, hr]
      rfl
    have hsame : U.sameButNew ({ U with heap := s₂.heap, slotsUsed := s₂.slotsUsed } : State) L mc ms := by
      refine ⟨?_, q2, q3, q4, q5, q6⟩
      obtain ⟨t, ht, -⟩ := State.frames_cons hr
      show ({ U with heap := s₂.heap, slotsUsed := s₂.slotsUsed } : State) = { U.setFrames U.frames with heap := s₂.heap, slotsUsed := s₂.slotsUsed }
      rw [State.setFrames_self ht]
    subst hg
    refine Or.inr ⟨q, ⟨(({ U with heap := s₂.heap, slotsUsed := s₂.slotsUsed } : State).setVm s₂.vm), Ls ++ L, c0 + mc, s0 + ms⟩,
      ⟨X.admits, X.cas, X.clock, X.frames, X.room, X.hears, X.method, X.code, (X.here.setHeapUsed s₂.heap s₂.slotsUsed).setVm hW'.alike, X.tail, State.WarmedH.trans X.warmed hW', X.limits, X.bytes, X.same.trans (hsame.setVm s.vm)⟩,
      ⟨g, mk, s₂, L, E, ce, rfl, rfl, hx, hce, hcv, hcl, rfl, hL, rfl, rfl⟩, ?_⟩
    show Steps p.tables e below _ (((({ U with heap := s₂.heap, slotsUsed := s₂.slotsUsed } : State).setVm s₂.vm).setTop g).pushFrame (.throwing q))
    rw [← hs₂]
    exact hsteps
end
variable {p : Program} {l : Launch} {e : Env} {R : Room} {s : State} {m : MethodId} {args : Array Value} {below : List Frame} {meth : Method} {c : Code} {T : State} {H : Heap} {locs : List Loc} {cells slots : Nat}
theorem vx_callVX (X : Stand p l e R s m args below meth c T locs cells slots) (hexec : p.tables.exec = Jvm.exec) {own C : String} {index : Nat} {y : MethodName} {bytes : ByteArray} {maxL : Nat} {ret : Option FieldType} {hh : List (Nat × Nat × Nat × Nat)}
    (hown : s.vm.findClass own = some m.cls) (hlink : (Cond.methodLink own index y).before args s = true) (hinst : (Cond.instanceMethod y).before args s = true) (hsel : (Cond.selects C y y).before args s = true)
    (hcode : (Cond.codeWith y bytes maxL ret hh).before args s = true) (hy : y.cls ≠ "java/lang/invoke/MethodHandle" ∧ y.cls ≠ "java/lang/invoke/VarHandle")
    {W9 : Nat} {Pre : Pt → Array Value → Prop} {Post : Pt → Array Value → Option Value → Pt → Prop} {PostX : Pt → Array Value → Addr → Pt → Prop} (hK : vx_Back l R p e below s args y 3 W9 Pre Post PostX)
    {b : Addr} {cellB : Cell} (hcell : T.heap[b]? = some cellB) (hobj : cellB.vm.isStatics = false) (hcls : s.vm.findClass C = some cellB.cls)
    {g : JFrame} (hg : g.method = m) (hsize : g.locals.size = c.maxLocals) {argsL rest : List Value} (hlen : ∀ sig, parseMethodDescriptor y.desc = some sig → argsL.length = sig.parameters.length)
    (hstack : g.stack = argsL.reverse ++ .ref b :: rest) (hW : 2 * g.monitorRoom + (rest.map fun v => v.category).sum ≤ W9) (hdg : decode c.code g.pc = .ok (.invokevirtual index, 3))
    (hpre : ∀ vm₁, s.WarmedH vm₁ → Pre ⟨T.setVm vm₁, locs, cells, slots⟩ (Value.ref b :: argsL).toArray) :
    (∃ (v : Option Value) (vm₁ : Vm) (B : Pt), s.WarmedH vm₁ ∧ Stand p l e R s m args below meth c B.U B.locs B.cells B.slots ∧ Post ⟨T.setVm vm₁, locs, cells, slots⟩ (Value.ref b :: argsL).toArray v B ∧
      ∀ target, Steps p.tables e below (B.U.setTop { g with pc := g.pc + 3, stack := v.toList ++ rest }) target → Steps p.tables e below (T.setTop g) target) ∨
    (∃ (q : Addr) (vm₁ : Vm) (B : Pt), s.WarmedH vm₁ ∧ Stand p l e R s m args below meth c B.U B.locs B.cells B.slots ∧ PostX ⟨T.setVm vm₁, locs, cells, slots⟩ (Value.ref b :: argsL).toArray q B ∧
      Steps p.tables e below (T.setTop g) ((B.U.setTop { g with stack := rest }).pushFrame (.throwing q))) := by
  obtain ⟨mk, methM, hnamed, hmethM, hstM, habM⟩ := Cond.instanceMethod_spec hinst
  obtain ⟨m8, methM', cM, hn8, hmethM', -, -, -, -, -, -, hsigM⟩ := Cond.codeWith_spec hcode
  cases Option.some.inj (hn8.symm.trans hnamed)
  cases hmethM.symm.trans hmethM'
  obtain ⟨c2, r2, m2, q1, q2, q3, q4, kP, hkP, hkPi⟩ := Cond.selects_spec hsel
  cases hcls.symm.trans q1
  cases (State.methodFound?_of_named hnamed hy).symm.trans q2
  cases hnamed.symm.trans q3
  have hselP : selectMethod e.platform s.vm cellB.cls mk = .method mk := by rw [Launch.admits_selectMethod X.admits]; exact q4
  obtain ⟨vm₁, X₁, hstep₁⟩ := X.invokevirtual hexec hown hlink hnamed hmethM hstM hkP hkPi hy (a := b) (cell := cellB) hcell
    (fun z h => by rw [h] at hobj; cases hobj) hselP hmethM habM hkP hkPi (g := g) hg (argsL := argsL) (rest := rest) (hlen _ hsigM) hstack hdg
  rcases hK m meth c ⟨T.setVm vm₁, locs, cells, slots⟩ { g with stack := rest } (.invokevirtual index) mk (Value.ref b :: argsL).toArray X₁ hg hsize hdg hW (X₁.named hnamed) (hpre vm₁ X₁.warmed) with ⟨v, B, X', hpost, hsteps⟩ | ⟨q, B, X', hpost, hsteps⟩
  · exact Or.inl ⟨v, vm₁, B, X₁.warmed, X', hpost, fun target h => hstep₁ _ fun acts => by rw [doInvoke_state]; exact hsteps.trans h⟩
  · exact Or.inr ⟨q, vm₁, B, X₁.warmed, X', hpost, hstep₁ _ fun acts => by rw [doInvoke_state]; exact hsteps⟩
theorem vx_callSX (X : Stand p l e R s m args below meth c T locs cells slots) (hexec : p.tables.exec = Jvm.exec) {own : String} {index : Nat} {y : MethodName} {bytes : ByteArray} {maxL : Nat} {ret : Option FieldType} {hh : List (Nat × Nat × Nat × Nat)}
    (hown : s.vm.findClass own = some m.cls) (hlink : (Cond.methodLink own index y).before args s = true) (hstat : (Cond.static y).before args s = true) (hinit : (Cond.initialized y.cls).before args s = true)
    (hcode : (Cond.codeWith y bytes maxL ret hh).before args s = true) (hy : y.cls ≠ "java/lang/invoke/MethodHandle" ∧ y.cls ≠ "java/lang/invoke/VarHandle")
    {W9 : Nat} {Pre : Pt → Array Value → Prop} {Post : Pt → Array Value → Option Value → Pt → Prop} {PostX : Pt → Array Value → Addr → Pt → Prop} (hK : vx_Back l R p e below s args y 3 W9 Pre Post PostX)
    {g : JFrame} (hg : g.method = m) (hsize : g.locals.size = c.maxLocals) {argsL rest : List Value} (hlen : ∀ sig, parseMethodDescriptor y.desc = some sig → argsL.length = sig.parameters.length)
    (hstack : g.stack = argsL.reverse ++ rest) (hW : 2 * g.monitorRoom + (rest.map fun v => v.category).sum ≤ W9) (hdg : decode c.code g.pc = .ok (.invokestatic index, 3))
    (hpre : ∀ vm₁, s.WarmedH vm₁ → Pre ⟨T.setVm vm₁, locs, cells, slots⟩ argsL.toArray) :
    (∃ (v : Option Value) (vm₁ : Vm) (B : Pt), s.WarmedH vm₁ ∧ Stand p l e R s m args below meth c B.U B.locs B.cells B.slots ∧ Post ⟨T.setVm vm₁, locs, cells, slots⟩ argsL.toArray v B ∧
      ∀ target, Steps p.tables e below (B.U.setTop { g with pc := g.pc + 3, stack := v.toList ++ rest }) target → Steps p.tables e below (T.setTop g) target) ∨
    (∃ (q : Addr) (vm₁ : Vm) (B : Pt), s.WarmedH vm₁ ∧ Stand p l e R s m args below meth c B.U B.locs B.cells B.slots ∧ PostX ⟨T.setVm vm₁, locs, cells, slots⟩ argsL.toArray q B ∧
      Steps p.tables e below (T.setTop g) ((B.U.setTop { g with stack := rest }).pushFrame (.throwing q))) := by
  obtain ⟨mk, methM, cM, hnamed, hmethM, -, -, -, -, -, -, hsigM⟩ := Cond.codeWith_spec hcode
  have hstatic : methM.isStatic = true := Cond.static_spec hnamed hmethM hstat
  obtain ⟨kP, hkP, -⟩ := className_of_methodNamed hnamed
  have hinitP : kP.init = .initialized := Cond.initialized_spec (findClass_of_methodNamed hnamed) hkP hinit
  obtain ⟨vm₁, X₁, hstep₁⟩ := X.invokestatic hexec hown hlink hnamed hmethM hstatic hkP hinitP hy (g := g) hg (argsL := argsL) (rest := rest) (hlen _ hsigM) hstack hdg
  rcases hK m meth c ⟨T.setVm vm₁, locs, cells, slots⟩ { g with stack := rest } (.invokestatic index) mk argsL.toArray X₁ hg hsize hdg hW (X₁.named hnamed) (hpre vm₁ X₁.warmed) with ⟨v, B, X', hpost, hsteps⟩ | ⟨q, B, X', hpost, hsteps⟩
  · exact Or.inl ⟨v, vm₁, B, X₁.warmed, X', hpost, fun target h => hstep₁ _ fun acts => by rw [doInvoke_state]; exact hsteps.trans h⟩
  · exact Or.inr ⟨q, vm₁, B, X₁.warmed, X', hpost, hstep₁ _ fun acts => by rw [doInvoke_state]; exact hsteps⟩
theorem vx_callVW (X : Stand p l e R s m args below meth c T locs cells slots) (hexec : p.tables.exec = Jvm.exec) {own C : String} {index : Nat} {y : MethodName} {bytes : ByteArray} {maxL : Nat} {ret : Option FieldType} {hh : List (Nat × Nat × Nat × Nat)}
    (hown : s.vm.findClass own = some m.cls) (hlink : (Cond.methodLink own index y).before args s = true) (hinst : (Cond.instanceMethod y).before args s = true) (hsel : (Cond.selects C y y).before args s = true)
    (hcode : (Cond.codeWith y bytes maxL ret hh).before args s = true) (hy : y.cls ≠ "java/lang/invoke/MethodHandle" ∧ y.cls ≠ "java/lang/invoke/VarHandle")
    {W9 : Nat} {Pre : Pt → Array Value → Prop} {Post : Pt → Array Value → Option Value → Pt → Prop} (hK : Back l R p e below s args y 3 W9 Pre Post)
    {b : Addr} {cellB : Cell} (hcell : T.heap[b]? = some cellB) (hobj : cellB.vm.isStatics = false) (hcls : s.vm.findClass C = some cellB.cls)
    {g : JFrame} (hg : g.method = m) (hsize : g.locals.size = c.maxLocals) {argsL rest : List Value} (hlen : ∀ sig, parseMethodDescriptor y.desc = some sig → argsL.length = sig.parameters.length)
    (hstack : g.stack = argsL.reverse ++ .ref b :: rest) (hW : 2 * g.monitorRoom + (rest.map fun v => v.category).sum ≤ W9) (hdg : decode c.code g.pc = .ok (.invokevirtual index, 3))
    (hpre : ∀ vm₁, s.WarmedH vm₁ → Pre ⟨T.setVm vm₁, locs, cells, slots⟩ (Value.ref b :: argsL).toArray) :
    ∃ (v : Option Value) (vm₁ : Vm) (B : Pt), s.WarmedH vm₁ ∧ Stand p l e R s m args below meth c B.U B.locs B.cells B.slots ∧ Post ⟨T.setVm vm₁, locs, cells, slots⟩ (Value.ref b :: argsL).toArray v B ∧
      ∀ target, Steps p.tables e below (B.U.setTop { g with pc := g.pc + 3, stack := v.toList ++ rest }) target → Steps p.tables e below (T.setTop g) target := by
  obtain ⟨mk, methM, hnamed, hmethM, hstM, habM⟩ := Cond.instanceMethod_spec hinst
  obtain ⟨m8, methM', cM, hn8, hmethM', -, -, -, -, -, -, hsigM⟩ := Cond.codeWith_spec hcode
  cases Option.some.inj (hn8.symm.trans hnamed)
  cases hmethM.symm.trans hmethM'
  obtain ⟨c2, r2, m2, q1, q2, q3, q4, kP, hkP, hkPi⟩ := Cond.selects_spec hsel
  cases hcls.symm.trans q1
  cases (State.methodFound?_of_named hnamed hy).symm.trans q2
  cases hnamed.symm.trans q3
  have hselP : selectMethod e.platform s.vm cellB.cls mk = .method mk := by rw [Launch.admits_selectMethod X.admits]; exact q4
  obtain ⟨vm₁, X₁, hstep₁⟩ := X.invokevirtual hexec hown hlink hnamed hmethM hstM hkP hkPi hy (a := b) (cell := cellB) hcell
    (fun z h => by rw [h] at hobj; cases hobj) hselP hmethM habM hkP hkPi (g := g) hg (argsL := argsL) (rest := rest) (hlen _ hsigM) hstack hdg
  obtain ⟨v, B, X', hpost, hsteps⟩ := hK m meth c ⟨T.setVm vm₁, locs, cells, slots⟩ { g with stack := rest } (.invokevirtual index) mk (Value.ref b :: argsL).toArray X₁ hg hsize hdg hW (X₁.named hnamed) (hpre vm₁ X₁.warmed)
  exact ⟨v, vm₁, B, X₁.warmed, X', hpost, fun target h => hstep₁ _ fun acts => by rw [doInvoke_state]; exact hsteps.trans h⟩
abbrev vx_CVW (R : Room) (s : State) (args : Array Value) (own C : String) (index : Nat) (y : MethodName) (bytes : ByteArray) (maxL : Nat) (ret : Option FieldType) (hh : List (Nat × Nat × Nat × Nat)) (ws : List Cond) (rm : Room) (mc ms n : Nat) : Prop :=
  (rm.cells = mc ∧ rm.slots = ms ∧ rm.frames + 1 ≤ R.frames ∧ 8 + (maxL + 11) + rm.locals ≤ R.locals ∧ (∀ w ∈ ws, ∀ (a' : Array Value) (U : State), s.WarmedH U.vm → w.before a' U = true) ∧ Cond.codeWith y bytes maxL ret hh ∈ ws) ∧
  (Cond.codeWith y bytes maxL ret hh).before args s = true ∧ (Cond.initialized y.cls).before args s = true ∧ (y.cls ≠ "java/lang/invoke/MethodHandle" ∧ y.cls ≠ "java/lang/invoke/VarHandle") ∧
  (∀ sig, parseMethodDescriptor y.desc = some sig → n = sig.parameters.length) ∧ (Cond.methodLink own index y).before args s = true ∧ (Cond.instanceMethod y).before args s = true ∧ (Cond.selects C y y).before args s = true
theorem vx_cwVW {own C : String} {index maxL mc ms : Nat} {y : MethodName} {bytes : ByteArray} {ret : Option FieldType} {hh : List (Nat × Nat × Nat × Nat)} {Ts ws ws' : List Cond} {rm : Room} (n : Nat) (ht : ∀ w ∈ Ts, w.before args s = true) (hT : GoodIn Ts (wsV own index C y ws)) (hw : ws = Cond.codeWith y bytes maxL ret hh :: ws') (hrc : rm.cells = mc) (hrs : rm.slots = ms)
    (hd : y.cls = C ∧ y.cls ≠ "java/lang/invoke/MethodHandle" ∧ y.cls ≠ "java/lang/invoke/VarHandle" ∧ (parseMethodDescriptor y.desc).map (fun d => d.parameters.length) = some n) (hR : rm.frames + 1 ≤ R.frames ∧ 8 + (maxL + 11) + rm.locals ≤ R.locals) :
    vx_CVW R s args own C index y bytes maxL ret hh ws rm mc ms n := by
  obtain ⟨hC, hd⟩ := hd
  subst hC
  have ok : ∀ w ∈ wsV own index y.cls y ws, w.before args s = true := fun w h => ht w (hT w h).1
  have hG : GoodIn Ts ws := fun w h => hT w (by unfold wsV; exact List.mem_append_right _ h)
  have hc : Cond.codeWith y bytes maxL ret hh ∈ ws := by rw [hw]; exact List.mem_cons_self
  refine ⟨⟨hrc, hrs, hR.1, hR.2, pay_in ht hG, hc⟩, ht _ (hG _ hc).1, ok _ (by simp [wsV]), ⟨hd.1, hd.2.1⟩, fun sig h => ?_, ok _ (by simp [wsV]), ok _ (by simp [wsV]), ok _ (by simp [wsV])⟩
  have h2 := hd.2.2
  rw [h] at h2
  exact (Option.some.inj h2).symm
theorem vx_runVW {y : MethodName} {bytes cc : ByteArray} {maxL nL mc ms n index : Nat} {ret : Option FieldType} {hh : List (Nat × Nat × Nat × Nat)} {ws : List Cond} {rm : Room} {Pc : Array Value → State → Prop} {Qc : Array Value → State → Outcome → State → Prop} {free : Addr → Prop} {Ts : List Cond} {own C : String} {b : Addr} {As rest : List Value} {g : JFrame}
    (S : CallFix p m c cc nL s args Ts own) (hM : Met l y ws rm Pc Qc mc ms free) (cw : vx_CVW R s args own C index y bytes maxL ret hh ws rm mc ms n) (hp : PreV s H C b Pc As)
    (hg : g.method = m) (hn : As.length = n) (hsize : g.locals.size = nL) (hstack : g.stack = As.reverse ++ .ref b :: rest) (hW : 2 * g.monitorRoom + (rest.map fun v => v.category).sum ≤ 8) (hdg : decode cc g.pc = .ok (.invokevirtual index, 3)) (hf : cells + mc ≤ R.cells ∧ slots + ms ≤ R.slots) :
    va_Run p l e R s m args below meth c H locs cells slots mc ms g rest (Qc (Value.ref b :: As).toArray) free := by
  obtain ⟨⟨hrc, hrs, hfr, hlo, hws, hcw⟩, hcode, hini, hy, hlen, hl, hin, hse⟩ := cw
  have hK : Back l R p e below s args y 3 8 (PreOf R mc ms Pc) (PostOf Qc mc ms free) := va_backW (hh := hh) (bytes := bytes) (maxL := maxL) (ret := ret) hM hp.1 hrc hrs hfr hlo hws hcw (fun a' U hW => word_at hW (Or.inl (by first | rfl | simp [Cond.onTables, Cond.keeps, Cond.steady])) hini)
  obtain ⟨hx, hb, hml, ho, -⟩ := S
  obtain ⟨-, ⟨cellB, hcB, hoB, hclB⟩, hPc⟩ := hp
  intro T hT X
  obtain ⟨v, vm₁, ⟨U', l2, c2, s2⟩, hW₁, X', ⟨g', mk, t, L, e1, e2, hq, h1, hL, h2, h3⟩, st⟩ := vx_callVW X hx (C := C) (hh := hh) (bytes := bytes) (maxL := maxL) (ret := ret) ho hl hin hse hcode hy hK (by rw [hT]; exact hcB) hoB hclB hg (hsize.trans hml.symm) (argsL := As) (rest := rest) (fun sig h => hn.trans (hlen sig h)) hstack hW (by rw [hb]; exact hdg)
    (fun vm₁ hW₁ => ⟨hf.1, hf.2, hPc (T.setVm vm₁) hT hW₁⟩)
  dsimp only [Pt.U, Pt.locs, Pt.cells, Pt.slots] at X' e1 e2 h1 h2 h3 st
  subst h1; subst h2; subst h3
  exact ⟨v, (T.setVm vm₁).calling g' mk (Value.ref b :: As).toArray, t, U', L, hT, X', hL, e1, e2, hq, st⟩
section
variable {y : MethodName} {bytes cc : ByteArray} {maxL nL mc ms n index : Nat} {ret : Option FieldType} {ws : List Cond} {rm : Room} {Pc : Array Value → State → Prop} {Qc : Array Value → State → Outcome → State → Prop} {XC : String → State → State → Prop} {free : Addr → Prop} {Ts : List Cond} {own C : String} {b : Addr} {As rest : List Value} {g : JFrame}
theorem vx_runVX {hh : List (Nat × Nat × Nat × Nat)} (S : CallFix p m c cc nL s args Ts own) (hM : vx_Met l y ws rm Pc Qc XC mc ms free) (cw : vx_CVW R s args own C index y bytes maxL ret hh ws rm mc ms n) (hp : PreV s H C b Pc As)
    (hg : g.method = m) (hn : As.length = n) (hsize : g.locals.size = nL) (hstack : g.stack = As.reverse ++ .ref b :: rest) (hW : 2 * g.monitorRoom + (rest.map fun v => v.category).sum ≤ 8) (hdg : decode cc g.pc = .ok (.invokevirtual index, 3)) (hf : cells + mc ≤ R.cells ∧ slots + ms ≤ R.slots) :
    vx_Run p l e R s m args below meth c H locs cells slots mc ms g rest (Qc (Value.ref b :: As).toArray) XC free := by
  obtain ⟨⟨hrc, hrs, hfr, hlo, hws, hcw⟩, hcode, hini, hy, hlen, hl, hin, hse⟩ := cw
  have hK : vx_Back l R p e below s args y 3 8 (PreOf R mc ms Pc) (PostOf Qc mc ms free) (vx_Post XC mc ms free) := vx_backW (hh := hh) (bytes := bytes) (maxL := maxL) (ret := ret) hM hp.1 hrc hrs hfr hlo hws hcw (fun a' U hW => word_at hW (Or.inl (by first | rfl | simp [Cond.onTables, Cond.keeps, Cond.steady])) hini)
  obtain ⟨hx, hb, hml, ho, -⟩ := S
  obtain ⟨-, ⟨cellB, hcB, hoB, hclB⟩, hPc⟩ := hp
  intro T hT X
  rcases vx_callVX X hx (C := C) (hh := hh) (bytes := bytes) (maxL := maxL) (ret := ret) ho hl hin hse hcode hy hK (by rw [hT]; exact hcB) hoB hclB hg (hsize.trans hml.symm) (argsL := As) (rest := rest) (fun sig h => hn.trans (hlen sig h)) hstack hW (by rw [hb]; exact hdg)
    (fun vm₁ hW₁ => ⟨hf.1, hf.2, hPc (T.setVm vm₁) hT hW₁⟩) with ⟨v, vm₁, ⟨U', l2, c2, s2⟩, hW₁, X', ⟨g', mk, t, L, e1, e2, hq, h1, hL, h2, h3⟩, st⟩ | ⟨q, vm₁, ⟨U', l2, c2, s2⟩, hW₁, X', ⟨g', mk, t, L, E, ce, e1, e2, hq, hce, hcv, hcl, h1, hL, h2, h3⟩, st⟩
  · dsimp only [Pt.U, Pt.locs, Pt.cells, Pt.slots] at X' e1 e2 h1 h2 h3 st
    subst h1; subst h2; subst h3
    exact Or.inl ⟨v, (T.setVm vm₁).calling g' mk (Value.ref b :: As).toArray, t, U', L, hT, X', hL, e1, e2, hq, st⟩
  · dsimp only [Pt.U, Pt.locs, Pt.cells, Pt.slots] at X' e1 e2 h1 h2 h3 st hcl
    subst h1; subst h2; subst h3
    exact Or.inr ⟨q, (T.setVm vm₁).calling g' mk (Value.ref b :: As).toArray, t, U', L, E, ce, hT, X', hL, e1, e2, hq, hce, hcv, vx_cls hW₁ hcl, st⟩
theorem vx_runSX {hh : List (Nat × Nat × Nat × Nat)} (S : CallFix p m c cc nL s args Ts own) (hM : vx_Met l y ws rm Pc Qc XC mc ms free) (cw : vx_CSW R s args own index y bytes maxL ret hh ws rm mc ms n) (hp : PreS s H Pc As)
    (hg : g.method = m) (hn : As.length = n) (hsize : g.locals.size = nL) (hstack : g.stack = As.reverse ++ rest) (hW : 2 * g.monitorRoom + (rest.map fun v => v.category).sum ≤ 8) (hdg : decode cc g.pc = .ok (.invokestatic index, 3)) (hf : cells + mc ≤ R.cells ∧ slots + ms ≤ R.slots) :
    vx_Run p l e R s m args below meth c H locs cells slots mc ms g rest (Qc As.toArray) XC free := by
  obtain ⟨⟨hrc, hrs, hfr, hlo, hws, hcw⟩, hcode, hini, hy, hlen, hl, hstt⟩ := cw
  have hK : vx_Back l R p e below s args y 3 8 (PreOf R mc ms Pc) (PostOf Qc mc ms free) (vx_Post XC mc ms free) := vx_backW (hh := hh) (bytes := bytes) (maxL := maxL) (ret := ret) hM hp.1 hrc hrs hfr hlo hws hcw (fun a' U hW => word_at hW (Or.inl (by first | rfl | simp [Cond.onTables, Cond.keeps, Cond.steady])) hini)
  obtain ⟨hx, hb, hml, ho, -⟩ := S
  intro T hT X
  rcases vx_callSX X hx (hh := hh) (bytes := bytes) (maxL := maxL) (ret := ret) ho hl hstt hini hcode hy hK hg (hsize.trans hml.symm) (argsL := As) (rest := rest) (fun sig h => hn.trans (hlen sig h)) hstack hW (by rw [hb]; exact hdg)
    (fun vm₁ hW₁ => ⟨hf.1, hf.2, hp.2 (T.setVm vm₁) hT hW₁⟩) with ⟨v, vm₁, ⟨U', l2, c2, s2⟩, hW₁, X', ⟨g', mk, t, L, e1, e2, hq, h1, hL, h2, h3⟩, st⟩ | ⟨q, vm₁, ⟨U', l2, c2, s2⟩, hW₁, X', ⟨g', mk, t, L, E, ce, e1, e2, hq, hce, hcv, hcl, h1, hL, h2, h3⟩, st⟩
  · dsimp only [Pt.U, Pt.locs, Pt.cells, Pt.slots] at X' e1 e2 h1 h2 h3 st
    subst h1; subst h2; subst h3
    exact Or.inl ⟨v, (T.setVm vm₁).calling g' mk As.toArray, t, U', L, hT, X', hL, e1, e2, hq, st⟩
  · dsimp only [Pt.U, Pt.locs, Pt.cells, Pt.slots] at X' e1 e2 h1 h2 h3 st hcl
    subst h1; subst h2; subst h3
    exact Or.inr ⟨q, (T.setVm vm₁).calling g' mk As.toArray, t, U', L, E, ce, hT, X', hL, e1, e2, hq, hce, hcv, vx_cls hW₁ hcl, st⟩
end
end VXH
theorem vx_ofWH {l : Launch} {y : MethodName} {ws ws' : List Cond} {rm : Room} {Pc : Array Value → State → Prop} {Qc : Array Value → State → Outcome → State → Prop} {XC : String → State → State → Prop} {mc ms : Nat} {free : Addr → Prop} {cc : ByteArray} {maxL : Nat} {ret : Option FieldType} {hh : List (Nat × Nat × Nat × Nat)}
    (hy : plainName y.cls = true) (hw : ws = Cond.codeWith y cc maxL ret hh :: ws')
    (body : ∀ p e s m args below meth c s₁, BodyLoose p l y (headSpec ws rm) cc maxL ret e s m args below meth c s₁ → c.maxLocals = maxL → Pc args s →
      W p l e (headSpec ws rm).room s m args below meth c s.heap [] 0 0 (vx_MQ below Qc XC args s mc ms free) (entryFrame m args maxL)) : vx_Met l y ws rm Pc Qc XC mc ms free := by
  refine MetFree.of_bodyS (code := cc) (maxLocals := maxL) (ret := ret) hy ?_ ?_
  · intro args s m h hn
    obtain ⟨m9, meth, c, hn9, h1, h2, h3, h4, -, h5, h6, -⟩ := Cond.codeWith_spec (atoms_spec (ws := ws) h _ (by rw [hw]; exact List.mem_cons_self))
    cases hn.symm.trans hn9
    exact ⟨meth, c, h1, h2, h3, h4, h5, h6⟩
  · intro p e s m args below meth c s₁ B hml hP _
    have hh0 : s₁.heap = s.heap := by rw [B.state]; rfl
    obtain ⟨t, a1, o, b1, b2, b3⟩ := body p e s m args below meth c s₁ B hml hP s₁ hh0 (Stand.of_body B)
    exact ⟨t, o, a1, b1, b2, b3⟩
/-! ===== END ===== -/
end
section
/-! ===== BEGIN printed: names, fields, word lists, decode rows ===== -/
def RX0 : String := "StreetIndex$Street"
def TX0 : u_T := fun k => match k with
  | 0 => ("StreetIndex$Street", "words", "[I", true)
  | 1 => ("StreetIndex$Street", "wordCount", "I", false)
  | 2 => ("StreetIndex$Street", "oneWay", "Z", false)
  | _ => ("StreetIndex$Street", "track", "LStreetIndex$Track;", true)
def tyX0 : Nat → FieldType := fun k => match k with
  | 0 => .array .int
  | 1 => .int
  | 2 => .boolean
  | _ => .object "StreetIndex$Track"
abbrev wsX00 : List Cond := u_ws RX0 TX0 4
theorem nmX0 : ∀ a, a < 4 → ∀ b, b < 4 → a ≠ b → (TX0 a).2.1 ≠ (TX0 b).2.1 := by decide +kernel
theorem tyX0_ok : ∀ k, k < 4 → parseFieldDescriptor (TX0 k).2.2.1 = some (tyX0 k) := by decide +kernel
abbrev cX0_init : ByteArray := prog_2_method_1_code
def yX0_init : MethodName := ⟨RX0, "<init>", "()V"⟩
abbrev cX0_takeName : ByteArray := prog_2_method_2_code
def yX0_takeName : MethodName := ⟨RX0, "takeName", "(II)V"⟩
abbrev cX0_putKey : ByteArray := prog_2_method_3_code
def yX0_putKey : MethodName := ⟨RX0, "putKey", "([I[I)I"⟩
abbrev cX0_putWordsOf : ByteArray := prog_2_method_4_code
def yX0_putWordsOf : MethodName := ⟨RX0, "putWordsOf", "(I[I[II)I"⟩
abbrev cX0_countMoved : ByteArray := prog_2_method_5_code
def yX0_countMoved : MethodName := ⟨RX0, "countMoved", "([I)I"⟩
def RX1 : String := "StreetIndex$Track"
def TX1 : u_T := fun k => match k with
  | 0 => ("StreetIndex$Track", "path", "[I", true)
  | 1 => ("StreetIndex$Track", "length", "I", false)
  | 2 => ("StreetIndex$Track", "lengths", "[I", true)
  | 3 => ("StreetIndex$Track", "points", "I", false)
  | _ => ("StreetIndex$Track", "rows", "[I", true)
def tyX1 : Nat → FieldType := fun k => match k with
  | 0 => .array .int
  | 1 => .int
  | 2 => .array .int
  | 3 => .int
  | _ => .array .int
abbrev wsX10 : List Cond := u_ws RX1 TX1 5
theorem nmX1 : ∀ a, a < 5 → ∀ b, b < 5 → a ≠ b → (TX1 a).2.1 ≠ (TX1 b).2.1 := by decide +kernel
theorem tyX1_ok : ∀ k, k < 5 → parseFieldDescriptor (TX1 k).2.2.1 = some (tyX1 k) := by decide +kernel
abbrev cX1_init : ByteArray := prog_3_method_1_code
def yX1_init : MethodName := ⟨RX1, "<init>", "()V"⟩
abbrev cX1_canGoTo : ByteArray := prog_3_method_2_code
def yX1_canGoTo : MethodName := ⟨RX1, "canGoTo", "(II)Z"⟩
abbrev cX1_goTo : ByteArray := prog_3_method_3_code
def yX1_goTo : MethodName := ⟨RX1, "goTo", "(II)V"⟩
abbrev cX1_goStraight : ByteArray := prog_3_method_4_code
def yX1_goStraight : MethodName := ⟨RX1, "goStraight", "(III)V"⟩
abbrev cX1_addSquare : ByteArray := prog_3_method_5_code
def yX1_addSquare : MethodName := ⟨RX1, "addSquare", "(II)V"⟩
abbrev cX1_goBack : ByteArray := prog_3_method_6_code
def yX1_goBack : MethodName := ⟨RX1, "goBack", "()V"⟩
abbrev cX1_covers : ByteArray := prog_3_method_7_code
def yX1_covers : MethodName := ⟨RX1, "covers", "(II)Z"⟩
abbrev cX1_comesTo : ByteArray := prog_3_method_8_code
def yX1_comesTo : MethodName := ⟨RX1, "comesTo", "(I)Z"⟩
abbrev cX1_countSquares : ByteArray := prog_3_method_9_code
def yX1_countSquares : MethodName := ⟨RX1, "countSquares", "()I"⟩
abbrev cX1_countRuns : ByteArray := prog_3_method_10_code
def yX1_countRuns : MethodName := ⟨RX1, "countRuns", "()I"⟩
abbrev cX1_beginsRun : ByteArray := prog_3_method_11_code
def yX1_beginsRun : MethodName := ⟨RX1, "beginsRun", "(II)Z"⟩
abbrev cX1_endOfRun : ByteArray := prog_3_method_12_code
def yX1_endOfRun : MethodName := ⟨RX1, "endOfRun", "(II)I"⟩
abbrev cX1_nearestTo : ByteArray := prog_3_method_13_code
def yX1_nearestTo : MethodName := ⟨RX1, "nearestTo", "(II)I"⟩
def RX2 : String := "StreetIndex$Walks"
def TX2 : u_T := fun k => match k with
  | 0 => ("StreetIndex$Walks", "exits", "[I", true)
  | 1 => ("StreetIndex$Walks", "steps", "[I", true)
  | _ => ("StreetIndex$Walks", "reached", "[I", true)
def tyX2 : Nat → FieldType := fun k => match k with
  | 0 => .array .int
  | 1 => .array .int
  | _ => .array .int
abbrev wsX20 : List Cond := u_ws RX2 TX2 3
theorem nmX2 : ∀ a, a < 3 → ∀ b, b < 3 → a ≠ b → (TX2 a).2.1 ≠ (TX2 b).2.1 := by decide +kernel
theorem tyX2_ok : ∀ k, k < 3 → parseFieldDescriptor (TX2 k).2.2.1 = some (tyX2 k) := by decide +kernel
abbrev cX2_init : ByteArray := prog_4_method_1_code
def yX2_init : MethodName := ⟨RX2, "<init>", "()V"⟩
abbrev cX2_stepsOf : ByteArray := prog_4_method_2_code
def yX2_stepsOf : MethodName := ⟨RX2, "stepsOf", "(I)I"⟩
abbrev cX2_spread : ByteArray := prog_4_method_3_code
def yX2_spread : MethodName := ⟨RX2, "spread", "([LStreetIndex$Street;II)I"⟩
abbrev cX2_stepFrom : ByteArray := prog_4_method_4_code
def yX2_stepFrom : MethodName := ⟨RX2, "stepFrom", "(II)I"⟩
abbrev cX2_isNew : ByteArray := prog_4_method_5_code
def yX2_isNew : MethodName := ⟨RX2, "isNew", "(I)Z"⟩
abbrev cX2_findExits : ByteArray := prog_4_method_6_code
def yX2_findExits : MethodName := ⟨RX2, "findExits", "([LStreetIndex$Street;I)V"⟩
abbrev cX2_addExits : ByteArray := prog_4_method_7_code
def yX2_addExits : MethodName := ⟨RX2, "addExits", "(LStreetIndex$Track;Z)V"⟩
abbrev cX2_tellBackwards : ByteArray := prog_4_method_8_code
def yX2_tellBackwards : MethodName := ⟨RX2, "tellBackwards", "([LStreetIndex$Street;II)V"⟩
abbrev cX2_tellAlong : ByteArray := prog_4_method_9_code
def yX2_tellAlong : MethodName := ⟨RX2, "tellAlong", "(LStreetIndex$Track;Z)Z"⟩
abbrev cX2_tell : ByteArray := prog_4_method_10_code
def yX2_tell : MethodName := ⟨RX2, "tell", "(II)Z"⟩
def RX3 : String := "StreetIndex$Word"
def TX3 : u_T := fun k => match k with
  | _ => ("", "", "", false)
def tyX3 : Nat → FieldType := fun k => match k with
  | _ => .int
abbrev wsX30 : List Cond := u_ws RX3 TX3 0
theorem nmX3 : ∀ a, a < 0 → ∀ b, b < 0 → a ≠ b → (TX3 a).2.1 ≠ (TX3 b).2.1 := by decide +kernel
theorem tyX3_ok : ∀ k, k < 0 → parseFieldDescriptor (TX3 k).2.2.1 = some (tyX3 k) := by decide +kernel
def RX4 : String := "StreetIndex"
def TX4 : u_T := fun k => match k with
  | 0 => ("StreetIndex", "kinds", "[I", true)
  | 1 => ("StreetIndex", "plan", "[LStreetIndex$Street;", true)
  | 2 => ("StreetIndex", "streetCount", "I", false)
  | 3 => ("StreetIndex", "oneKey", "[I", true)
  | 4 => ("StreetIndex", "otherKey", "[I", true)
  | _ => ("StreetIndex", "walks", "LStreetIndex$Walks;", true)
def tyX4 : Nat → FieldType := fun k => match k with
  | 0 => .array .int
  | 1 => .array (.object "StreetIndex$Street")
  | 2 => .int
  | 3 => .array .int
  | 4 => .array .int
  | _ => .object "StreetIndex$Walks"
abbrev wsX40 : List Cond := u_ws RX4 TX4 6
theorem nmX4 : ∀ a, a < 6 → ∀ b, b < 6 → a ≠ b → (TX4 a).2.1 ≠ (TX4 b).2.1 := by decide +kernel
theorem tyX4_ok : ∀ k, k < 6 → parseFieldDescriptor (TX4 k).2.2.1 = some (tyX4 k) := by decide +kernel
abbrev cX4_init : ByteArray := prog_1_method_1_code
def yX4_init : MethodName := ⟨RX4, "<init>", "()V"⟩
abbrev cX4_addStreet : ByteArray := prog_1_method_2_code
def yX4_addStreet : MethodName := ⟨RX4, "addStreet", "(II)I"⟩
abbrev cX4_addPoint : ByteArray := prog_1_method_3_code
def yX4_addPoint : MethodName := ⟨RX4, "addPoint", "(III)I"⟩
abbrev cX4_dropPoint : ByteArray := prog_1_method_4_code
def yX4_dropPoint : MethodName := ⟨RX4, "dropPoint", "(I)I"⟩
abbrev cX4_setOneWay : ByteArray := prog_1_method_5_code
def yX4_setOneWay : MethodName := ⟨RX4, "setOneWay", "(IZ)Z"⟩
abbrev cX4_rename : ByteArray := prog_1_method_6_code
def yX4_rename : MethodName := ⟨RX4, "rename", "(III)V"⟩
abbrev cX4_setKind : ByteArray := prog_1_method_7_code
def yX4_setKind : MethodName := ⟨RX4, "setKind", "(II)I"⟩
abbrev cX4_streets : ByteArray := prog_1_method_8_code
def yX4_streets : MethodName := ⟨RX4, "streets", "()I"⟩
abbrev cX4_streetAt : ByteArray := prog_1_method_9_code
def yX4_streetAt : MethodName := ⟨RX4, "streetAt", "(I)I"⟩
abbrev cX4_placeOf : ByteArray := prog_1_method_10_code
def yX4_placeOf : MethodName := ⟨RX4, "placeOf", "(I)I"⟩
abbrev cX4_compareKeys : ByteArray := prog_1_method_11_code
def yX4_compareKeys : MethodName := ⟨RX4, "compareKeys", "(II)I"⟩
abbrev cX4_lineLength : ByteArray := prog_1_method_12_code
def yX4_lineLength : MethodName := ⟨RX4, "lineLength", "(I)I"⟩
abbrev cX4_lineChar : ByteArray := prog_1_method_13_code
def yX4_lineChar : MethodName := ⟨RX4, "lineChar", "(II)C"⟩
abbrev cX4_trackLength : ByteArray := prog_1_method_14_code
def yX4_trackLength : MethodName := ⟨RX4, "trackLength", "(I)I"⟩
abbrev cX4_squares : ByteArray := prog_1_method_15_code
def yX4_squares : MethodName := ⟨RX4, "squares", "(I)I"⟩
abbrev cX4_runs : ByteArray := prog_1_method_16_code
def yX4_runs : MethodName := ⟨RX4, "runs", "(I)I"⟩
abbrev cX4_isOn : ByteArray := prog_1_method_17_code
def yX4_isOn : MethodName := ⟨RX4, "isOn", "(III)Z"⟩
abbrev cX4_isOnTrack : ByteArray := prog_1_method_18_code
def yX4_isOnTrack : MethodName := ⟨RX4, "isOnTrack", "(III)Z"⟩
abbrev cX4_streetsOf : ByteArray := prog_1_method_19_code
def yX4_streetsOf : MethodName := ⟨RX4, "streetsOf", "(II)I"⟩
abbrev cX4_distance : ByteArray := prog_1_method_20_code
def yX4_distance : MethodName := ⟨RX4, "distance", "(III)I"⟩
abbrev cX4_nearest : ByteArray := prog_1_method_21_code
def yX4_nearest : MethodName := ⟨RX4, "nearest", "(III)I"⟩
abbrev cX4_walk : ByteArray := prog_1_method_22_code
def yX4_walk : MethodName := ⟨RX4, "walk", "(IIII)I"⟩
abbrev cX4_walkByRounds : ByteArray := prog_1_method_23_code
def yX4_walkByRounds : MethodName := ⟨RX4, "walkByRounds", "(IIII)I"⟩
abbrev cX4_reachable : ByteArray := prog_1_method_24_code
def yX4_reachable : MethodName := ⟨RX4, "reachable", "(II)I"⟩
abbrev cX4_checkStreet : ByteArray := prog_1_method_25_code
def yX4_checkStreet : MethodName := ⟨RX4, "checkStreet", "(I)V"⟩
abbrev cX4_checkSquare : ByteArray := prog_1_method_26_code
def yX4_checkSquare : MethodName := ⟨RX4, "checkSquare", "(II)V"⟩
abbrev cX4_checkName : ByteArray := prog_1_method_27_code
def yX4_checkName : MethodName := ⟨RX4, "checkName", "(II)V"⟩
abbrev cX4_wordOf : ByteArray := prog_1_method_28_code
def yX4_wordOf : MethodName := ⟨RX4, "wordOf", "(II)I"⟩
abbrev cX4_squareOf : ByteArray := prog_1_method_29_code
def yX4_squareOf : MethodName := ⟨RX4, "squareOf", "(II)I"⟩
abbrev cX4_apart : ByteArray := prog_1_method_30_code
def yX4_apart : MethodName := ⟨RX4, "apart", "(III)I"⟩
abbrev cX4_countAhead : ByteArray := prog_1_method_31_code
def yX4_countAhead : MethodName := ⟨RX4, "countAhead", "(I)I"⟩
abbrev cX4_indexOrder : ByteArray := prog_1_method_32_code
def yX4_indexOrder : MethodName := ⟨RX4, "indexOrder", "(II)I"⟩
abbrev cX4_keyOrder : ByteArray := prog_1_method_33_code
def yX4_keyOrder : MethodName := ⟨RX4, "keyOrder", "(II)I"⟩
abbrev cX4_nameOrder : ByteArray := prog_1_method_34_code
def yX4_nameOrder : MethodName := ⟨RX4, "nameOrder", "(LStreetIndex$Street;LStreetIndex$Street;)I"⟩
abbrev cX4_wordsOrder : ByteArray := prog_1_method_35_code
def yX4_wordsOrder : MethodName := ⟨RX4, "wordsOrder", "([II[II)I"⟩
abbrev cX4_lettersOrder : ByteArray := prog_1_method_36_code
def yX4_lettersOrder : MethodName := ⟨RX4, "lettersOrder", "(Ljava/lang/String;Ljava/lang/String;)I"⟩
abbrev cX4_sign : ByteArray := prog_1_method_37_code
def yX4_sign : MethodName := ⟨RX4, "sign", "(I)I"⟩
abbrev cX4_lineOf : ByteArray := prog_1_method_38_code
def yX4_lineOf : MethodName := ⟨RX4, "lineOf", "(LStreetIndex$Street;)Ljava/lang/StringBuilder;"⟩
abbrev cX4_appendName : ByteArray := prog_1_method_39_code
def yX4_appendName : MethodName := ⟨RX4, "appendName", "(Ljava/lang/StringBuilder;LStreetIndex$Street;)V"⟩
abbrev cX4_appendWords : ByteArray := prog_1_method_40_code
def yX4_appendWords : MethodName := ⟨RX4, "appendWords", "(Ljava/lang/StringBuilder;LStreetIndex$Street;Z)V"⟩
abbrev cX4_appendRuns : ByteArray := prog_1_method_41_code
def yX4_appendRuns : MethodName := ⟨RX4, "appendRuns", "(Ljava/lang/StringBuilder;LStreetIndex$Track;)V"⟩
abbrev cX4_appendRun : ByteArray := prog_1_method_42_code
def yX4_appendRun : MethodName := ⟨RX4, "appendRun", "(Ljava/lang/StringBuilder;III)V"⟩
def RX5 : String := "StreetIndexModel"
def TX5 : u_T := fun k => match k with
  | 0 => ("StreetIndexModel", "letters", "[I", true)
  | 1 => ("StreetIndexModel", "kinds", "[I", true)
  | 2 => ("StreetIndexModel", "names", "[I", true)
  | 3 => ("StreetIndexModel", "sizes", "[I", true)
  | 4 => ("StreetIndexModel", "points", "[I", true)
  | 5 => ("StreetIndexModel", "many", "[I", true)
  | 6 => ("StreetIndexModel", "oneWay", "[Z", true)
  | 7 => ("StreetIndexModel", "streets", "I", false)
  | 8 => ("StreetIndexModel", "track", "[I", true)
  | 9 => ("StreetIndexModel", "length", "I", false)
  | 10 => ("StreetIndexModel", "on", "[Z", true)
  | 11 => ("StreetIndexModel", "key", "[I", true)
  | 12 => ("StreetIndexModel", "key2", "[I", true)
  | 13 => ("StreetIndexModel", "line", "[I", true)
  | 14 => ("StreetIndexModel", "signs", "I", false)
  | 15 => ("StreetIndexModel", "steps", "[I", true)
  | _ => ("StreetIndexModel", "last", "I", false)
def tyX5 : Nat → FieldType := fun k => match k with
  | 0 => .array .int
  | 1 => .array .int
  | 2 => .array .int
  | 3 => .array .int
  | 4 => .array .int
  | 5 => .array .int
  | 6 => .array .boolean
  | 7 => .int
  | 8 => .array .int
  | 9 => .int
  | 10 => .array .boolean
  | 11 => .array .int
  | 12 => .array .int
  | 13 => .array .int
  | 14 => .int
  | 15 => .array .int
  | _ => .int
abbrev wsX50 : List Cond := u_ws RX5 TX5 17
theorem nmX5 : ∀ a, a < 17 → ∀ b, b < 17 → a ≠ b → (TX5 a).2.1 ≠ (TX5 b).2.1 := by decide +kernel
theorem tyX5_ok : ∀ k, k < 17 → parseFieldDescriptor (TX5 k).2.2.1 = some (tyX5 k) := by decide +kernel
abbrev cX5_init : ByteArray := prog_7_method_1_code
def yX5_init : MethodName := ⟨RX5, "<init>", "()V"⟩
abbrev cX5_spell : ByteArray := prog_7_method_2_code
def yX5_spell : MethodName := ⟨RX5, "spell", "(IIIIIIII)V"⟩
abbrev cX5_thrown : ByteArray := prog_7_method_3_code
def yX5_thrown : MethodName := ⟨RX5, "thrown", "()I"⟩
abbrev cX5_in : ByteArray := prog_7_method_4_code
def yX5_in : MethodName := ⟨RX5, "in", "(III)Z"⟩
abbrev cX5_goes : ByteArray := prog_7_method_5_code
def yX5_goes : MethodName := ⟨RX5, "goes", "(ZZZ)Z"⟩
abbrev cX5_isStreet : ByteArray := prog_7_method_6_code
def yX5_isStreet : MethodName := ⟨RX5, "isStreet", "(I)Z"⟩
abbrev cX5_isSquare : ByteArray := prog_7_method_7_code
def yX5_isSquare : MethodName := ⟨RX5, "isSquare", "(II)Z"⟩
abbrev cX5_isName : ByteArray := prog_7_method_8_code
def yX5_isName : MethodName := ⟨RX5, "isName", "(II)Z"⟩
abbrev cX5_gives : ByteArray := prog_7_method_9_code
def yX5_gives : MethodName := ⟨RX5, "gives", "(III)V"⟩
abbrev cX5_compareWords : ByteArray := prog_7_method_10_code
def yX5_compareWords : MethodName := ⟨RX5, "compareWords", "(II)I"⟩
abbrev cX5_keyOf : ByteArray := prog_7_method_11_code
def yX5_keyOf : MethodName := ⟨RX5, "keyOf", "(I[I)I"⟩
abbrev cX5_compareOf : ByteArray := prog_7_method_12_code
def yX5_compareOf : MethodName := ⟨RX5, "compareOf", "(II)I"⟩
abbrev cX5_isAhead : ByteArray := prog_7_method_13_code
def yX5_isAhead : MethodName := ⟨RX5, "isAhead", "(II)Z"⟩
abbrev cX5_countAhead : ByteArray := prog_7_method_14_code
def yX5_countAhead : MethodName := ⟨RX5, "countAhead", "(I)I"⟩
abbrev cX5_way : ByteArray := prog_7_method_15_code
def yX5_way : MethodName := ⟨RX5, "way", "(II)I"⟩
abbrev cX5_tracks : ByteArray := prog_7_method_16_code
def yX5_tracks : MethodName := ⟨RX5, "tracks", "(I)V"⟩
abbrev cX5_tracked : ByteArray := prog_7_method_17_code
def yX5_tracked : MethodName := ⟨RX5, "tracked", "(I)I"⟩
abbrev cX5_beginsRun : ByteArray := prog_7_method_18_code
def yX5_beginsRun : MethodName := ⟨RX5, "beginsRun", "(I)Z"⟩
abbrev cX5_addStreet : ByteArray := prog_7_method_19_code
def yX5_addStreet : MethodName := ⟨RX5, "addStreet", "(II)I"⟩
abbrev cX5_addPoint : ByteArray := prog_7_method_20_code
def yX5_addPoint : MethodName := ⟨RX5, "addPoint", "(III)I"⟩
abbrev cX5_dropPoint : ByteArray := prog_7_method_21_code
def yX5_dropPoint : MethodName := ⟨RX5, "dropPoint", "(I)I"⟩
abbrev cX5_setOneWay : ByteArray := prog_7_method_22_code
def yX5_setOneWay : MethodName := ⟨RX5, "setOneWay", "(IZ)Z"⟩
abbrev cX5_rename : ByteArray := prog_7_method_23_code
def yX5_rename : MethodName := ⟨RX5, "rename", "(III)V"⟩
abbrev cX5_setKind : ByteArray := prog_7_method_24_code
def yX5_setKind : MethodName := ⟨RX5, "setKind", "(II)I"⟩
abbrev cX5_streets : ByteArray := prog_7_method_25_code
def yX5_streets : MethodName := ⟨RX5, "streets", "()I"⟩
abbrev cX5_streetAt : ByteArray := prog_7_method_26_code
def yX5_streetAt : MethodName := ⟨RX5, "streetAt", "(I)I"⟩
abbrev cX5_placeOf : ByteArray := prog_7_method_27_code
def yX5_placeOf : MethodName := ⟨RX5, "placeOf", "(I)I"⟩
abbrev cX5_compareKeys : ByteArray := prog_7_method_28_code
def yX5_compareKeys : MethodName := ⟨RX5, "compareKeys", "(II)I"⟩
abbrev cX5_sign : ByteArray := prog_7_method_29_code
def yX5_sign : MethodName := ⟨RX5, "sign", "(I)V"⟩
abbrev cX5_writes : ByteArray := prog_7_method_30_code
def yX5_writes : MethodName := ⟨RX5, "writes", "(IZZ)V"⟩
abbrev cX5_number : ByteArray := prog_7_method_31_code
def yX5_number : MethodName := ⟨RX5, "number", "(I)V"⟩
abbrev cX5_writeLine : ByteArray := prog_7_method_32_code
def yX5_writeLine : MethodName := ⟨RX5, "writeLine", "(I)V"⟩
abbrev cX5_lineLength : ByteArray := prog_7_method_33_code
def yX5_lineLength : MethodName := ⟨RX5, "lineLength", "(I)I"⟩
abbrev cX5_lineChar : ByteArray := prog_7_method_34_code
def yX5_lineChar : MethodName := ⟨RX5, "lineChar", "(II)C"⟩
abbrev cX5_trackLength : ByteArray := prog_7_method_35_code
def yX5_trackLength : MethodName := ⟨RX5, "trackLength", "(I)I"⟩
abbrev cX5_squares : ByteArray := prog_7_method_36_code
def yX5_squares : MethodName := ⟨RX5, "squares", "(I)I"⟩
abbrev cX5_runs : ByteArray := prog_7_method_37_code
def yX5_runs : MethodName := ⟨RX5, "runs", "(I)I"⟩
abbrev cX5_isOn : ByteArray := prog_7_method_38_code
def yX5_isOn : MethodName := ⟨RX5, "isOn", "(III)Z"⟩
abbrev cX5_isOnTrack : ByteArray := prog_7_method_39_code
def yX5_isOnTrack : MethodName := ⟨RX5, "isOnTrack", "(III)Z"⟩
abbrev cX5_streetsOf : ByteArray := prog_7_method_40_code
def yX5_streetsOf : MethodName := ⟨RX5, "streetsOf", "(II)I"⟩
abbrev cX5_apart : ByteArray := prog_7_method_41_code
def yX5_apart : MethodName := ⟨RX5, "apart", "(II)I"⟩
abbrev cX5_farFrom : ByteArray := prog_7_method_42_code
def yX5_farFrom : MethodName := ⟨RX5, "farFrom", "(III)I"⟩
abbrev cX5_nearestOf : ByteArray := prog_7_method_43_code
def yX5_nearestOf : MethodName := ⟨RX5, "nearestOf", "(III)I"⟩
abbrev cX5_distance : ByteArray := prog_7_method_44_code
def yX5_distance : MethodName := ⟨RX5, "distance", "(III)I"⟩
abbrev cX5_nearest : ByteArray := prog_7_method_45_code
def yX5_nearest : MethodName := ⟨RX5, "nearest", "(III)I"⟩
abbrev cX5_passes : ByteArray := prog_7_method_46_code
def yX5_passes : MethodName := ⟨RX5, "passes", "(II)Z"⟩
abbrev cX5_walks : ByteArray := prog_7_method_47_code
def yX5_walks : MethodName := ⟨RX5, "walks", "(I)V"⟩
abbrev cX5_walk : ByteArray := prog_7_method_48_code
def yX5_walk : MethodName := ⟨RX5, "walk", "(IIII)I"⟩
abbrev cX5_walkByRounds : ByteArray := prog_7_method_49_code
def yX5_walkByRounds : MethodName := ⟨RX5, "walkByRounds", "(IIII)I"⟩
abbrev cX5_reachable : ByteArray := prog_7_method_50_code
def yX5_reachable : MethodName := ⟨RX5, "reachable", "(II)I"⟩
def RJx145de : String := "java/io/Serializable"
def TJx145de : u_T := fun k => match k with
  | _ => ("", "", "", false)
def tyJx145de : Nat → FieldType := fun k => match k with
  | _ => .int
abbrev wsJx145de0 : List Cond := u_ws RJx145de TJx145de 0
theorem nmJx145de : ∀ a, a < 0 → ∀ b, b < 0 → a ≠ b → (TJx145de a).2.1 ≠ (TJx145de b).2.1 := by decide +kernel
theorem tyJx145de_ok : ∀ k, k < 0 → parseFieldDescriptor (TJx145de k).2.2.1 = some (tyJx145de k) := by decide +kernel
def RJ5 : String := "java/lang/AbstractStringBuilder"
def TJ5 : u_T := fun k => match k with
  | _ => ("", "", "", false)
def tyJ5 : Nat → FieldType := fun k => match k with
  | _ => .int
abbrev wsJ50 : List Cond := u_ws RJ5 TJ5 0
theorem nmJ5 : ∀ a, a < 0 → ∀ b, b < 0 → a ≠ b → (TJ5 a).2.1 ≠ (TJ5 b).2.1 := by decide +kernel
theorem tyJ5_ok : ∀ k, k < 0 → parseFieldDescriptor (TJ5 k).2.2.1 = some (tyJ5 k) := by decide +kernel
abbrev cJ5_init_d00df : ByteArray := prog_8_method_2_code
def yJ5_init_d00df : MethodName := ⟨RJ5, "<init>", "(I)V"⟩
abbrev cJ5_length_8abf5 : ByteArray := prog_8_method_6_code
def yJ5_length_8abf5 : MethodName := ⟨RJ5, "length", "()I"⟩
abbrev cJ5_ensureCapacityInternal_d00df : ByteArray := prog_8_method_9_code
def yJ5_ensureCapacityInternal_d00df : MethodName := ⟨RJ5, "ensureCapacityInternal", "(I)V"⟩
abbrev cJ5_newCapacity_0f7a4 : ByteArray := prog_8_method_10_code
def yJ5_newCapacity_0f7a4 : MethodName := ⟨RJ5, "newCapacity", "(I)I"⟩
abbrev cJ5_inflate_da8c8 : ByteArray := prog_8_method_11_code
def yJ5_inflate_da8c8 : MethodName := ⟨RJ5, "inflate", "()V"⟩
abbrev cJ5_charAt_5068e : ByteArray := prog_8_method_14_code
def yJ5_charAt_5068e : MethodName := ⟨RJ5, "charAt", "(I)C"⟩
abbrev cJ5_append_cf1ce : ByteArray := prog_8_method_22_code
def yJ5_append_cf1ce : MethodName := ⟨RJ5, "append", "(Ljava/lang/String;)Ljava/lang/AbstractStringBuilder;"⟩
abbrev cJ5_appendNull_278bc : ByteArray := prog_8_method_26_code
def yJ5_appendNull_278bc : MethodName := ⟨RJ5, "appendNull", "()Ljava/lang/AbstractStringBuilder;"⟩
abbrev cJ5_append_3fe6f : ByteArray := prog_8_method_31_code
def yJ5_append_3fe6f : MethodName := ⟨RJ5, "append", "(C)Ljava/lang/AbstractStringBuilder;"⟩
abbrev cJ5_append_c97b9 : ByteArray := prog_8_method_32_code
def yJ5_append_c97b9 : MethodName := ⟨RJ5, "append", "(I)Ljava/lang/AbstractStringBuilder;"⟩
abbrev cJ5_isLatin1_aae02 : ByteArray := prog_8_method_68_code
def yJ5_isLatin1_aae02 : MethodName := ⟨RJ5, "isLatin1", "()Z"⟩
abbrev cJ5_inflateIfNeededFor_a7421 : ByteArray := prog_8_method_71_code
def yJ5_inflateIfNeededFor_a7421 : MethodName := ⟨RJ5, "inflateIfNeededFor", "(Ljava/lang/String;)V"⟩
abbrev cJ5_putStringAt_47b60 : ByteArray := prog_8_method_73_code
def yJ5_putStringAt_47b60 : MethodName := ⟨RJ5, "putStringAt", "(ILjava/lang/String;)V"⟩
def RJx2cfe8 : String := "java/lang/Appendable"
def TJx2cfe8 : u_T := fun k => match k with
  | _ => ("", "", "", false)
def tyJx2cfe8 : Nat → FieldType := fun k => match k with
  | _ => .int
abbrev wsJx2cfe80 : List Cond := u_ws RJx2cfe8 TJx2cfe8 0
theorem nmJx2cfe8 : ∀ a, a < 0 → ∀ b, b < 0 → a ≠ b → (TJx2cfe8 a).2.1 ≠ (TJx2cfe8 b).2.1 := by decide +kernel
theorem tyJx2cfe8_ok : ∀ k, k < 0 → parseFieldDescriptor (TJx2cfe8 k).2.2.1 = some (tyJx2cfe8 k) := by decide +kernel
def RJx9f9b0 : String := "java/lang/CharSequence"
def TJx9f9b0 : u_T := fun k => match k with
  | _ => ("", "", "", false)
def tyJx9f9b0 : Nat → FieldType := fun k => match k with
  | _ => .int
abbrev wsJx9f9b00 : List Cond := u_ws RJx9f9b0 TJx9f9b0 0
theorem nmJx9f9b0 : ∀ a, a < 0 → ∀ b, b < 0 → a ≠ b → (TJx9f9b0 a).2.1 ≠ (TJx9f9b0 b).2.1 := by decide +kernel
theorem tyJx9f9b0_ok : ∀ k, k < 0 → parseFieldDescriptor (TJx9f9b0 k).2.2.1 = some (tyJx9f9b0 k) := by decide +kernel
def RJx8e188 : String := "java/lang/Cloneable"
def TJx8e188 : u_T := fun k => match k with
  | _ => ("", "", "", false)
def tyJx8e188 : Nat → FieldType := fun k => match k with
  | _ => .int
abbrev wsJx8e1880 : List Cond := u_ws RJx8e188 TJx8e188 0
theorem nmJx8e188 : ∀ a, a < 0 → ∀ b, b < 0 → a ≠ b → (TJx8e188 a).2.1 ≠ (TJx8e188 b).2.1 := by decide +kernel
theorem tyJx8e188_ok : ∀ k, k < 0 → parseFieldDescriptor (TJx8e188 k).2.2.1 = some (tyJx8e188 k) := by decide +kernel
def RJxb160c : String := "java/lang/Comparable"
def TJxb160c : u_T := fun k => match k with
  | _ => ("", "", "", false)
def tyJxb160c : Nat → FieldType := fun k => match k with
  | _ => .int
abbrev wsJxb160c0 : List Cond := u_ws RJxb160c TJxb160c 0
theorem nmJxb160c : ∀ a, a < 0 → ∀ b, b < 0 → a ≠ b → (TJxb160c a).2.1 ≠ (TJxb160c b).2.1 := by decide +kernel
theorem tyJxb160c_ok : ∀ k, k < 0 → parseFieldDescriptor (TJxb160c k).2.2.1 = some (tyJxb160c k) := by decide +kernel
def RJx29ce0 : String := "java/lang/Enum"
def TJx29ce0 : u_T := fun k => match k with
  | _ => ("", "", "", false)
def tyJx29ce0 : Nat → FieldType := fun k => match k with
  | _ => .int
abbrev wsJx29ce00 : List Cond := u_ws RJx29ce0 TJx29ce0 0
theorem nmJx29ce0 : ∀ a, a < 0 → ∀ b, b < 0 → a ≠ b → (TJx29ce0 a).2.1 ≠ (TJx29ce0 b).2.1 := by decide +kernel
theorem tyJx29ce0_ok : ∀ k, k < 0 → parseFieldDescriptor (TJx29ce0 k).2.2.1 = some (tyJx29ce0 k) := by decide +kernel
def RJ6 : String := "java/lang/Integer"
def TJ6 : u_T := fun k => match k with
  | _ => ("", "", "", false)
def tyJ6 : Nat → FieldType := fun k => match k with
  | _ => .int
abbrev wsJ60 : List Cond := u_ws RJ6 TJ6 0
theorem nmJ6 : ∀ a, a < 0 → ∀ b, b < 0 → a ≠ b → (TJ6 a).2.1 ≠ (TJ6 b).2.1 := by decide +kernel
theorem tyJ6_ok : ∀ k, k < 0 → parseFieldDescriptor (TJ6 k).2.2.1 = some (tyJ6 k) := by decide +kernel
abbrev cJ6_getChars_ba4f3 : ByteArray := prog_15_method_12_code
def yJ6_getChars_ba4f3 : MethodName := ⟨RJ6, "getChars", "(II[B)I"⟩
abbrev cJ6_stringSize_0f7a4 : ByteArray := prog_15_method_13_code
def yJ6_stringSize_0f7a4 : MethodName := ⟨RJ6, "stringSize", "(I)I"⟩
abbrev cJ6_bitCount_0f7a4 : ByteArray := prog_15_method_49_code
def yJ6_bitCount_0f7a4 : MethodName := ⟨RJ6, "bitCount", "(I)I"⟩
def RJ9 : String := "java/lang/Math"
def TJ9 : u_T := fun k => match k with
  | _ => ("", "", "", false)
def tyJ9 : Nat → FieldType := fun k => match k with
  | _ => .int
abbrev wsJ90 : List Cond := u_ws RJ9 TJ9 0
theorem nmJ9 : ∀ a, a < 0 → ∀ b, b < 0 → a ≠ b → (TJ9 a).2.1 ≠ (TJ9 b).2.1 := by decide +kernel
theorem tyJ9_ok : ∀ k, k < 0 → parseFieldDescriptor (TJ9 k).2.2.1 = some (tyJ9 k) := by decide +kernel
abbrev cJ9_abs_0f7a4 : ByteArray := prog_16_method_59_code
def yJ9_abs_0f7a4 : MethodName := ⟨RJ9, "abs", "(I)I"⟩
abbrev cJ9_max_7cf53 : ByteArray := prog_16_method_65_code
def yJ9_max_7cf53 : MethodName := ⟨RJ9, "max", "(II)I"⟩
abbrev cJ9_min_7cf53 : ByteArray := prog_16_method_69_code
def yJ9_min_7cf53 : MethodName := ⟨RJ9, "min", "(II)I"⟩
def RJxd2413 : String := "java/lang/Number"
def TJxd2413 : u_T := fun k => match k with
  | _ => ("", "", "", false)
def tyJxd2413 : Nat → FieldType := fun k => match k with
  | _ => .int
abbrev wsJxd24130 : List Cond := u_ws RJxd2413 TJxd2413 0
theorem nmJxd2413 : ∀ a, a < 0 → ∀ b, b < 0 → a ≠ b → (TJxd2413 a).2.1 ≠ (TJxd2413 b).2.1 := by decide +kernel
theorem tyJxd2413_ok : ∀ k, k < 0 → parseFieldDescriptor (TJxd2413 k).2.2.1 = some (tyJxd2413 k) := by decide +kernel
def RJ0 : String := "java/lang/String"
def TJ0 : u_T := fun k => match k with
  | _ => ("", "", "", false)
def tyJ0 : Nat → FieldType := fun k => match k with
  | _ => .int
abbrev wsJ00 : List Cond := u_ws RJ0 TJ0 0
theorem nmJ0 : ∀ a, a < 0 → ∀ b, b < 0 → a ≠ b → (TJ0 a).2.1 ≠ (TJ0 b).2.1 := by decide +kernel
theorem tyJ0_ok : ∀ k, k < 0 → parseFieldDescriptor (TJ0 k).2.2.1 = some (tyJ0 k) := by decide +kernel
abbrev cJ0_length_8abf5 : ByteArray := prog_19_method_54_code
def yJ0_length_8abf5 : MethodName := ⟨RJ0, "length", "()I"⟩
abbrev cJ0_charAt_5068e : ByteArray := prog_19_method_56_code
def yJ0_charAt_5068e : MethodName := ⟨RJ0, "charAt", "(I)C"⟩
abbrev cJ0_getBytes_840e7 : ByteArray := prog_19_method_147_code
def yJ0_getBytes_840e7 : MethodName := ⟨RJ0, "getBytes", "([BIB)V"⟩
abbrev cJ0_coder_7d493 : ByteArray := prog_19_method_152_code
def yJ0_coder_7d493 : MethodName := ⟨RJ0, "coder", "()B"⟩
abbrev cJ0_isLatin1_aae02 : ByteArray := prog_19_method_154_code
def yJ0_isLatin1_aae02 : MethodName := ⟨RJ0, "isLatin1", "()Z"⟩
abbrev cJ0_checkIndex_df160 : ByteArray := prog_19_method_155_code
def yJ0_checkIndex_df160 : MethodName := ⟨RJ0, "checkIndex", "(II)V"⟩
abbrev cJ0_checkBoundsOffCount_cabcc : ByteArray := prog_19_method_157_code
def yJ0_checkBoundsOffCount_cabcc : MethodName := ⟨RJ0, "checkBoundsOffCount", "(III)I"⟩
abbrev cJ0_checkBoundsBeginEnd_23922 : ByteArray := prog_19_method_158_code
def yJ0_checkBoundsBeginEnd_23922 : MethodName := ⟨RJ0, "checkBoundsBeginEnd", "(III)V"⟩
def RJ4 : String := "java/lang/StringBuilder"
def TJ4 : u_T := fun k => match k with
  | 0 => ("java/lang/AbstractStringBuilder", "value", "[B", false)
  | 1 => ("java/lang/AbstractStringBuilder", "coder", "B", false)
  | 2 => ("java/lang/AbstractStringBuilder", "maybeLatin1", "Z", false)
  | _ => ("java/lang/AbstractStringBuilder", "count", "I", false)
def tyJ4 : Nat → FieldType := fun k => match k with
  | 0 => .array .byte
  | 1 => .byte
  | 2 => .boolean
  | _ => .int
abbrev wsJ40 : List Cond := u_ws RJ4 TJ4 4
theorem nmJ4 : ∀ a, a < 4 → ∀ b, b < 4 → a ≠ b → (TJ4 a).2.1 ≠ (TJ4 b).2.1 := by decide +kernel
theorem tyJ4_ok : ∀ k, k < 4 → parseFieldDescriptor (TJ4 k).2.2.1 = some (tyJ4 k) := by decide +kernel
abbrev cJ4_init_da8c8 : ByteArray := prog_20_method_1_code
def yJ4_init_da8c8 : MethodName := ⟨RJ4, "<init>", "()V"⟩
abbrev cJ4_append_15ec4 : ByteArray := prog_20_method_7_code
def yJ4_append_15ec4 : MethodName := ⟨RJ4, "append", "(Ljava/lang/String;)Ljava/lang/StringBuilder;"⟩
abbrev cJ4_append_cf468 : ByteArray := prog_20_method_14_code
def yJ4_append_cf468 : MethodName := ⟨RJ4, "append", "(C)Ljava/lang/StringBuilder;"⟩
abbrev cJ4_append_bf812 : ByteArray := prog_20_method_15_code
def yJ4_append_bf812 : MethodName := ⟨RJ4, "append", "(I)Ljava/lang/StringBuilder;"⟩
abbrev cJ4_charAt_5068e : ByteArray := prog_20_method_88_code
def yJ4_charAt_5068e : MethodName := ⟨RJ4, "charAt", "(I)C"⟩
abbrev cJ4_length_8abf5 : ByteArray := prog_20_method_93_code
def yJ4_length_8abf5 : MethodName := ⟨RJ4, "length", "()I"⟩
def RJ1 : String := "java/lang/StringLatin1"
def TJ1 : u_T := fun k => match k with
  | _ => ("", "", "", false)
def tyJ1 : Nat → FieldType := fun k => match k with
  | _ => .int
abbrev wsJ10 : List Cond := u_ws RJ1 TJ1 0
theorem nmJ1 : ∀ a, a < 0 → ∀ b, b < 0 → a ≠ b → (TJ1 a).2.1 ≠ (TJ1 b).2.1 := by decide +kernel
theorem tyJ1_ok : ∀ k, k < 0 → parseFieldDescriptor (TJ1 k).2.2.1 = some (tyJ1 k) := by decide +kernel
abbrev cJ1_charAt_3b067 : ByteArray := prog_21_method_2_code
def yJ1_charAt_3b067 : MethodName := ⟨RJ1, "charAt", "([BI)C"⟩
abbrev cJ1_canEncode_fc78d : ByteArray := prog_21_method_3_code
def yJ1_canEncode_fc78d : MethodName := ⟨RJ1, "canEncode", "(C)Z"⟩
abbrev cJ1_inflate_0e8fd : ByteArray := prog_21_method_50_code
def yJ1_inflate_0e8fd : MethodName := ⟨RJ1, "inflate", "([BI[BII)V"⟩
def RJ2 : String := "java/lang/StringUTF16"
def TJ2 : u_T := fun k => match k with
  | _ => ("", "", "", false)
def tyJ2 : Nat → FieldType := fun k => match k with
  | _ => .int
abbrev wsJ20 : List Cond := u_ws RJ2 TJ2 0
theorem nmJ2 : ∀ a, a < 0 → ∀ b, b < 0 → a ≠ b → (TJ2 a).2.1 ≠ (TJ2 b).2.1 := by decide +kernel
theorem tyJ2_ok : ∀ k, k < 0 → parseFieldDescriptor (TJ2 k).2.2.1 = some (tyJ2 k) := by decide +kernel
abbrev cJ2_newBytesFor_77867 : ByteArray := prog_22_method_2_code
def yJ2_newBytesFor_77867 : MethodName := ⟨RJ2, "newBytesFor", "(I)[B"⟩
abbrev cJ2_newBytesLength_0f7a4 : ByteArray := prog_22_method_3_code
def yJ2_newBytesLength_0f7a4 : MethodName := ⟨RJ2, "newBytesLength", "(I)I"⟩
abbrev cJ2_putChar_b72d1 : ByteArray := prog_22_method_4_code
def yJ2_putChar_b72d1 : MethodName := ⟨RJ2, "putChar", "([BII)V"⟩
abbrev cJ2_getChar_3b067 : ByteArray := prog_22_method_5_code
def yJ2_getChar_3b067 : MethodName := ⟨RJ2, "getChar", "([BI)C"⟩
abbrev cJ2_length_9d52b : ByteArray := prog_22_method_6_code
def yJ2_length_9d52b : MethodName := ⟨RJ2, "length", "([B)I"⟩
abbrev cJ2_putCharSB_b72d1 : ByteArray := prog_22_method_71_code
def yJ2_putCharSB_b72d1 : MethodName := ⟨RJ2, "putCharSB", "([BII)V"⟩
abbrev cJ2_getChars_46870 : ByteArray := prog_22_method_77_code
def yJ2_getChars_46870 : MethodName := ⟨RJ2, "getChars", "(III[B)I"⟩
abbrev cJ2_putCharsAt_cd4e5 : ByteArray := prog_22_method_81_code
def yJ2_putCharsAt_cd4e5 : MethodName := ⟨RJ2, "putCharsAt", "([BICCCC)I"⟩
abbrev cJ2_charAt_3b067 : ByteArray := prog_22_method_83_code
def yJ2_charAt_3b067 : MethodName := ⟨RJ2, "charAt", "([BI)C"⟩
abbrev cJ2_inflate_0e8fd : ByteArray := prog_22_method_86_code
def yJ2_inflate_0e8fd : MethodName := ⟨RJ2, "inflate", "([BI[BII)V"⟩
abbrev cJ2_getChars_ba4f3 : ByteArray := prog_22_method_89_code
def yJ2_getChars_ba4f3 : MethodName := ⟨RJ2, "getChars", "(II[B)I"⟩
abbrev cJ2_checkIndex_2214a : ByteArray := prog_22_method_91_code
def yJ2_checkIndex_2214a : MethodName := ⟨RJ2, "checkIndex", "(I[B)V"⟩
abbrev cJ2_checkBoundsBeginEnd_d044e : ByteArray := prog_22_method_93_code
def yJ2_checkBoundsBeginEnd_d044e : MethodName := ⟨RJ2, "checkBoundsBeginEnd", "(II[B)V"⟩
abbrev cJ2_checkBoundsOffCount_d044e : ByteArray := prog_22_method_94_code
def yJ2_checkBoundsOffCount_d044e : MethodName := ⟨RJ2, "checkBoundsOffCount", "(II[B)V"⟩
def RJ10 : String := "java/lang/System"
def TJ10 : u_T := fun k => match k with
  | _ => ("", "", "", false)
def tyJ10 : Nat → FieldType := fun k => match k with
  | _ => .int
abbrev wsJ100 : List Cond := u_ws RJ10 TJ10 0
theorem nmJ10 : ∀ a, a < 0 → ∀ b, b < 0 → a ≠ b → (TJ10 a).2.1 ≠ (TJ10 b).2.1 := by decide +kernel
theorem tyJ10_ok : ∀ k, k < 0 → parseFieldDescriptor (TJ10 k).2.2.1 = some (tyJ10 k) := by decide +kernel
def RJxfd54e : String := "java/lang/constant/Constable"
def TJxfd54e : u_T := fun k => match k with
  | _ => ("", "", "", false)
def tyJxfd54e : Nat → FieldType := fun k => match k with
  | _ => .int
abbrev wsJxfd54e0 : List Cond := u_ws RJxfd54e TJxfd54e 0
theorem nmJxfd54e : ∀ a, a < 0 → ∀ b, b < 0 → a ≠ b → (TJxfd54e a).2.1 ≠ (TJxfd54e b).2.1 := by decide +kernel
theorem tyJxfd54e_ok : ∀ k, k < 0 → parseFieldDescriptor (TJxfd54e k).2.2.1 = some (tyJxfd54e k) := by decide +kernel
def RJx3cf43 : String := "java/lang/constant/ConstantDesc"
def TJx3cf43 : u_T := fun k => match k with
  | _ => ("", "", "", false)
def tyJx3cf43 : Nat → FieldType := fun k => match k with
  | _ => .int
abbrev wsJx3cf430 : List Cond := u_ws RJx3cf43 TJx3cf43 0
theorem nmJx3cf43 : ∀ a, a < 0 → ∀ b, b < 0 → a ≠ b → (TJx3cf43 a).2.1 ≠ (TJx3cf43 b).2.1 := by decide +kernel
theorem tyJx3cf43_ok : ∀ k, k < 0 → parseFieldDescriptor (TJx3cf43 k).2.2.1 = some (tyJx3cf43 k) := by decide +kernel
def RJ7 : String := "java/util/Arrays"
def TJ7 : u_T := fun k => match k with
  | _ => ("", "", "", false)
def tyJ7 : Nat → FieldType := fun k => match k with
  | _ => .int
abbrev wsJ70 : List Cond := u_ws RJ7 TJ7 0
theorem nmJ7 : ∀ a, a < 0 → ∀ b, b < 0 → a ≠ b → (TJ7 a).2.1 ≠ (TJ7 b).2.1 := by decide +kernel
theorem tyJ7_ok : ∀ k, k < 0 → parseFieldDescriptor (TJ7 k).2.2.1 = some (tyJ7 k) := by decide +kernel
abbrev cJ7_fill_53178 : ByteArray := prog_25_method_103_code
def yJ7_fill_53178 : MethodName := ⟨RJ7, "fill", "([II)V"⟩
abbrev cJ7_copyOf_9075b : ByteArray := prog_25_method_121_code
def yJ7_copyOf_9075b : MethodName := ⟨RJ7, "copyOf", "([BI)[B"⟩
def RJ8 : String := "jdk/internal/util/ArraysSupport"
def TJ8 : u_T := fun k => match k with
  | _ => ("", "", "", false)
def tyJ8 : Nat → FieldType := fun k => match k with
  | _ => .int
abbrev wsJ80 : List Cond := u_ws RJ8 TJ8 0
theorem nmJ8 : ∀ a, a < 0 → ∀ b, b < 0 → a ≠ b → (TJ8 a).2.1 ≠ (TJ8 b).2.1 := by decide +kernel
theorem tyJ8_ok : ∀ k, k < 0 → parseFieldDescriptor (TJ8 k).2.2.1 = some (tyJ8 k) := by decide +kernel
abbrev cJ8_newLength_cabcc : ByteArray := prog_26_method_27_code
def yJ8_newLength_cabcc : MethodName := ⟨RJ8, "newLength", "(III)I"⟩
abbrev cJ8_hugeLength_7cf53 : ByteArray := prog_26_method_28_code
def yJ8_hugeLength_7cf53 : MethodName := ⟨RJ8, "hugeLength", "(II)I"⟩
def RJ3 : String := "jdk/internal/util/Preconditions"
def TJ3 : u_T := fun k => match k with
  | _ => ("", "", "", false)
def tyJ3 : Nat → FieldType := fun k => match k with
  | _ => .int
abbrev wsJ30 : List Cond := u_ws RJ3 TJ3 0
theorem nmJ3 : ∀ a, a < 0 → ∀ b, b < 0 → a ≠ b → (TJ3 a).2.1 ≠ (TJ3 b).2.1 := by decide +kernel
theorem tyJ3_ok : ∀ k, k < 0 → parseFieldDescriptor (TJ3 k).2.2.1 = some (tyJ3 k) := by decide +kernel
abbrev cJ3_checkIndex_8e157 : ByteArray := prog_27_method_11_code
def yJ3_checkIndex_8e157 : MethodName := ⟨RJ3, "checkIndex", "(IILjava/util/function/BiFunction;)I"⟩
abbrev cJ3_checkFromToIndex_8c36e : ByteArray := prog_27_method_12_code
def yJ3_checkFromToIndex_8c36e : MethodName := ⟨RJ3, "checkFromToIndex", "(IIILjava/util/function/BiFunction;)I"⟩
abbrev cJ3_checkFromIndexSize_8c36e : ByteArray := prog_27_method_13_code
def yJ3_checkFromIndexSize_8c36e : MethodName := ⟨RJ3, "checkFromIndexSize", "(IIILjava/util/function/BiFunction;)I"⟩
def RL : String := "StreetIndexLaw"
abbrev cL_addStreet : ByteArray := method_3_code
def yL_addStreet : MethodName := ⟨RL, "addStreet", "(LStreetIndex;II[J)I"⟩
abbrev cL_addPoint : ByteArray := method_4_code
def yL_addPoint : MethodName := ⟨RL, "addPoint", "(LStreetIndex;III[J)I"⟩
abbrev cL_dropPoint : ByteArray := method_5_code
def yL_dropPoint : MethodName := ⟨RL, "dropPoint", "(LStreetIndex;I[J)I"⟩
abbrev cL_setOneWay : ByteArray := method_6_code
def yL_setOneWay : MethodName := ⟨RL, "setOneWay", "(LStreetIndex;IZ[J)I"⟩
abbrev cL_rename : ByteArray := method_7_code
def yL_rename : MethodName := ⟨RL, "rename", "(LStreetIndex;III)I"⟩
abbrev cL_setKind : ByteArray := method_8_code
def yL_setKind : MethodName := ⟨RL, "setKind", "(LStreetIndex;II[J)I"⟩
abbrev cL_streetAt : ByteArray := method_9_code
def yL_streetAt : MethodName := ⟨RL, "streetAt", "(LStreetIndex;I[J)I"⟩
abbrev cL_placeOf : ByteArray := method_10_code
def yL_placeOf : MethodName := ⟨RL, "placeOf", "(LStreetIndex;I[J)I"⟩
abbrev cL_compareKeys : ByteArray := method_11_code
def yL_compareKeys : MethodName := ⟨RL, "compareKeys", "(LStreetIndex;II[J)I"⟩
abbrev cL_lineLength : ByteArray := method_12_code
def yL_lineLength : MethodName := ⟨RL, "lineLength", "(LStreetIndex;I[J)I"⟩
abbrev cL_lineChar : ByteArray := method_13_code
def yL_lineChar : MethodName := ⟨RL, "lineChar", "(LStreetIndex;II[J)I"⟩
abbrev cL_trackLength : ByteArray := method_14_code
def yL_trackLength : MethodName := ⟨RL, "trackLength", "(LStreetIndex;I[J)I"⟩
abbrev cL_squares : ByteArray := method_15_code
def yL_squares : MethodName := ⟨RL, "squares", "(LStreetIndex;I[J)I"⟩
abbrev cL_runs : ByteArray := method_16_code
def yL_runs : MethodName := ⟨RL, "runs", "(LStreetIndex;I[J)I"⟩
abbrev cL_isOn : ByteArray := method_17_code
def yL_isOn : MethodName := ⟨RL, "isOn", "(LStreetIndex;III[J)I"⟩
abbrev cL_isOnTrack : ByteArray := method_18_code
def yL_isOnTrack : MethodName := ⟨RL, "isOnTrack", "(LStreetIndex;III[J)I"⟩
abbrev cL_streetsOf : ByteArray := method_19_code
def yL_streetsOf : MethodName := ⟨RL, "streetsOf", "(LStreetIndex;II[J)I"⟩
abbrev cL_distance : ByteArray := method_20_code
def yL_distance : MethodName := ⟨RL, "distance", "(LStreetIndex;III[J)I"⟩
abbrev cL_nearest : ByteArray := method_21_code
def yL_nearest : MethodName := ⟨RL, "nearest", "(LStreetIndex;III[J)I"⟩
abbrev cL_walk : ByteArray := method_22_code
def yL_walk : MethodName := ⟨RL, "walk", "(LStreetIndex;IIII[J)I"⟩
abbrev cL_walkByRounds : ByteArray := method_23_code
def yL_walkByRounds : MethodName := ⟨RL, "walkByRounds", "(LStreetIndex;IIII[J)I"⟩
abbrev cL_reachable : ByteArray := method_24_code
def yL_reachable : MethodName := ⟨RL, "reachable", "(LStreetIndex;II[J)I"⟩
abbrev cL_law : ByteArray := code
def yL_law : MethodName := ⟨RL, "law", "([I)Z"⟩
def wsX1_init : List Cond := .code yX1_init cX1_init 1 none :: ([.methodLink RX1 3 objectInit, .instanceMethod objectInit, .code objectInit ⟨#[0xb1]⟩ 1 none, .arrayClass .int, .fieldLink RX1 9 "StreetIndex$Track" "path" "[I", .fieldLink RX1 15 "StreetIndex$Track" "lengths" "[I", .fieldLink RX1 18 "StreetIndex$Track" "rows" "[I"] ++ wsX10)
def wsX0_init : List Cond := .code yX0_init cX0_init 1 none :: ([.methodLink RX0 3 objectInit, .instanceMethod objectInit, .code objectInit ⟨#[0xb1]⟩ 1 none, .arrayClass .int, .fieldLink RX0 9 "StreetIndex$Street" "words" "[I", .classLink RX0 15 RX1, .instantiable RX1 5, .initialized RX1, .fieldLink RX0 18 "StreetIndex$Street" "track" "LStreetIndex$Track;", .instanceMethod yX1_init, .code yX1_init cX1_init 1 none, .methodLink RX1 3 objectInit, .fieldLink RX1 9 "StreetIndex$Track" "path" "[I", .fieldLink RX1 15 "StreetIndex$Track" "lengths" "[I", .fieldLink RX1 18 "StreetIndex$Track" "rows" "[I"] ++ wsX00 ++ wsX10)
def wsX4_wordOf : List Cond := .code yX4_wordOf cX4_wordOf 2 (some .int) :: ([])
def wsX0_takeName : List Cond := .code yX0_takeName cX0_takeName 4 none :: ([.fieldLink RX0 9 "StreetIndex$Street" "words" "[I", .fieldLink RX0 26 "StreetIndex$Street" "wordCount" "I", .static yX4_wordOf, .initialized RX4, .code yX4_wordOf cX4_wordOf 2 (some .int)] ++ wsX00)
def wsX0_putWordsOf : List Cond := .code yX0_putWordsOf cX0_putWordsOf 7 (some .int) :: ([.fieldLink RX0 26 "StreetIndex$Street" "wordCount" "I", .fieldLink RX0 9 "StreetIndex$Street" "words" "[I"] ++ wsX00)
def wsX0_putKey : List Cond := .code yX0_putKey cX0_putKey 5 (some .int) :: ([.methodLink RX0 30 yX0_putWordsOf, .instanceMethod yX0_putWordsOf, .selects RX0 yX0_putWordsOf yX0_putWordsOf, .initialized RX0, .code yX0_putWordsOf cX0_putWordsOf 7 (some .int), .fieldLink RX0 26 "StreetIndex$Street" "wordCount" "I", .fieldLink RX0 9 "StreetIndex$Street" "words" "[I"] ++ wsX00)
def wsX0_countMoved : List Cond := .code yX0_countMoved cX0_countMoved 4 (some .int) :: ([.fieldLink RX0 26 "StreetIndex$Street" "wordCount" "I", .fieldLink RX0 9 "StreetIndex$Street" "words" "[I"] ++ wsX00)
def wsX1_canGoTo : List Cond := .code yX1_canGoTo cX1_canGoTo 7 (some .boolean) :: ([.fieldLink RX1 21 "StreetIndex$Track" "length" "I", .fieldLink RX1 9 "StreetIndex$Track" "path" "[I", .methodLink RX1 25 Lib.Math.abs.name, .static Lib.Math.abs.name, .initialized "java/lang/Math", .code Lib.Math.abs.name Lib.Math.abs.code 1 (some .int)] ++ wsX10)
def wsX4_squareOf : List Cond := .code yX4_squareOf cX4_squareOf 2 (some .int) :: ([])
def wsX1_addSquare : List Cond := .code yX1_addSquare cX1_addSquare 3 none :: ([.fieldLink RX1 9 "StreetIndex$Track" "path" "[I", .fieldLink RX1 21 "StreetIndex$Track" "length" "I", .fieldLink RX1 18 "StreetIndex$Track" "rows" "[I", .static yX4_squareOf, .initialized RX4, .code yX4_squareOf cX4_squareOf 2 (some .int)] ++ wsX10)
def wsX4_sign : List Cond := .code yX4_sign cX4_sign 1 (some .int) :: ([])
def wsX4_apart : List Cond := .code yX4_apart cX4_apart 3 (some .int) :: ([.methodLink RX4 168 Lib.Math.abs.name, .static Lib.Math.abs.name, .initialized "java/lang/Math", .code Lib.Math.abs.name Lib.Math.abs.code 1 (some .int), .methodLink RX4 173 Lib.Math.max.name, .static Lib.Math.max.name, .code Lib.Math.max.name Lib.Math.max.code 2 (some .int)])
def wsX1_goStraight : List Cond := .code yX1_goStraight cX1_goStraight 10 none :: ([.static yX4_sign, .initialized RX4, .code yX4_sign cX4_sign 1 (some .int), .static yX4_apart, .code yX4_apart cX4_apart 3 (some .int), .methodLink RX4 168 Lib.Math.abs.name, .static Lib.Math.abs.name, .initialized "java/lang/Math", .code Lib.Math.abs.name Lib.Math.abs.code 1 (some .int), .methodLink RX4 173 Lib.Math.max.name, .static Lib.Math.max.name, .code Lib.Math.max.name Lib.Math.max.code 2 (some .int), .methodLink RX1 31 yX1_addSquare, .instanceMethod yX1_addSquare, .selects RX1 yX1_addSquare yX1_addSquare, .initialized RX1, .code yX1_addSquare cX1_addSquare 3 none, .fieldLink RX1 9 "StreetIndex$Track" "path" "[I", .fieldLink RX1 21 "StreetIndex$Track" "length" "I", .fieldLink RX1 18 "StreetIndex$Track" "rows" "[I", .static yX4_squareOf, .code yX4_squareOf cX4_squareOf 2 (some .int)] ++ wsX10)
def wsX1_goTo_r1 : List Cond := [Cond.fieldLink RX1 21 "StreetIndex$Track" "length" "I", Cond.fieldLink RX1 9 "StreetIndex$Track" "path" "[I", Cond.fieldLink RX1 15 "StreetIndex$Track" "lengths" "[I", Cond.fieldLink RX1 39 "StreetIndex$Track" "points" "I", Cond.methodLink RX1 31 yX1_addSquare, Cond.instanceMethod yX1_addSquare, Cond.selects RX1 yX1_addSquare yX1_addSquare, Cond.initialized RX1, Cond.code yX1_addSquare cX1_addSquare 3 none, Cond.fieldLink RX1 18 "StreetIndex$Track" "rows" "[I", Cond.static yX4_squareOf, Cond.initialized RX4, Cond.code yX4_squareOf cX4_squareOf 2 (some .int), Cond.methodLink RX1 35 yX1_goStraight, Cond.instanceMethod yX1_goStraight, Cond.selects RX1 yX1_goStraight yX1_goStraight, Cond.code yX1_goStraight cX1_goStraight 10 none, Cond.static yX4_sign, Cond.code yX4_sign cX4_sign 1 (some .int), Cond.static yX4_apart, Cond.code yX4_apart cX4_apart 3 (some .int), Cond.methodLink RX4 168 Lib.Math.abs.name, Cond.static Lib.Math.abs.name, Cond.initialized "java/lang/Math"]
def wsX1_goTo_r2 : List Cond := [Cond.code Lib.Math.abs.name Lib.Math.abs.code 1 (some .int), Cond.methodLink RX4 173 Lib.Math.max.name, Cond.static Lib.Math.max.name, Cond.code Lib.Math.max.name Lib.Math.max.code 2 (some .int)]
def wsX1_goTo : List Cond := .code yX1_goTo cX1_goTo 3 none :: ((wsX1_goTo_r1 ++ wsX1_goTo_r2) ++ wsX10)
def wsJ7_fill_53178 : List Cond := .code yJ7_fill_53178 cJ7_fill_53178 4 none :: ([])
def wsX1_goBack : List Cond := .code yX1_goBack cX1_goBack 2 none :: ([.fieldLink RX1 39 "StreetIndex$Track" "points" "I", .fieldLink RX1 15 "StreetIndex$Track" "lengths" "[I", .fieldLink RX1 21 "StreetIndex$Track" "length" "I", .fieldLink RX1 18 "StreetIndex$Track" "rows" "[I", .fieldLink RX1 9 "StreetIndex$Track" "path" "[I", .methodLink RX1 53 yJ7_fill_53178, .static yJ7_fill_53178, .initialized RJ7, .code yJ7_fill_53178 cJ7_fill_53178 4 none] ++ wsX10)
def wsX1_covers : List Cond := .code yX1_covers cX1_covers 3 (some .boolean) :: ([.fieldLink RX1 18 "StreetIndex$Track" "rows" "[I"] ++ wsX10)
def wsX1_comesTo : List Cond := .code yX1_comesTo cX1_comesTo 3 (some .boolean) :: ([.fieldLink RX1 21 "StreetIndex$Track" "length" "I", .fieldLink RX1 9 "StreetIndex$Track" "path" "[I"] ++ wsX10)
def wsJ6_bitCount_0f7a4 : List Cond := .code yJ6_bitCount_0f7a4 cJ6_bitCount_0f7a4 1 (some .int) :: ([.constant RJ6 265 (1431655765), .constant RJ6 266 (858993459), .constant RJ6 267 (252645135)])
def wsX1_countSquares : List Cond := .code yX1_countSquares cX1_countSquares 3 (some .int) :: ([.fieldLink RX1 18 "StreetIndex$Track" "rows" "[I", .methodLink RX1 59 yJ6_bitCount_0f7a4, .static yJ6_bitCount_0f7a4, .initialized RJ6, .code yJ6_bitCount_0f7a4 cJ6_bitCount_0f7a4 1 (some .int), .constant RJ6 265 (1431655765), .constant RJ6 266 (858993459), .constant RJ6 267 (252645135)] ++ wsX10)
def wsX1_countRuns : List Cond := .code yX1_countRuns cX1_countRuns 3 (some .int) :: ([.fieldLink RX1 18 "StreetIndex$Track" "rows" "[I", .methodLink RX1 59 yJ6_bitCount_0f7a4, .static yJ6_bitCount_0f7a4, .initialized RJ6, .code yJ6_bitCount_0f7a4 cJ6_bitCount_0f7a4 1 (some .int), .constant RJ6 265 (1431655765), .constant RJ6 266 (858993459), .constant RJ6 267 (252645135)] ++ wsX10)
def wsX1_beginsRun : List Cond := .code yX1_beginsRun cX1_beginsRun 3 (some .boolean) :: ([.methodLink RX1 64 yX1_covers, .instanceMethod yX1_covers, .selects RX1 yX1_covers yX1_covers, .initialized RX1, .code yX1_covers cX1_covers 3 (some .boolean), .fieldLink RX1 18 "StreetIndex$Track" "rows" "[I"] ++ wsX10)
def wsX1_endOfRun : List Cond := .code yX1_endOfRun cX1_endOfRun 4 (some .int) :: ([.methodLink RX1 64 yX1_covers, .instanceMethod yX1_covers, .selects RX1 yX1_covers yX1_covers, .initialized RX1, .code yX1_covers cX1_covers 3 (some .boolean), .fieldLink RX1 18 "StreetIndex$Track" "rows" "[I"] ++ wsX10)
def wsX1_nearestTo : List Cond := .code yX1_nearestTo cX1_nearestTo 6 (some .int) :: ([.methodLink RX1 64 yX1_covers, .instanceMethod yX1_covers, .selects RX1 yX1_covers yX1_covers, .initialized RX1, .code yX1_covers cX1_covers 3 (some .boolean), .fieldLink RX1 18 "StreetIndex$Track" "rows" "[I", .static yX4_apart, .initialized RX4, .code yX4_apart cX4_apart 3 (some .int), .methodLink RX4 168 Lib.Math.abs.name, .static Lib.Math.abs.name, .initialized "java/lang/Math", .code Lib.Math.abs.name Lib.Math.abs.code 1 (some .int), .methodLink RX4 173 Lib.Math.max.name, .static Lib.Math.max.name, .code Lib.Math.max.name Lib.Math.max.code 2 (some .int)] ++ wsX10)
def wsX2_init : List Cond := .code yX2_init cX2_init 1 none :: ([.methodLink RX2 3 objectInit, .instanceMethod objectInit, .code objectInit ⟨#[0xb1]⟩ 1 none, .arrayClass .int, .fieldLink RX2 9 "StreetIndex$Walks" "exits" "[I", .fieldLink RX2 15 "StreetIndex$Walks" "steps" "[I", .fieldLink RX2 18 "StreetIndex$Walks" "reached" "[I"] ++ wsX20)
def wsX2_stepsOf : List Cond := .code yX2_stepsOf cX2_stepsOf 2 (some .int) :: ([.fieldLink RX2 15 "StreetIndex$Walks" "steps" "[I"] ++ wsX20)
def wsX2_addExits : List Cond := .code yX2_addExits cX2_addExits 6 none :: ([.fieldLink RX2 9 "StreetIndex$Walks" "exits" "[I"] ++ wsX10 ++ wsX20)
def wsX2_findExits : List Cond := .code yX2_findExits cX2_findExits 4 none :: ([.fieldLink RX2 9 "StreetIndex$Walks" "exits" "[I", .methodLink RX2 25 yJ7_fill_53178, .static yJ7_fill_53178, .initialized RJ7, .code yJ7_fill_53178 cJ7_fill_53178 4 none, .methodLink RX2 49 yX2_addExits, .instanceMethod yX2_addExits, .selects RX2 yX2_addExits yX2_addExits, .initialized RX2, .code yX2_addExits cX2_addExits 6 none] ++ wsX20 ++ wsX00 ++ wsX10)
def wsX2_isNew : List Cond := .code yX2_isNew cX2_isNew 2 (some .boolean) :: ([.fieldLink RX2 15 "StreetIndex$Walks" "steps" "[I"] ++ wsX20)
def wsX2_stepFrom : List Cond := .code yX2_stepFrom cX2_stepFrom 6 (some .int) :: ([.fieldLink RX2 9 "StreetIndex$Walks" "exits" "[I", .fieldLink RX2 15 "StreetIndex$Walks" "steps" "[I", .fieldLink RX2 18 "StreetIndex$Walks" "reached" "[I", .methodLink RX2 35 yX2_isNew, .instanceMethod yX2_isNew, .selects RX2 yX2_isNew yX2_isNew, .initialized RX2, .code yX2_isNew cX2_isNew 2 (some .boolean)] ++ wsX20)
def wsX2_spread : List Cond := .code yX2_spread cX2_spread 6 (some .int) :: ([.fieldLink RX2 15 "StreetIndex$Walks" "steps" "[I", .fieldLink RX2 18 "StreetIndex$Walks" "reached" "[I", .methodLink RX2 21 yX2_findExits, .instanceMethod yX2_findExits, .selects RX2 yX2_findExits yX2_findExits, .initialized RX2, .code yX2_findExits cX2_findExits 4 none, .fieldLink RX2 9 "StreetIndex$Walks" "exits" "[I", .methodLink RX2 25 yJ7_fill_53178, .static yJ7_fill_53178, .initialized RJ7, .code yJ7_fill_53178 cJ7_fill_53178 4 none, .methodLink RX2 49 yX2_addExits, .instanceMethod yX2_addExits, .selects RX2 yX2_addExits yX2_addExits, .code yX2_addExits cX2_addExits 6 none, .methodLink RX2 31 yX2_stepFrom, .instanceMethod yX2_stepFrom, .selects RX2 yX2_stepFrom yX2_stepFrom, .code yX2_stepFrom cX2_stepFrom 6 (some .int), .methodLink RX2 35 yX2_isNew, .instanceMethod yX2_isNew, .selects RX2 yX2_isNew yX2_isNew, .code yX2_isNew cX2_isNew 2 (some .boolean)] ++ wsX20 ++ wsX00 ++ wsX10)
def wsX2_tell : List Cond := .code yX2_tell cX2_tell 3 (some .boolean) :: ([.fieldLink RX2 15 "StreetIndex$Walks" "steps" "[I"] ++ wsX20)
def wsX2_tellAlong : List Cond := .code yX2_tellAlong cX2_tellAlong 5 (some .boolean) :: ([.methodLink RX2 66 yX2_tell, .instanceMethod yX2_tell, .selects RX2 yX2_tell yX2_tell, .initialized RX2, .code yX2_tell cX2_tell 3 (some .boolean), .fieldLink RX2 15 "StreetIndex$Walks" "steps" "[I"] ++ wsX10 ++ wsX20)
def wsX2_tellBackwards : List Cond := .code yX2_tellBackwards cX2_tellBackwards 7 none :: ([.fieldLink RX2 15 "StreetIndex$Walks" "steps" "[I", .methodLink RX2 25 yJ7_fill_53178, .static yJ7_fill_53178, .initialized RJ7, .code yJ7_fill_53178 cJ7_fill_53178 4 none, .methodLink RX2 62 yX2_tellAlong, .instanceMethod yX2_tellAlong, .selects RX2 yX2_tellAlong yX2_tellAlong, .initialized RX2, .code yX2_tellAlong cX2_tellAlong 5 (some .boolean), .methodLink RX2 66 yX2_tell, .instanceMethod yX2_tell, .selects RX2 yX2_tell yX2_tell, .code yX2_tell cX2_tell 3 (some .boolean)] ++ wsX20 ++ wsX00 ++ wsX10)
def wsX4_init_r1 : List Cond := [Cond.methodLink RX4 3 objectInit, Cond.instanceMethod objectInit, Cond.code objectInit ⟨#[0xb1]⟩ 1 none, Cond.arrayClass .int, Cond.fieldLink RX4 9 "StreetIndex" "kinds" "[I", Cond.classLink RX4 13 RX0, Cond.fieldLink RX4 15 "StreetIndex" "plan" "[LStreetIndex$Street;", Cond.fieldLink RX4 19 "StreetIndex" "oneKey" "[I", Cond.fieldLink RX4 22 "StreetIndex" "otherKey" "[I", Cond.classLink RX4 25 RX2, Cond.instantiable RX2 3, Cond.initialized RX2, Cond.fieldLink RX4 28 "StreetIndex" "walks" "LStreetIndex$Walks;", Cond.instantiable RX0 4, Cond.initialized RX0, Cond.instanceMethod yX2_init, Cond.code yX2_init cX2_init 1 none, Cond.methodLink RX2 3 objectInit, Cond.fieldLink RX2 9 "StreetIndex$Walks" "exits" "[I", Cond.fieldLink RX2 15 "StreetIndex$Walks" "steps" "[I", Cond.fieldLink RX2 18 "StreetIndex$Walks" "reached" "[I", Cond.instanceMethod yX0_init, Cond.code yX0_init cX0_init 1 none, Cond.methodLink RX0 3 objectInit]
def wsX4_init_r2 : List Cond := [Cond.fieldLink RX0 9 "StreetIndex$Street" "words" "[I", Cond.classLink RX0 15 RX1, Cond.instantiable RX1 5, Cond.initialized RX1, Cond.fieldLink RX0 18 "StreetIndex$Street" "track" "LStreetIndex$Track;", Cond.instanceMethod yX1_init, Cond.code yX1_init cX1_init 1 none, Cond.methodLink RX1 3 objectInit, Cond.fieldLink RX1 9 "StreetIndex$Track" "path" "[I", Cond.fieldLink RX1 15 "StreetIndex$Track" "lengths" "[I", Cond.fieldLink RX1 18 "StreetIndex$Track" "rows" "[I"]
def wsX4_init : List Cond := .code yX4_init cX4_init 2 none :: ((wsX4_init_r1 ++ wsX4_init_r2) ++ wsX40 ++ wsX20 ++ wsX00 ++ wsX10)
def wsX4_checkName : List Cond := .code yX4_checkName cX4_checkName 3 none :: ([.classLink RX4 68 "java/lang/IllegalArgumentException", .initialized "java/lang/IllegalArgumentException", .methodLink RX4 165 yX4_wordOf, .static yX4_wordOf, .initialized RX4, .code yX4_wordOf cX4_wordOf 2 (some .int)] ++ (vx_atS RX4 72 "java/lang/IllegalArgumentException" ["java/lang/RuntimeException", "java/lang/Exception"]).filter goodWord)
def wsX4_addStreet : List Cond := .code yX4_addStreet cX4_addStreet 3 (some .int) :: ([.classLink RX4 41 "java/lang/IllegalStateException", .initialized "java/lang/IllegalStateException", .fieldLink RX4 37 "StreetIndex" "streetCount" "I", .fieldLink RX4 15 "StreetIndex" "plan" "[LStreetIndex$Street;", .methodLink RX4 33 yX4_checkName, .static yX4_checkName, .initialized RX4, .code yX4_checkName cX4_checkName 3 none, .classLink RX4 68 "java/lang/IllegalArgumentException", .initialized "java/lang/IllegalArgumentException", .methodLink RX4 165 yX4_wordOf, .static yX4_wordOf, .code yX4_wordOf cX4_wordOf 2 (some .int), .instanceMethod yX0_takeName, .initialized RX0, .selects RX0 yX0_takeName yX0_takeName, .code yX0_takeName cX0_takeName 4 none, .fieldLink RX0 9 "StreetIndex$Street" "words" "[I", .fieldLink RX0 26 "StreetIndex$Street" "wordCount" "I"] ++ wsX40 ++ wsX00 ++ (vx_atS RX4 45 "java/lang/IllegalStateException" ["java/lang/RuntimeException", "java/lang/Exception"]).filter goodWord ++ (vx_atS RX4 72 "java/lang/IllegalArgumentException" ["java/lang/RuntimeException", "java/lang/Exception"]).filter goodWord)
def wsX4_checkStreet : List Cond := .code yX4_checkStreet cX4_checkStreet 2 none :: ([.classLink RX4 93 "java/lang/IndexOutOfBoundsException", .initialized "java/lang/IndexOutOfBoundsException", .fieldLink RX4 37 "StreetIndex" "streetCount" "I"] ++ wsX40 ++ (vx_atS RX4 97 "java/lang/IndexOutOfBoundsException" ["java/lang/RuntimeException", "java/lang/Exception"]).filter goodWord)
def wsX4_checkSquare : List Cond := .code yX4_checkSquare cX4_checkSquare 2 none :: ([.classLink RX4 93 "java/lang/IndexOutOfBoundsException", .initialized "java/lang/IndexOutOfBoundsException"] ++ (vx_atS RX4 97 "java/lang/IndexOutOfBoundsException" ["java/lang/RuntimeException", "java/lang/Exception"]).filter goodWord)
def wsX4_addPoint_r1 : List Cond := [Cond.classLink RX4 68 "java/lang/IllegalArgumentException", Cond.initialized "java/lang/IllegalArgumentException", Cond.classLink RX4 41 "java/lang/IllegalStateException", Cond.initialized "java/lang/IllegalStateException", Cond.fieldLink RX4 15 "StreetIndex" "plan" "[LStreetIndex$Street;", Cond.methodLink RX4 51 yX4_checkStreet, Cond.instanceMethod yX4_checkStreet, Cond.selects RX4 yX4_checkStreet yX4_checkStreet, Cond.initialized RX4, Cond.code yX4_checkStreet cX4_checkStreet 2 none, Cond.classLink RX4 93 "java/lang/IndexOutOfBoundsException", Cond.initialized "java/lang/IndexOutOfBoundsException", Cond.fieldLink RX4 37 "StreetIndex" "streetCount" "I", Cond.methodLink RX4 55 yX4_checkSquare, Cond.static yX4_checkSquare, Cond.code yX4_checkSquare cX4_checkSquare 2 none, Cond.instanceMethod yX1_canGoTo, Cond.initialized RX1, Cond.selects RX1 yX1_canGoTo yX1_canGoTo, Cond.code yX1_canGoTo cX1_canGoTo 7 (some .boolean), Cond.fieldLink RX1 21 "StreetIndex$Track" "length" "I", Cond.fieldLink RX1 9 "StreetIndex$Track" "path" "[I", Cond.methodLink RX1 25 Lib.Math.abs.name, Cond.static Lib.Math.abs.name]
def wsX4_addPoint_r2 : List Cond := [Cond.initialized "java/lang/Math", Cond.code Lib.Math.abs.name Lib.Math.abs.code 1 (some .int), Cond.instanceMethod yX1_goTo, Cond.selects RX1 yX1_goTo yX1_goTo, Cond.code yX1_goTo cX1_goTo 3 none, Cond.fieldLink RX1 15 "StreetIndex$Track" "lengths" "[I", Cond.fieldLink RX1 39 "StreetIndex$Track" "points" "I", Cond.methodLink RX1 31 yX1_addSquare, Cond.instanceMethod yX1_addSquare, Cond.selects RX1 yX1_addSquare yX1_addSquare, Cond.code yX1_addSquare cX1_addSquare 3 none, Cond.fieldLink RX1 18 "StreetIndex$Track" "rows" "[I", Cond.static yX4_squareOf, Cond.code yX4_squareOf cX4_squareOf 2 (some .int), Cond.methodLink RX1 35 yX1_goStraight, Cond.instanceMethod yX1_goStraight, Cond.selects RX1 yX1_goStraight yX1_goStraight, Cond.code yX1_goStraight cX1_goStraight 10 none, Cond.static yX4_sign, Cond.code yX4_sign cX4_sign 1 (some .int), Cond.static yX4_apart, Cond.code yX4_apart cX4_apart 3 (some .int), Cond.methodLink RX4 168 Lib.Math.abs.name, Cond.methodLink RX4 173 Lib.Math.max.name]
def wsX4_addPoint_r3 : List Cond := [Cond.static Lib.Math.max.name, Cond.code Lib.Math.max.name Lib.Math.max.code 2 (some .int)]
def wsX4_addPoint : List Cond := .code yX4_addPoint cX4_addPoint 5 (some .int) :: ((wsX4_addPoint_r1 ++ (wsX4_addPoint_r2 ++ wsX4_addPoint_r3)) ++ wsX40 ++ wsX00 ++ wsX10 ++ (vx_atS RX4 72 "java/lang/IllegalArgumentException" ["java/lang/RuntimeException", "java/lang/Exception"]).filter goodWord ++ (vx_atS RX4 45 "java/lang/IllegalStateException" ["java/lang/RuntimeException", "java/lang/Exception"]).filter goodWord ++ (vx_atS RX4 97 "java/lang/IndexOutOfBoundsException" ["java/lang/RuntimeException", "java/lang/Exception"]).filter goodWord)
def wsX4_dropPoint : List Cond := .code yX4_dropPoint cX4_dropPoint 3 (some .int) :: ([.classLink RX4 41 "java/lang/IllegalStateException", .initialized "java/lang/IllegalStateException", .fieldLink RX4 15 "StreetIndex" "plan" "[LStreetIndex$Street;", .methodLink RX4 51 yX4_checkStreet, .instanceMethod yX4_checkStreet, .selects RX4 yX4_checkStreet yX4_checkStreet, .initialized RX4, .code yX4_checkStreet cX4_checkStreet 2 none, .classLink RX4 93 "java/lang/IndexOutOfBoundsException", .initialized "java/lang/IndexOutOfBoundsException", .fieldLink RX4 37 "StreetIndex" "streetCount" "I", .instanceMethod yX1_goBack, .initialized RX1, .selects RX1 yX1_goBack yX1_goBack, .code yX1_goBack cX1_goBack 2 none, .fieldLink RX1 39 "StreetIndex$Track" "points" "I", .fieldLink RX1 15 "StreetIndex$Track" "lengths" "[I", .fieldLink RX1 21 "StreetIndex$Track" "length" "I", .fieldLink RX1 18 "StreetIndex$Track" "rows" "[I", .fieldLink RX1 9 "StreetIndex$Track" "path" "[I", .methodLink RX1 53 yJ7_fill_53178, .static yJ7_fill_53178, .initialized RJ7, .code yJ7_fill_53178 cJ7_fill_53178 4 none] ++ wsX40 ++ wsX00 ++ wsX10 ++ (vx_atS RX4 45 "java/lang/IllegalStateException" ["java/lang/RuntimeException", "java/lang/Exception"]).filter goodWord ++ (vx_atS RX4 97 "java/lang/IndexOutOfBoundsException" ["java/lang/RuntimeException", "java/lang/Exception"]).filter goodWord)
def wsX4_setOneWay : List Cond := .code yX4_setOneWay cX4_setOneWay 4 (some .boolean) :: ([.fieldLink RX4 15 "StreetIndex" "plan" "[LStreetIndex$Street;", .methodLink RX4 51 yX4_checkStreet, .instanceMethod yX4_checkStreet, .selects RX4 yX4_checkStreet yX4_checkStreet, .initialized RX4, .code yX4_checkStreet cX4_checkStreet 2 none, .classLink RX4 93 "java/lang/IndexOutOfBoundsException", .initialized "java/lang/IndexOutOfBoundsException", .fieldLink RX4 37 "StreetIndex" "streetCount" "I"] ++ wsX40 ++ wsX00 ++ (vx_atS RX4 97 "java/lang/IndexOutOfBoundsException" ["java/lang/RuntimeException", "java/lang/Exception"]).filter goodWord)
def wsX4_rename : List Cond := .code yX4_rename cX4_rename 4 none :: ([.fieldLink RX4 15 "StreetIndex" "plan" "[LStreetIndex$Street;", .methodLink RX4 51 yX4_checkStreet, .instanceMethod yX4_checkStreet, .selects RX4 yX4_checkStreet yX4_checkStreet, .initialized RX4, .code yX4_checkStreet cX4_checkStreet 2 none, .classLink RX4 93 "java/lang/IndexOutOfBoundsException", .initialized "java/lang/IndexOutOfBoundsException", .fieldLink RX4 37 "StreetIndex" "streetCount" "I", .methodLink RX4 33 yX4_checkName, .static yX4_checkName, .code yX4_checkName cX4_checkName 3 none, .classLink RX4 68 "java/lang/IllegalArgumentException", .initialized "java/lang/IllegalArgumentException", .methodLink RX4 165 yX4_wordOf, .static yX4_wordOf, .code yX4_wordOf cX4_wordOf 2 (some .int), .instanceMethod yX0_takeName, .initialized RX0, .selects RX0 yX0_takeName yX0_takeName, .code yX0_takeName cX0_takeName 4 none, .fieldLink RX0 9 "StreetIndex$Street" "words" "[I", .fieldLink RX0 26 "StreetIndex$Street" "wordCount" "I"] ++ wsX40 ++ wsX00 ++ (vx_atS RX4 97 "java/lang/IndexOutOfBoundsException" ["java/lang/RuntimeException", "java/lang/Exception"]).filter goodWord ++ (vx_atS RX4 72 "java/lang/IllegalArgumentException" ["java/lang/RuntimeException", "java/lang/Exception"]).filter goodWord)
def wsX4_setKind : List Cond := .code yX4_setKind cX4_setKind 4 (some .int) :: ([.classLink RX4 93 "java/lang/IndexOutOfBoundsException", .initialized "java/lang/IndexOutOfBoundsException", .classLink RX4 68 "java/lang/IllegalArgumentException", .initialized "java/lang/IllegalArgumentException", .fieldLink RX4 9 "StreetIndex" "kinds" "[I"] ++ wsX40 ++ (vx_atS RX4 97 "java/lang/IndexOutOfBoundsException" ["java/lang/RuntimeException", "java/lang/Exception"]).filter goodWord ++ (vx_atS RX4 72 "java/lang/IllegalArgumentException" ["java/lang/RuntimeException", "java/lang/Exception"]).filter goodWord)
def wsX4_streets : List Cond := .code yX4_streets cX4_streets 1 (some .int) :: ([.fieldLink RX4 37 "StreetIndex" "streetCount" "I"] ++ wsX40)
def wsJ0_coder_7d493 : List Cond := .code yJ0_coder_7d493 cJ0_coder_7d493 1 (some .byte) :: ([.fieldLink RJ0 38 "java/lang/String" "COMPACT_STRINGS" "Z", .fieldLink RJ0 15 "java/lang/String" "coder" "B"])
def wsJ0_length_8abf5 : List Cond := .code yJ0_length_8abf5 cJ0_length_8abf5 1 (some .int) :: ([.fieldLink RJ0 9 "java/lang/String" "value" "[B", .methodLink RJ0 335 yJ0_coder_7d493, .instanceMethod yJ0_coder_7d493, .selects RJ0 yJ0_coder_7d493 yJ0_coder_7d493, .initialized RJ0, .code yJ0_coder_7d493 cJ0_coder_7d493 1 (some .byte), .fieldLink RJ0 38 "java/lang/String" "COMPACT_STRINGS" "Z", .fieldLink RJ0 15 "java/lang/String" "coder" "B"])
def wsJ0_isLatin1_aae02 : List Cond := .code yJ0_isLatin1_aae02 cJ0_isLatin1_aae02 1 (some .boolean) :: ([.fieldLink RJ0 38 "java/lang/String" "COMPACT_STRINGS" "Z", .fieldLink RJ0 15 "java/lang/String" "coder" "B"])
def wsJ3_checkIndex_8e157 : List Cond := .code yJ3_checkIndex_8e157 cJ3_checkIndex_8e157 3 (some .int) :: ([])
def wsJ0_checkIndex_df160 : List Cond := .code yJ0_checkIndex_df160 cJ0_checkIndex_df160 2 none :: ([.fieldLink RJ0 1053 "jdk/internal/util/Preconditions" "SIOOBE_FORMATTER" "Ljava/util/function/BiFunction;", .methodLink RJ0 1059 yJ3_checkIndex_8e157, .static yJ3_checkIndex_8e157, .initialized RJ3, .code yJ3_checkIndex_8e157 cJ3_checkIndex_8e157 3 (some .int)])
def wsJ1_charAt_3b067 : List Cond := .code yJ1_charAt_3b067 cJ1_charAt_3b067 2 (some .char) :: ([.methodLink RJ1 9 yJ0_checkIndex_df160, .static yJ0_checkIndex_df160, .initialized RJ0, .code yJ0_checkIndex_df160 cJ0_checkIndex_df160 2 none, .fieldLink RJ0 1053 "jdk/internal/util/Preconditions" "SIOOBE_FORMATTER" "Ljava/util/function/BiFunction;", .methodLink RJ0 1059 yJ3_checkIndex_8e157, .static yJ3_checkIndex_8e157, .initialized RJ3, .code yJ3_checkIndex_8e157 cJ3_checkIndex_8e157 3 (some .int)])
def wsJ2_length_9d52b : List Cond := .code yJ2_length_9d52b cJ2_length_9d52b 1 (some .int) :: ([])
def wsJ2_checkIndex_2214a : List Cond := .code yJ2_checkIndex_2214a cJ2_checkIndex_2214a 2 none :: ([.methodLink RJ2 48 yJ2_length_9d52b, .static yJ2_length_9d52b, .initialized RJ2, .code yJ2_length_9d52b cJ2_length_9d52b 1 (some .int), .methodLink RJ2 414 yJ0_checkIndex_df160, .static yJ0_checkIndex_df160, .initialized RJ0, .code yJ0_checkIndex_df160 cJ0_checkIndex_df160 2 none, .fieldLink RJ0 1053 "jdk/internal/util/Preconditions" "SIOOBE_FORMATTER" "Ljava/util/function/BiFunction;", .methodLink RJ0 1059 yJ3_checkIndex_8e157, .static yJ3_checkIndex_8e157, .initialized RJ3, .code yJ3_checkIndex_8e157 cJ3_checkIndex_8e157 3 (some .int)])
def wsJ2_getChar_3b067 : List Cond := .code yJ2_getChar_3b067 cJ2_getChar_3b067 2 (some .char) :: ([.fieldLink RJ2 44 "java/lang/StringUTF16" "$assertionsDisabled" "Z", .fieldLink RJ2 59 "java/lang/StringUTF16" "HI_BYTE_SHIFT" "I", .fieldLink RJ2 63 "java/lang/StringUTF16" "LO_BYTE_SHIFT" "I", .methodLink RJ2 48 yJ2_length_9d52b, .static yJ2_length_9d52b, .initialized RJ2, .code yJ2_length_9d52b cJ2_length_9d52b 1 (some .int)])
def wsJ2_charAt_3b067 : List Cond := .code yJ2_charAt_3b067 cJ2_charAt_3b067 2 (some .char) :: ([.methodLink RJ2 67 yJ2_checkIndex_2214a, .static yJ2_checkIndex_2214a, .initialized RJ2, .code yJ2_checkIndex_2214a cJ2_checkIndex_2214a 2 none, .methodLink RJ2 48 yJ2_length_9d52b, .static yJ2_length_9d52b, .code yJ2_length_9d52b cJ2_length_9d52b 1 (some .int), .methodLink RJ2 414 yJ0_checkIndex_df160, .static yJ0_checkIndex_df160, .initialized RJ0, .code yJ0_checkIndex_df160 cJ0_checkIndex_df160 2 none, .fieldLink RJ0 1053 "jdk/internal/util/Preconditions" "SIOOBE_FORMATTER" "Ljava/util/function/BiFunction;", .methodLink RJ0 1059 yJ3_checkIndex_8e157, .static yJ3_checkIndex_8e157, .initialized RJ3, .code yJ3_checkIndex_8e157 cJ3_checkIndex_8e157 3 (some .int), .methodLink RJ2 71 yJ2_getChar_3b067, .static yJ2_getChar_3b067, .code yJ2_getChar_3b067 cJ2_getChar_3b067 2 (some .char), .fieldLink RJ2 44 "java/lang/StringUTF16" "$assertionsDisabled" "Z", .fieldLink RJ2 59 "java/lang/StringUTF16" "HI_BYTE_SHIFT" "I", .fieldLink RJ2 63 "java/lang/StringUTF16" "LO_BYTE_SHIFT" "I"])
def wsJ0_charAt_5068e_r1 : List Cond := [Cond.fieldLink RJ0 9 "java/lang/String" "value" "[B", Cond.methodLink RJ0 492 yJ0_isLatin1_aae02, Cond.instanceMethod yJ0_isLatin1_aae02, Cond.selects RJ0 yJ0_isLatin1_aae02 yJ0_isLatin1_aae02, Cond.initialized RJ0, Cond.code yJ0_isLatin1_aae02 cJ0_isLatin1_aae02 1 (some .boolean), Cond.fieldLink RJ0 38 "java/lang/String" "COMPACT_STRINGS" "Z", Cond.fieldLink RJ0 15 "java/lang/String" "coder" "B", Cond.methodLink RJ0 495 yJ1_charAt_3b067, Cond.static yJ1_charAt_3b067, Cond.initialized RJ1, Cond.code yJ1_charAt_3b067 cJ1_charAt_3b067 2 (some .char), Cond.methodLink RJ1 9 yJ0_checkIndex_df160, Cond.static yJ0_checkIndex_df160, Cond.code yJ0_checkIndex_df160 cJ0_checkIndex_df160 2 none, Cond.fieldLink RJ0 1053 "jdk/internal/util/Preconditions" "SIOOBE_FORMATTER" "Ljava/util/function/BiFunction;", Cond.methodLink RJ0 1059 yJ3_checkIndex_8e157, Cond.static yJ3_checkIndex_8e157, Cond.initialized RJ3, Cond.code yJ3_checkIndex_8e157 cJ3_checkIndex_8e157 3 (some .int), Cond.methodLink RJ0 498 yJ2_charAt_3b067, Cond.static yJ2_charAt_3b067, Cond.initialized RJ2, Cond.code yJ2_charAt_3b067 cJ2_charAt_3b067 2 (some .char)]
def wsJ0_charAt_5068e_r2 : List Cond := [Cond.methodLink RJ2 67 yJ2_checkIndex_2214a, Cond.static yJ2_checkIndex_2214a, Cond.code yJ2_checkIndex_2214a cJ2_checkIndex_2214a 2 none, Cond.methodLink RJ2 48 yJ2_length_9d52b, Cond.static yJ2_length_9d52b, Cond.code yJ2_length_9d52b cJ2_length_9d52b 1 (some .int), Cond.methodLink RJ2 414 yJ0_checkIndex_df160, Cond.methodLink RJ2 71 yJ2_getChar_3b067, Cond.static yJ2_getChar_3b067, Cond.code yJ2_getChar_3b067 cJ2_getChar_3b067 2 (some .char), Cond.fieldLink RJ2 44 "java/lang/StringUTF16" "$assertionsDisabled" "Z", Cond.fieldLink RJ2 59 "java/lang/StringUTF16" "HI_BYTE_SHIFT" "I", Cond.fieldLink RJ2 63 "java/lang/StringUTF16" "LO_BYTE_SHIFT" "I"]
def wsJ0_charAt_5068e : List Cond := .code yJ0_charAt_5068e cJ0_charAt_5068e 2 (some .char) :: ((wsJ0_charAt_5068e_r1 ++ wsJ0_charAt_5068e_r2))
def wsX4_lettersOrder_r1 : List Cond := [Cond.methodLink RX4 200 Lib.Math.min.name, Cond.static Lib.Math.min.name, Cond.initialized "java/lang/Math", Cond.code Lib.Math.min.name Lib.Math.min.code 2 (some .int), Cond.methodLink RX4 217 yJ0_length_8abf5, Cond.instanceMethod yJ0_length_8abf5, Cond.selects RJ0 yJ0_length_8abf5 yJ0_length_8abf5, Cond.initialized RJ0, Cond.code yJ0_length_8abf5 cJ0_length_8abf5 1 (some .int), Cond.fieldLink RJ0 9 "java/lang/String" "value" "[B", Cond.methodLink RJ0 335 yJ0_coder_7d493, Cond.instanceMethod yJ0_coder_7d493, Cond.selects RJ0 yJ0_coder_7d493 yJ0_coder_7d493, Cond.code yJ0_coder_7d493 cJ0_coder_7d493 1 (some .byte), Cond.fieldLink RJ0 38 "java/lang/String" "COMPACT_STRINGS" "Z", Cond.fieldLink RJ0 15 "java/lang/String" "coder" "B", Cond.methodLink RX4 220 yJ0_charAt_5068e, Cond.instanceMethod yJ0_charAt_5068e, Cond.selects RJ0 yJ0_charAt_5068e yJ0_charAt_5068e, Cond.code yJ0_charAt_5068e cJ0_charAt_5068e 2 (some .char), Cond.methodLink RJ0 492 yJ0_isLatin1_aae02, Cond.instanceMethod yJ0_isLatin1_aae02, Cond.selects RJ0 yJ0_isLatin1_aae02 yJ0_isLatin1_aae02, Cond.code yJ0_isLatin1_aae02 cJ0_isLatin1_aae02 1 (some .boolean)]
def wsX4_lettersOrder_r2 : List Cond := [Cond.methodLink RJ0 495 yJ1_charAt_3b067, Cond.static yJ1_charAt_3b067, Cond.initialized RJ1, Cond.code yJ1_charAt_3b067 cJ1_charAt_3b067 2 (some .char), Cond.methodLink RJ1 9 yJ0_checkIndex_df160, Cond.static yJ0_checkIndex_df160, Cond.code yJ0_checkIndex_df160 cJ0_checkIndex_df160 2 none, Cond.fieldLink RJ0 1053 "jdk/internal/util/Preconditions" "SIOOBE_FORMATTER" "Ljava/util/function/BiFunction;", Cond.methodLink RJ0 1059 yJ3_checkIndex_8e157, Cond.static yJ3_checkIndex_8e157, Cond.initialized RJ3, Cond.code yJ3_checkIndex_8e157 cJ3_checkIndex_8e157 3 (some .int), Cond.methodLink RJ0 498 yJ2_charAt_3b067, Cond.static yJ2_charAt_3b067, Cond.initialized RJ2, Cond.code yJ2_charAt_3b067 cJ2_charAt_3b067 2 (some .char), Cond.methodLink RJ2 67 yJ2_checkIndex_2214a, Cond.static yJ2_checkIndex_2214a, Cond.code yJ2_checkIndex_2214a cJ2_checkIndex_2214a 2 none, Cond.methodLink RJ2 48 yJ2_length_9d52b, Cond.static yJ2_length_9d52b, Cond.code yJ2_length_9d52b cJ2_length_9d52b 1 (some .int), Cond.methodLink RJ2 414 yJ0_checkIndex_df160, Cond.methodLink RJ2 71 yJ2_getChar_3b067]
def wsX4_lettersOrder_r3 : List Cond := [Cond.static yJ2_getChar_3b067, Cond.code yJ2_getChar_3b067 cJ2_getChar_3b067 2 (some .char), Cond.fieldLink RJ2 44 "java/lang/StringUTF16" "$assertionsDisabled" "Z", Cond.fieldLink RJ2 59 "java/lang/StringUTF16" "HI_BYTE_SHIFT" "I", Cond.fieldLink RJ2 63 "java/lang/StringUTF16" "LO_BYTE_SHIFT" "I", Cond.methodLink RX4 183 yX4_sign, Cond.static yX4_sign, Cond.initialized RX4, Cond.code yX4_sign cX4_sign 1 (some .int)]
def wsX4_lettersOrder : List Cond := .code yX4_lettersOrder cX4_lettersOrder 4 (some .int) :: ((wsX4_lettersOrder_r1 ++ (wsX4_lettersOrder_r2 ++ wsX4_lettersOrder_r3)))
def wsX4_wordsOrder_r1 : List Cond := [Cond.methodLink RX4 200 Lib.Math.min.name, Cond.static Lib.Math.min.name, Cond.initialized "java/lang/Math", Cond.code Lib.Math.min.name Lib.Math.min.code 2 (some .int), Cond.methodLink RX4 213 yX4_lettersOrder, Cond.static yX4_lettersOrder, Cond.initialized RX4, Cond.code yX4_lettersOrder cX4_lettersOrder 4 (some .int), Cond.methodLink RX4 217 yJ0_length_8abf5, Cond.instanceMethod yJ0_length_8abf5, Cond.selects RJ0 yJ0_length_8abf5 yJ0_length_8abf5, Cond.initialized RJ0, Cond.code yJ0_length_8abf5 cJ0_length_8abf5 1 (some .int), Cond.fieldLink RJ0 9 "java/lang/String" "value" "[B", Cond.methodLink RJ0 335 yJ0_coder_7d493, Cond.instanceMethod yJ0_coder_7d493, Cond.selects RJ0 yJ0_coder_7d493 yJ0_coder_7d493, Cond.code yJ0_coder_7d493 cJ0_coder_7d493 1 (some .byte), Cond.fieldLink RJ0 38 "java/lang/String" "COMPACT_STRINGS" "Z", Cond.fieldLink RJ0 15 "java/lang/String" "coder" "B", Cond.methodLink RX4 220 yJ0_charAt_5068e, Cond.instanceMethod yJ0_charAt_5068e, Cond.selects RJ0 yJ0_charAt_5068e yJ0_charAt_5068e, Cond.code yJ0_charAt_5068e cJ0_charAt_5068e 2 (some .char)]
def wsX4_wordsOrder_r2 : List Cond := [Cond.methodLink RJ0 492 yJ0_isLatin1_aae02, Cond.instanceMethod yJ0_isLatin1_aae02, Cond.selects RJ0 yJ0_isLatin1_aae02 yJ0_isLatin1_aae02, Cond.code yJ0_isLatin1_aae02 cJ0_isLatin1_aae02 1 (some .boolean), Cond.methodLink RJ0 495 yJ1_charAt_3b067, Cond.static yJ1_charAt_3b067, Cond.initialized RJ1, Cond.code yJ1_charAt_3b067 cJ1_charAt_3b067 2 (some .char), Cond.methodLink RJ1 9 yJ0_checkIndex_df160, Cond.static yJ0_checkIndex_df160, Cond.code yJ0_checkIndex_df160 cJ0_checkIndex_df160 2 none, Cond.fieldLink RJ0 1053 "jdk/internal/util/Preconditions" "SIOOBE_FORMATTER" "Ljava/util/function/BiFunction;", Cond.methodLink RJ0 1059 yJ3_checkIndex_8e157, Cond.static yJ3_checkIndex_8e157, Cond.initialized RJ3, Cond.code yJ3_checkIndex_8e157 cJ3_checkIndex_8e157 3 (some .int), Cond.methodLink RJ0 498 yJ2_charAt_3b067, Cond.static yJ2_charAt_3b067, Cond.initialized RJ2, Cond.code yJ2_charAt_3b067 cJ2_charAt_3b067 2 (some .char), Cond.methodLink RJ2 67 yJ2_checkIndex_2214a, Cond.static yJ2_checkIndex_2214a, Cond.code yJ2_checkIndex_2214a cJ2_checkIndex_2214a 2 none, Cond.methodLink RJ2 48 yJ2_length_9d52b]
def wsX4_wordsOrder_r3 : List Cond := [Cond.static yJ2_length_9d52b, Cond.code yJ2_length_9d52b cJ2_length_9d52b 1 (some .int), Cond.methodLink RJ2 414 yJ0_checkIndex_df160, Cond.methodLink RJ2 71 yJ2_getChar_3b067, Cond.static yJ2_getChar_3b067, Cond.code yJ2_getChar_3b067 cJ2_getChar_3b067 2 (some .char), Cond.fieldLink RJ2 44 "java/lang/StringUTF16" "$assertionsDisabled" "Z", Cond.fieldLink RJ2 59 "java/lang/StringUTF16" "HI_BYTE_SHIFT" "I", Cond.fieldLink RJ2 63 "java/lang/StringUTF16" "LO_BYTE_SHIFT" "I", Cond.methodLink RX4 183 yX4_sign, Cond.static yX4_sign, Cond.code yX4_sign cX4_sign 1 (some .int)]
def wsX4_wordsOrder : List Cond := .code yX4_wordsOrder cX4_wordsOrder 7 (some .int) :: ((wsX4_wordsOrder_r1 ++ (wsX4_wordsOrder_r2 ++ wsX4_wordsOrder_r3)))
def wsX4_keyOrder_r1 : List Cond := [Cond.fieldLink RX4 15 "StreetIndex" "plan" "[LStreetIndex$Street;", Cond.fieldLink RX4 9 "StreetIndex" "kinds" "[I", Cond.fieldLink RX4 19 "StreetIndex" "oneKey" "[I", Cond.fieldLink RX4 22 "StreetIndex" "otherKey" "[I", Cond.instanceMethod yX0_putKey, Cond.initialized RX0, Cond.selects RX0 yX0_putKey yX0_putKey, Cond.code yX0_putKey cX0_putKey 5 (some .int), Cond.methodLink RX0 30 yX0_putWordsOf, Cond.instanceMethod yX0_putWordsOf, Cond.selects RX0 yX0_putWordsOf yX0_putWordsOf, Cond.code yX0_putWordsOf cX0_putWordsOf 7 (some .int), Cond.fieldLink RX0 26 "StreetIndex$Street" "wordCount" "I", Cond.fieldLink RX0 9 "StreetIndex$Street" "words" "[I", Cond.methodLink RX4 190 yX4_wordsOrder, Cond.static yX4_wordsOrder, Cond.initialized RX4, Cond.code yX4_wordsOrder cX4_wordsOrder 7 (some .int), Cond.methodLink RX4 200 Lib.Math.min.name, Cond.static Lib.Math.min.name, Cond.initialized "java/lang/Math", Cond.code Lib.Math.min.name Lib.Math.min.code 2 (some .int), Cond.methodLink RX4 213 yX4_lettersOrder, Cond.static yX4_lettersOrder]
def wsX4_keyOrder_r2 : List Cond := [Cond.code yX4_lettersOrder cX4_lettersOrder 4 (some .int), Cond.methodLink RX4 217 yJ0_length_8abf5, Cond.instanceMethod yJ0_length_8abf5, Cond.selects RJ0 yJ0_length_8abf5 yJ0_length_8abf5, Cond.initialized RJ0, Cond.code yJ0_length_8abf5 cJ0_length_8abf5 1 (some .int), Cond.fieldLink RJ0 9 "java/lang/String" "value" "[B", Cond.methodLink RJ0 335 yJ0_coder_7d493, Cond.instanceMethod yJ0_coder_7d493, Cond.selects RJ0 yJ0_coder_7d493 yJ0_coder_7d493, Cond.code yJ0_coder_7d493 cJ0_coder_7d493 1 (some .byte), Cond.fieldLink RJ0 38 "java/lang/String" "COMPACT_STRINGS" "Z", Cond.fieldLink RJ0 15 "java/lang/String" "coder" "B", Cond.methodLink RX4 220 yJ0_charAt_5068e, Cond.instanceMethod yJ0_charAt_5068e, Cond.selects RJ0 yJ0_charAt_5068e yJ0_charAt_5068e, Cond.code yJ0_charAt_5068e cJ0_charAt_5068e 2 (some .char), Cond.methodLink RJ0 492 yJ0_isLatin1_aae02, Cond.instanceMethod yJ0_isLatin1_aae02, Cond.selects RJ0 yJ0_isLatin1_aae02 yJ0_isLatin1_aae02, Cond.code yJ0_isLatin1_aae02 cJ0_isLatin1_aae02 1 (some .boolean), Cond.methodLink RJ0 495 yJ1_charAt_3b067, Cond.static yJ1_charAt_3b067, Cond.initialized RJ1]
def wsX4_keyOrder_r3 : List Cond := [Cond.code yJ1_charAt_3b067 cJ1_charAt_3b067 2 (some .char), Cond.methodLink RJ1 9 yJ0_checkIndex_df160, Cond.static yJ0_checkIndex_df160, Cond.code yJ0_checkIndex_df160 cJ0_checkIndex_df160 2 none, Cond.fieldLink RJ0 1053 "jdk/internal/util/Preconditions" "SIOOBE_FORMATTER" "Ljava/util/function/BiFunction;", Cond.methodLink RJ0 1059 yJ3_checkIndex_8e157, Cond.static yJ3_checkIndex_8e157, Cond.initialized RJ3, Cond.code yJ3_checkIndex_8e157 cJ3_checkIndex_8e157 3 (some .int), Cond.methodLink RJ0 498 yJ2_charAt_3b067, Cond.static yJ2_charAt_3b067, Cond.initialized RJ2, Cond.code yJ2_charAt_3b067 cJ2_charAt_3b067 2 (some .char), Cond.methodLink RJ2 67 yJ2_checkIndex_2214a, Cond.static yJ2_checkIndex_2214a, Cond.code yJ2_checkIndex_2214a cJ2_checkIndex_2214a 2 none, Cond.methodLink RJ2 48 yJ2_length_9d52b, Cond.static yJ2_length_9d52b, Cond.code yJ2_length_9d52b cJ2_length_9d52b 1 (some .int), Cond.methodLink RJ2 414 yJ0_checkIndex_df160, Cond.methodLink RJ2 71 yJ2_getChar_3b067, Cond.static yJ2_getChar_3b067, Cond.code yJ2_getChar_3b067 cJ2_getChar_3b067 2 (some .char), Cond.fieldLink RJ2 44 "java/lang/StringUTF16" "$assertionsDisabled" "Z"]
def wsX4_keyOrder_r4 : List Cond := [Cond.fieldLink RJ2 59 "java/lang/StringUTF16" "HI_BYTE_SHIFT" "I", Cond.fieldLink RJ2 63 "java/lang/StringUTF16" "LO_BYTE_SHIFT" "I", Cond.methodLink RX4 183 yX4_sign, Cond.static yX4_sign, Cond.code yX4_sign cX4_sign 1 (some .int)]
def wsX4_keyOrder : List Cond := .code yX4_keyOrder cX4_keyOrder 5 (some .int) :: ((wsX4_keyOrder_r1 ++ (wsX4_keyOrder_r2 ++ (wsX4_keyOrder_r3 ++ wsX4_keyOrder_r4))) ++ wsX40 ++ wsX00)
def wsX4_nameOrder_r1 : List Cond := [Cond.methodLink RX4 190 yX4_wordsOrder, Cond.static yX4_wordsOrder, Cond.initialized RX4, Cond.code yX4_wordsOrder cX4_wordsOrder 7 (some .int), Cond.methodLink RX4 200 Lib.Math.min.name, Cond.static Lib.Math.min.name, Cond.initialized "java/lang/Math", Cond.code Lib.Math.min.name Lib.Math.min.code 2 (some .int), Cond.methodLink RX4 213 yX4_lettersOrder, Cond.static yX4_lettersOrder, Cond.code yX4_lettersOrder cX4_lettersOrder 4 (some .int), Cond.methodLink RX4 217 yJ0_length_8abf5, Cond.instanceMethod yJ0_length_8abf5, Cond.selects RJ0 yJ0_length_8abf5 yJ0_length_8abf5, Cond.initialized RJ0, Cond.code yJ0_length_8abf5 cJ0_length_8abf5 1 (some .int), Cond.fieldLink RJ0 9 "java/lang/String" "value" "[B", Cond.methodLink RJ0 335 yJ0_coder_7d493, Cond.instanceMethod yJ0_coder_7d493, Cond.selects RJ0 yJ0_coder_7d493 yJ0_coder_7d493, Cond.code yJ0_coder_7d493 cJ0_coder_7d493 1 (some .byte), Cond.fieldLink RJ0 38 "java/lang/String" "COMPACT_STRINGS" "Z", Cond.fieldLink RJ0 15 "java/lang/String" "coder" "B", Cond.methodLink RX4 220 yJ0_charAt_5068e]
def wsX4_nameOrder_r2 : List Cond := [Cond.instanceMethod yJ0_charAt_5068e, Cond.selects RJ0 yJ0_charAt_5068e yJ0_charAt_5068e, Cond.code yJ0_charAt_5068e cJ0_charAt_5068e 2 (some .char), Cond.methodLink RJ0 492 yJ0_isLatin1_aae02, Cond.instanceMethod yJ0_isLatin1_aae02, Cond.selects RJ0 yJ0_isLatin1_aae02 yJ0_isLatin1_aae02, Cond.code yJ0_isLatin1_aae02 cJ0_isLatin1_aae02 1 (some .boolean), Cond.methodLink RJ0 495 yJ1_charAt_3b067, Cond.static yJ1_charAt_3b067, Cond.initialized RJ1, Cond.code yJ1_charAt_3b067 cJ1_charAt_3b067 2 (some .char), Cond.methodLink RJ1 9 yJ0_checkIndex_df160, Cond.static yJ0_checkIndex_df160, Cond.code yJ0_checkIndex_df160 cJ0_checkIndex_df160 2 none, Cond.fieldLink RJ0 1053 "jdk/internal/util/Preconditions" "SIOOBE_FORMATTER" "Ljava/util/function/BiFunction;", Cond.methodLink RJ0 1059 yJ3_checkIndex_8e157, Cond.static yJ3_checkIndex_8e157, Cond.initialized RJ3, Cond.code yJ3_checkIndex_8e157 cJ3_checkIndex_8e157 3 (some .int), Cond.methodLink RJ0 498 yJ2_charAt_3b067, Cond.static yJ2_charAt_3b067, Cond.initialized RJ2, Cond.code yJ2_charAt_3b067 cJ2_charAt_3b067 2 (some .char), Cond.methodLink RJ2 67 yJ2_checkIndex_2214a]
def wsX4_nameOrder_r3 : List Cond := [Cond.static yJ2_checkIndex_2214a, Cond.code yJ2_checkIndex_2214a cJ2_checkIndex_2214a 2 none, Cond.methodLink RJ2 48 yJ2_length_9d52b, Cond.static yJ2_length_9d52b, Cond.code yJ2_length_9d52b cJ2_length_9d52b 1 (some .int), Cond.methodLink RJ2 414 yJ0_checkIndex_df160, Cond.methodLink RJ2 71 yJ2_getChar_3b067, Cond.static yJ2_getChar_3b067, Cond.code yJ2_getChar_3b067 cJ2_getChar_3b067 2 (some .char), Cond.fieldLink RJ2 44 "java/lang/StringUTF16" "$assertionsDisabled" "Z", Cond.fieldLink RJ2 59 "java/lang/StringUTF16" "HI_BYTE_SHIFT" "I", Cond.fieldLink RJ2 63 "java/lang/StringUTF16" "LO_BYTE_SHIFT" "I", Cond.methodLink RX4 183 yX4_sign, Cond.static yX4_sign, Cond.code yX4_sign cX4_sign 1 (some .int)]
def wsX4_nameOrder : List Cond := .code yX4_nameOrder cX4_nameOrder 2 (some .int) :: ((wsX4_nameOrder_r1 ++ (wsX4_nameOrder_r2 ++ wsX4_nameOrder_r3)) ++ wsX00)
def wsX4_indexOrder_r1 : List Cond := [Cond.fieldLink RX4 15 "StreetIndex" "plan" "[LStreetIndex$Street;", Cond.methodLink RX4 106 yX4_keyOrder, Cond.instanceMethod yX4_keyOrder, Cond.selects RX4 yX4_keyOrder yX4_keyOrder, Cond.initialized RX4, Cond.code yX4_keyOrder cX4_keyOrder 5 (some .int), Cond.fieldLink RX4 9 "StreetIndex" "kinds" "[I", Cond.fieldLink RX4 19 "StreetIndex" "oneKey" "[I", Cond.fieldLink RX4 22 "StreetIndex" "otherKey" "[I", Cond.instanceMethod yX0_putKey, Cond.initialized RX0, Cond.selects RX0 yX0_putKey yX0_putKey, Cond.code yX0_putKey cX0_putKey 5 (some .int), Cond.methodLink RX0 30 yX0_putWordsOf, Cond.instanceMethod yX0_putWordsOf, Cond.selects RX0 yX0_putWordsOf yX0_putWordsOf, Cond.code yX0_putWordsOf cX0_putWordsOf 7 (some .int), Cond.fieldLink RX0 26 "StreetIndex$Street" "wordCount" "I", Cond.fieldLink RX0 9 "StreetIndex$Street" "words" "[I", Cond.methodLink RX4 190 yX4_wordsOrder, Cond.static yX4_wordsOrder, Cond.code yX4_wordsOrder cX4_wordsOrder 7 (some .int), Cond.methodLink RX4 200 Lib.Math.min.name, Cond.static Lib.Math.min.name]
def wsX4_indexOrder_r2 : List Cond := [Cond.initialized "java/lang/Math", Cond.code Lib.Math.min.name Lib.Math.min.code 2 (some .int), Cond.methodLink RX4 213 yX4_lettersOrder, Cond.static yX4_lettersOrder, Cond.code yX4_lettersOrder cX4_lettersOrder 4 (some .int), Cond.methodLink RX4 217 yJ0_length_8abf5, Cond.instanceMethod yJ0_length_8abf5, Cond.selects RJ0 yJ0_length_8abf5 yJ0_length_8abf5, Cond.initialized RJ0, Cond.code yJ0_length_8abf5 cJ0_length_8abf5 1 (some .int), Cond.fieldLink RJ0 9 "java/lang/String" "value" "[B", Cond.methodLink RJ0 335 yJ0_coder_7d493, Cond.instanceMethod yJ0_coder_7d493, Cond.selects RJ0 yJ0_coder_7d493 yJ0_coder_7d493, Cond.code yJ0_coder_7d493 cJ0_coder_7d493 1 (some .byte), Cond.fieldLink RJ0 38 "java/lang/String" "COMPACT_STRINGS" "Z", Cond.fieldLink RJ0 15 "java/lang/String" "coder" "B", Cond.methodLink RX4 220 yJ0_charAt_5068e, Cond.instanceMethod yJ0_charAt_5068e, Cond.selects RJ0 yJ0_charAt_5068e yJ0_charAt_5068e, Cond.code yJ0_charAt_5068e cJ0_charAt_5068e 2 (some .char), Cond.methodLink RJ0 492 yJ0_isLatin1_aae02, Cond.instanceMethod yJ0_isLatin1_aae02, Cond.selects RJ0 yJ0_isLatin1_aae02 yJ0_isLatin1_aae02]
def wsX4_indexOrder_r3 : List Cond := [Cond.code yJ0_isLatin1_aae02 cJ0_isLatin1_aae02 1 (some .boolean), Cond.methodLink RJ0 495 yJ1_charAt_3b067, Cond.static yJ1_charAt_3b067, Cond.initialized RJ1, Cond.code yJ1_charAt_3b067 cJ1_charAt_3b067 2 (some .char), Cond.methodLink RJ1 9 yJ0_checkIndex_df160, Cond.static yJ0_checkIndex_df160, Cond.code yJ0_checkIndex_df160 cJ0_checkIndex_df160 2 none, Cond.fieldLink RJ0 1053 "jdk/internal/util/Preconditions" "SIOOBE_FORMATTER" "Ljava/util/function/BiFunction;", Cond.methodLink RJ0 1059 yJ3_checkIndex_8e157, Cond.static yJ3_checkIndex_8e157, Cond.initialized RJ3, Cond.code yJ3_checkIndex_8e157 cJ3_checkIndex_8e157 3 (some .int), Cond.methodLink RJ0 498 yJ2_charAt_3b067, Cond.static yJ2_charAt_3b067, Cond.initialized RJ2, Cond.code yJ2_charAt_3b067 cJ2_charAt_3b067 2 (some .char), Cond.methodLink RJ2 67 yJ2_checkIndex_2214a, Cond.static yJ2_checkIndex_2214a, Cond.code yJ2_checkIndex_2214a cJ2_checkIndex_2214a 2 none, Cond.methodLink RJ2 48 yJ2_length_9d52b, Cond.static yJ2_length_9d52b, Cond.code yJ2_length_9d52b cJ2_length_9d52b 1 (some .int), Cond.methodLink RJ2 414 yJ0_checkIndex_df160]
def wsX4_indexOrder_r4 : List Cond := [Cond.methodLink RJ2 71 yJ2_getChar_3b067, Cond.static yJ2_getChar_3b067, Cond.code yJ2_getChar_3b067 cJ2_getChar_3b067 2 (some .char), Cond.fieldLink RJ2 44 "java/lang/StringUTF16" "$assertionsDisabled" "Z", Cond.fieldLink RJ2 59 "java/lang/StringUTF16" "HI_BYTE_SHIFT" "I", Cond.fieldLink RJ2 63 "java/lang/StringUTF16" "LO_BYTE_SHIFT" "I", Cond.methodLink RX4 183 yX4_sign, Cond.static yX4_sign, Cond.code yX4_sign cX4_sign 1 (some .int), Cond.methodLink RX4 179 yX4_nameOrder, Cond.static yX4_nameOrder, Cond.code yX4_nameOrder cX4_nameOrder 2 (some .int)]
def wsX4_indexOrder : List Cond := .code yX4_indexOrder cX4_indexOrder 4 (some .int) :: ((wsX4_indexOrder_r1 ++ (wsX4_indexOrder_r2 ++ (wsX4_indexOrder_r3 ++ wsX4_indexOrder_r4))) ++ wsX40 ++ wsX00)
def wsX4_countAhead_r1 : List Cond := [Cond.fieldLink RX4 37 "StreetIndex" "streetCount" "I", Cond.methodLink RX4 176 yX4_indexOrder, Cond.instanceMethod yX4_indexOrder, Cond.selects RX4 yX4_indexOrder yX4_indexOrder, Cond.initialized RX4, Cond.code yX4_indexOrder cX4_indexOrder 4 (some .int), Cond.fieldLink RX4 15 "StreetIndex" "plan" "[LStreetIndex$Street;", Cond.methodLink RX4 106 yX4_keyOrder, Cond.instanceMethod yX4_keyOrder, Cond.selects RX4 yX4_keyOrder yX4_keyOrder, Cond.code yX4_keyOrder cX4_keyOrder 5 (some .int), Cond.fieldLink RX4 9 "StreetIndex" "kinds" "[I", Cond.fieldLink RX4 19 "StreetIndex" "oneKey" "[I", Cond.fieldLink RX4 22 "StreetIndex" "otherKey" "[I", Cond.instanceMethod yX0_putKey, Cond.initialized RX0, Cond.selects RX0 yX0_putKey yX0_putKey, Cond.code yX0_putKey cX0_putKey 5 (some .int), Cond.methodLink RX0 30 yX0_putWordsOf, Cond.instanceMethod yX0_putWordsOf, Cond.selects RX0 yX0_putWordsOf yX0_putWordsOf, Cond.code yX0_putWordsOf cX0_putWordsOf 7 (some .int), Cond.fieldLink RX0 26 "StreetIndex$Street" "wordCount" "I", Cond.fieldLink RX0 9 "StreetIndex$Street" "words" "[I"]
def wsX4_countAhead_r2 : List Cond := [Cond.methodLink RX4 190 yX4_wordsOrder, Cond.static yX4_wordsOrder, Cond.code yX4_wordsOrder cX4_wordsOrder 7 (some .int), Cond.methodLink RX4 200 Lib.Math.min.name, Cond.static Lib.Math.min.name, Cond.initialized "java/lang/Math", Cond.code Lib.Math.min.name Lib.Math.min.code 2 (some .int), Cond.methodLink RX4 213 yX4_lettersOrder, Cond.static yX4_lettersOrder, Cond.code yX4_lettersOrder cX4_lettersOrder 4 (some .int), Cond.methodLink RX4 217 yJ0_length_8abf5, Cond.instanceMethod yJ0_length_8abf5, Cond.selects RJ0 yJ0_length_8abf5 yJ0_length_8abf5, Cond.initialized RJ0, Cond.code yJ0_length_8abf5 cJ0_length_8abf5 1 (some .int), Cond.fieldLink RJ0 9 "java/lang/String" "value" "[B", Cond.methodLink RJ0 335 yJ0_coder_7d493, Cond.instanceMethod yJ0_coder_7d493, Cond.selects RJ0 yJ0_coder_7d493 yJ0_coder_7d493, Cond.code yJ0_coder_7d493 cJ0_coder_7d493 1 (some .byte), Cond.fieldLink RJ0 38 "java/lang/String" "COMPACT_STRINGS" "Z", Cond.fieldLink RJ0 15 "java/lang/String" "coder" "B", Cond.methodLink RX4 220 yJ0_charAt_5068e, Cond.instanceMethod yJ0_charAt_5068e]
def wsX4_countAhead_r3 : List Cond := [Cond.selects RJ0 yJ0_charAt_5068e yJ0_charAt_5068e, Cond.code yJ0_charAt_5068e cJ0_charAt_5068e 2 (some .char), Cond.methodLink RJ0 492 yJ0_isLatin1_aae02, Cond.instanceMethod yJ0_isLatin1_aae02, Cond.selects RJ0 yJ0_isLatin1_aae02 yJ0_isLatin1_aae02, Cond.code yJ0_isLatin1_aae02 cJ0_isLatin1_aae02 1 (some .boolean), Cond.methodLink RJ0 495 yJ1_charAt_3b067, Cond.static yJ1_charAt_3b067, Cond.initialized RJ1, Cond.code yJ1_charAt_3b067 cJ1_charAt_3b067 2 (some .char), Cond.methodLink RJ1 9 yJ0_checkIndex_df160, Cond.static yJ0_checkIndex_df160, Cond.code yJ0_checkIndex_df160 cJ0_checkIndex_df160 2 none, Cond.fieldLink RJ0 1053 "jdk/internal/util/Preconditions" "SIOOBE_FORMATTER" "Ljava/util/function/BiFunction;", Cond.methodLink RJ0 1059 yJ3_checkIndex_8e157, Cond.static yJ3_checkIndex_8e157, Cond.initialized RJ3, Cond.code yJ3_checkIndex_8e157 cJ3_checkIndex_8e157 3 (some .int), Cond.methodLink RJ0 498 yJ2_charAt_3b067, Cond.static yJ2_charAt_3b067, Cond.initialized RJ2, Cond.code yJ2_charAt_3b067 cJ2_charAt_3b067 2 (some .char), Cond.methodLink RJ2 67 yJ2_checkIndex_2214a, Cond.static yJ2_checkIndex_2214a]
def wsX4_countAhead_r4 : List Cond := [Cond.code yJ2_checkIndex_2214a cJ2_checkIndex_2214a 2 none, Cond.methodLink RJ2 48 yJ2_length_9d52b, Cond.static yJ2_length_9d52b, Cond.code yJ2_length_9d52b cJ2_length_9d52b 1 (some .int), Cond.methodLink RJ2 414 yJ0_checkIndex_df160, Cond.methodLink RJ2 71 yJ2_getChar_3b067, Cond.static yJ2_getChar_3b067, Cond.code yJ2_getChar_3b067 cJ2_getChar_3b067 2 (some .char), Cond.fieldLink RJ2 44 "java/lang/StringUTF16" "$assertionsDisabled" "Z", Cond.fieldLink RJ2 59 "java/lang/StringUTF16" "HI_BYTE_SHIFT" "I", Cond.fieldLink RJ2 63 "java/lang/StringUTF16" "LO_BYTE_SHIFT" "I", Cond.methodLink RX4 183 yX4_sign, Cond.static yX4_sign, Cond.code yX4_sign cX4_sign 1 (some .int), Cond.methodLink RX4 179 yX4_nameOrder, Cond.static yX4_nameOrder, Cond.code yX4_nameOrder cX4_nameOrder 2 (some .int)]
def wsX4_countAhead : List Cond := .code yX4_countAhead cX4_countAhead 4 (some .int) :: ((wsX4_countAhead_r1 ++ (wsX4_countAhead_r2 ++ (wsX4_countAhead_r3 ++ wsX4_countAhead_r4))) ++ wsX40 ++ wsX00)
def wsX4_streetAt_r1 : List Cond := [Cond.classLink RX4 93 "java/lang/IndexOutOfBoundsException", Cond.initialized "java/lang/IndexOutOfBoundsException", Cond.fieldLink RX4 37 "StreetIndex" "streetCount" "I", Cond.methodLink RX4 102 yX4_countAhead, Cond.instanceMethod yX4_countAhead, Cond.selects RX4 yX4_countAhead yX4_countAhead, Cond.initialized RX4, Cond.code yX4_countAhead cX4_countAhead 4 (some .int), Cond.methodLink RX4 176 yX4_indexOrder, Cond.instanceMethod yX4_indexOrder, Cond.selects RX4 yX4_indexOrder yX4_indexOrder, Cond.code yX4_indexOrder cX4_indexOrder 4 (some .int), Cond.fieldLink RX4 15 "StreetIndex" "plan" "[LStreetIndex$Street;", Cond.methodLink RX4 106 yX4_keyOrder, Cond.instanceMethod yX4_keyOrder, Cond.selects RX4 yX4_keyOrder yX4_keyOrder, Cond.code yX4_keyOrder cX4_keyOrder 5 (some .int), Cond.fieldLink RX4 9 "StreetIndex" "kinds" "[I", Cond.fieldLink RX4 19 "StreetIndex" "oneKey" "[I", Cond.fieldLink RX4 22 "StreetIndex" "otherKey" "[I", Cond.instanceMethod yX0_putKey, Cond.initialized RX0, Cond.selects RX0 yX0_putKey yX0_putKey, Cond.code yX0_putKey cX0_putKey 5 (some .int)]
def wsX4_streetAt_r2 : List Cond := [Cond.methodLink RX0 30 yX0_putWordsOf, Cond.instanceMethod yX0_putWordsOf, Cond.selects RX0 yX0_putWordsOf yX0_putWordsOf, Cond.code yX0_putWordsOf cX0_putWordsOf 7 (some .int), Cond.fieldLink RX0 26 "StreetIndex$Street" "wordCount" "I", Cond.fieldLink RX0 9 "StreetIndex$Street" "words" "[I", Cond.methodLink RX4 190 yX4_wordsOrder, Cond.static yX4_wordsOrder, Cond.code yX4_wordsOrder cX4_wordsOrder 7 (some .int), Cond.methodLink RX4 200 Lib.Math.min.name, Cond.static Lib.Math.min.name, Cond.initialized "java/lang/Math", Cond.code Lib.Math.min.name Lib.Math.min.code 2 (some .int), Cond.methodLink RX4 213 yX4_lettersOrder, Cond.static yX4_lettersOrder, Cond.code yX4_lettersOrder cX4_lettersOrder 4 (some .int), Cond.methodLink RX4 217 yJ0_length_8abf5, Cond.instanceMethod yJ0_length_8abf5, Cond.selects RJ0 yJ0_length_8abf5 yJ0_length_8abf5, Cond.initialized RJ0, Cond.code yJ0_length_8abf5 cJ0_length_8abf5 1 (some .int), Cond.fieldLink RJ0 9 "java/lang/String" "value" "[B", Cond.methodLink RJ0 335 yJ0_coder_7d493, Cond.instanceMethod yJ0_coder_7d493]
def wsX4_streetAt_r3 : List Cond := [Cond.selects RJ0 yJ0_coder_7d493 yJ0_coder_7d493, Cond.code yJ0_coder_7d493 cJ0_coder_7d493 1 (some .byte), Cond.fieldLink RJ0 38 "java/lang/String" "COMPACT_STRINGS" "Z", Cond.fieldLink RJ0 15 "java/lang/String" "coder" "B", Cond.methodLink RX4 220 yJ0_charAt_5068e, Cond.instanceMethod yJ0_charAt_5068e, Cond.selects RJ0 yJ0_charAt_5068e yJ0_charAt_5068e, Cond.code yJ0_charAt_5068e cJ0_charAt_5068e 2 (some .char), Cond.methodLink RJ0 492 yJ0_isLatin1_aae02, Cond.instanceMethod yJ0_isLatin1_aae02, Cond.selects RJ0 yJ0_isLatin1_aae02 yJ0_isLatin1_aae02, Cond.code yJ0_isLatin1_aae02 cJ0_isLatin1_aae02 1 (some .boolean), Cond.methodLink RJ0 495 yJ1_charAt_3b067, Cond.static yJ1_charAt_3b067, Cond.initialized RJ1, Cond.code yJ1_charAt_3b067 cJ1_charAt_3b067 2 (some .char), Cond.methodLink RJ1 9 yJ0_checkIndex_df160, Cond.static yJ0_checkIndex_df160, Cond.code yJ0_checkIndex_df160 cJ0_checkIndex_df160 2 none, Cond.fieldLink RJ0 1053 "jdk/internal/util/Preconditions" "SIOOBE_FORMATTER" "Ljava/util/function/BiFunction;", Cond.methodLink RJ0 1059 yJ3_checkIndex_8e157, Cond.static yJ3_checkIndex_8e157, Cond.initialized RJ3, Cond.code yJ3_checkIndex_8e157 cJ3_checkIndex_8e157 3 (some .int)]
def wsX4_streetAt_r4 : List Cond := [Cond.methodLink RJ0 498 yJ2_charAt_3b067, Cond.static yJ2_charAt_3b067, Cond.initialized RJ2, Cond.code yJ2_charAt_3b067 cJ2_charAt_3b067 2 (some .char), Cond.methodLink RJ2 67 yJ2_checkIndex_2214a, Cond.static yJ2_checkIndex_2214a, Cond.code yJ2_checkIndex_2214a cJ2_checkIndex_2214a 2 none, Cond.methodLink RJ2 48 yJ2_length_9d52b, Cond.static yJ2_length_9d52b, Cond.code yJ2_length_9d52b cJ2_length_9d52b 1 (some .int), Cond.methodLink RJ2 414 yJ0_checkIndex_df160, Cond.methodLink RJ2 71 yJ2_getChar_3b067, Cond.static yJ2_getChar_3b067, Cond.code yJ2_getChar_3b067 cJ2_getChar_3b067 2 (some .char), Cond.fieldLink RJ2 44 "java/lang/StringUTF16" "$assertionsDisabled" "Z", Cond.fieldLink RJ2 59 "java/lang/StringUTF16" "HI_BYTE_SHIFT" "I", Cond.fieldLink RJ2 63 "java/lang/StringUTF16" "LO_BYTE_SHIFT" "I", Cond.methodLink RX4 183 yX4_sign, Cond.static yX4_sign, Cond.code yX4_sign cX4_sign 1 (some .int), Cond.methodLink RX4 179 yX4_nameOrder, Cond.static yX4_nameOrder, Cond.code yX4_nameOrder cX4_nameOrder 2 (some .int)]
def wsX4_streetAt : List Cond := .code yX4_streetAt cX4_streetAt 3 (some .int) :: ((wsX4_streetAt_r1 ++ (wsX4_streetAt_r2 ++ (wsX4_streetAt_r3 ++ wsX4_streetAt_r4))) ++ wsX40 ++ wsX00 ++ (vx_atS RX4 97 "java/lang/IndexOutOfBoundsException" ["java/lang/RuntimeException", "java/lang/Exception"]).filter goodWord)
def wsX4_placeOf_r1 : List Cond := [Cond.methodLink RX4 51 yX4_checkStreet, Cond.instanceMethod yX4_checkStreet, Cond.selects RX4 yX4_checkStreet yX4_checkStreet, Cond.initialized RX4, Cond.code yX4_checkStreet cX4_checkStreet 2 none, Cond.classLink RX4 93 "java/lang/IndexOutOfBoundsException", Cond.initialized "java/lang/IndexOutOfBoundsException", Cond.fieldLink RX4 37 "StreetIndex" "streetCount" "I", Cond.methodLink RX4 102 yX4_countAhead, Cond.instanceMethod yX4_countAhead, Cond.selects RX4 yX4_countAhead yX4_countAhead, Cond.code yX4_countAhead cX4_countAhead 4 (some .int), Cond.methodLink RX4 176 yX4_indexOrder, Cond.instanceMethod yX4_indexOrder, Cond.selects RX4 yX4_indexOrder yX4_indexOrder, Cond.code yX4_indexOrder cX4_indexOrder 4 (some .int), Cond.fieldLink RX4 15 "StreetIndex" "plan" "[LStreetIndex$Street;", Cond.methodLink RX4 106 yX4_keyOrder, Cond.instanceMethod yX4_keyOrder, Cond.selects RX4 yX4_keyOrder yX4_keyOrder, Cond.code yX4_keyOrder cX4_keyOrder 5 (some .int), Cond.fieldLink RX4 9 "StreetIndex" "kinds" "[I", Cond.fieldLink RX4 19 "StreetIndex" "oneKey" "[I", Cond.fieldLink RX4 22 "StreetIndex" "otherKey" "[I"]
def wsX4_placeOf_r2 : List Cond := [Cond.instanceMethod yX0_putKey, Cond.initialized RX0, Cond.selects RX0 yX0_putKey yX0_putKey, Cond.code yX0_putKey cX0_putKey 5 (some .int), Cond.methodLink RX0 30 yX0_putWordsOf, Cond.instanceMethod yX0_putWordsOf, Cond.selects RX0 yX0_putWordsOf yX0_putWordsOf, Cond.code yX0_putWordsOf cX0_putWordsOf 7 (some .int), Cond.fieldLink RX0 26 "StreetIndex$Street" "wordCount" "I", Cond.fieldLink RX0 9 "StreetIndex$Street" "words" "[I", Cond.methodLink RX4 190 yX4_wordsOrder, Cond.static yX4_wordsOrder, Cond.code yX4_wordsOrder cX4_wordsOrder 7 (some .int), Cond.methodLink RX4 200 Lib.Math.min.name, Cond.static Lib.Math.min.name, Cond.initialized "java/lang/Math", Cond.code Lib.Math.min.name Lib.Math.min.code 2 (some .int), Cond.methodLink RX4 213 yX4_lettersOrder, Cond.static yX4_lettersOrder, Cond.code yX4_lettersOrder cX4_lettersOrder 4 (some .int), Cond.methodLink RX4 217 yJ0_length_8abf5, Cond.instanceMethod yJ0_length_8abf5, Cond.selects RJ0 yJ0_length_8abf5 yJ0_length_8abf5, Cond.initialized RJ0]
def wsX4_placeOf_r3 : List Cond := [Cond.code yJ0_length_8abf5 cJ0_length_8abf5 1 (some .int), Cond.fieldLink RJ0 9 "java/lang/String" "value" "[B", Cond.methodLink RJ0 335 yJ0_coder_7d493, Cond.instanceMethod yJ0_coder_7d493, Cond.selects RJ0 yJ0_coder_7d493 yJ0_coder_7d493, Cond.code yJ0_coder_7d493 cJ0_coder_7d493 1 (some .byte), Cond.fieldLink RJ0 38 "java/lang/String" "COMPACT_STRINGS" "Z", Cond.fieldLink RJ0 15 "java/lang/String" "coder" "B", Cond.methodLink RX4 220 yJ0_charAt_5068e, Cond.instanceMethod yJ0_charAt_5068e, Cond.selects RJ0 yJ0_charAt_5068e yJ0_charAt_5068e, Cond.code yJ0_charAt_5068e cJ0_charAt_5068e 2 (some .char), Cond.methodLink RJ0 492 yJ0_isLatin1_aae02, Cond.instanceMethod yJ0_isLatin1_aae02, Cond.selects RJ0 yJ0_isLatin1_aae02 yJ0_isLatin1_aae02, Cond.code yJ0_isLatin1_aae02 cJ0_isLatin1_aae02 1 (some .boolean), Cond.methodLink RJ0 495 yJ1_charAt_3b067, Cond.static yJ1_charAt_3b067, Cond.initialized RJ1, Cond.code yJ1_charAt_3b067 cJ1_charAt_3b067 2 (some .char), Cond.methodLink RJ1 9 yJ0_checkIndex_df160, Cond.static yJ0_checkIndex_df160, Cond.code yJ0_checkIndex_df160 cJ0_checkIndex_df160 2 none, Cond.fieldLink RJ0 1053 "jdk/internal/util/Preconditions" "SIOOBE_FORMATTER" "Ljava/util/function/BiFunction;"]
def wsX4_placeOf_r4 : List Cond := [Cond.methodLink RJ0 1059 yJ3_checkIndex_8e157, Cond.static yJ3_checkIndex_8e157, Cond.initialized RJ3, Cond.code yJ3_checkIndex_8e157 cJ3_checkIndex_8e157 3 (some .int), Cond.methodLink RJ0 498 yJ2_charAt_3b067, Cond.static yJ2_charAt_3b067, Cond.initialized RJ2, Cond.code yJ2_charAt_3b067 cJ2_charAt_3b067 2 (some .char), Cond.methodLink RJ2 67 yJ2_checkIndex_2214a, Cond.static yJ2_checkIndex_2214a, Cond.code yJ2_checkIndex_2214a cJ2_checkIndex_2214a 2 none, Cond.methodLink RJ2 48 yJ2_length_9d52b, Cond.static yJ2_length_9d52b, Cond.code yJ2_length_9d52b cJ2_length_9d52b 1 (some .int), Cond.methodLink RJ2 414 yJ0_checkIndex_df160, Cond.methodLink RJ2 71 yJ2_getChar_3b067, Cond.static yJ2_getChar_3b067, Cond.code yJ2_getChar_3b067 cJ2_getChar_3b067 2 (some .char), Cond.fieldLink RJ2 44 "java/lang/StringUTF16" "$assertionsDisabled" "Z", Cond.fieldLink RJ2 59 "java/lang/StringUTF16" "HI_BYTE_SHIFT" "I", Cond.fieldLink RJ2 63 "java/lang/StringUTF16" "LO_BYTE_SHIFT" "I", Cond.methodLink RX4 183 yX4_sign, Cond.static yX4_sign, Cond.code yX4_sign cX4_sign 1 (some .int)]
def wsX4_placeOf_r5 : List Cond := [Cond.methodLink RX4 179 yX4_nameOrder, Cond.static yX4_nameOrder, Cond.code yX4_nameOrder cX4_nameOrder 2 (some .int)]
def wsX4_placeOf : List Cond := .code yX4_placeOf cX4_placeOf 2 (some .int) :: ((wsX4_placeOf_r1 ++ (wsX4_placeOf_r2 ++ (wsX4_placeOf_r3 ++ (wsX4_placeOf_r4 ++ wsX4_placeOf_r5)))) ++ wsX40 ++ wsX00 ++ (vx_atS RX4 97 "java/lang/IndexOutOfBoundsException" ["java/lang/RuntimeException", "java/lang/Exception"]).filter goodWord)
def wsX4_compareKeys_r1 : List Cond := [Cond.methodLink RX4 51 yX4_checkStreet, Cond.instanceMethod yX4_checkStreet, Cond.selects RX4 yX4_checkStreet yX4_checkStreet, Cond.initialized RX4, Cond.code yX4_checkStreet cX4_checkStreet 2 none, Cond.classLink RX4 93 "java/lang/IndexOutOfBoundsException", Cond.initialized "java/lang/IndexOutOfBoundsException", Cond.fieldLink RX4 37 "StreetIndex" "streetCount" "I", Cond.methodLink RX4 106 yX4_keyOrder, Cond.instanceMethod yX4_keyOrder, Cond.selects RX4 yX4_keyOrder yX4_keyOrder, Cond.code yX4_keyOrder cX4_keyOrder 5 (some .int), Cond.fieldLink RX4 15 "StreetIndex" "plan" "[LStreetIndex$Street;", Cond.fieldLink RX4 9 "StreetIndex" "kinds" "[I", Cond.fieldLink RX4 19 "StreetIndex" "oneKey" "[I", Cond.fieldLink RX4 22 "StreetIndex" "otherKey" "[I", Cond.instanceMethod yX0_putKey, Cond.initialized RX0, Cond.selects RX0 yX0_putKey yX0_putKey, Cond.code yX0_putKey cX0_putKey 5 (some .int), Cond.methodLink RX0 30 yX0_putWordsOf, Cond.instanceMethod yX0_putWordsOf, Cond.selects RX0 yX0_putWordsOf yX0_putWordsOf, Cond.code yX0_putWordsOf cX0_putWordsOf 7 (some .int)]
def wsX4_compareKeys_r2 : List Cond := [Cond.fieldLink RX0 26 "StreetIndex$Street" "wordCount" "I", Cond.fieldLink RX0 9 "StreetIndex$Street" "words" "[I", Cond.methodLink RX4 190 yX4_wordsOrder, Cond.static yX4_wordsOrder, Cond.code yX4_wordsOrder cX4_wordsOrder 7 (some .int), Cond.methodLink RX4 200 Lib.Math.min.name, Cond.static Lib.Math.min.name, Cond.initialized "java/lang/Math", Cond.code Lib.Math.min.name Lib.Math.min.code 2 (some .int), Cond.methodLink RX4 213 yX4_lettersOrder, Cond.static yX4_lettersOrder, Cond.code yX4_lettersOrder cX4_lettersOrder 4 (some .int), Cond.methodLink RX4 217 yJ0_length_8abf5, Cond.instanceMethod yJ0_length_8abf5, Cond.selects RJ0 yJ0_length_8abf5 yJ0_length_8abf5, Cond.initialized RJ0, Cond.code yJ0_length_8abf5 cJ0_length_8abf5 1 (some .int), Cond.fieldLink RJ0 9 "java/lang/String" "value" "[B", Cond.methodLink RJ0 335 yJ0_coder_7d493, Cond.instanceMethod yJ0_coder_7d493, Cond.selects RJ0 yJ0_coder_7d493 yJ0_coder_7d493, Cond.code yJ0_coder_7d493 cJ0_coder_7d493 1 (some .byte), Cond.fieldLink RJ0 38 "java/lang/String" "COMPACT_STRINGS" "Z", Cond.fieldLink RJ0 15 "java/lang/String" "coder" "B"]
def wsX4_compareKeys_r3 : List Cond := [Cond.methodLink RX4 220 yJ0_charAt_5068e, Cond.instanceMethod yJ0_charAt_5068e, Cond.selects RJ0 yJ0_charAt_5068e yJ0_charAt_5068e, Cond.code yJ0_charAt_5068e cJ0_charAt_5068e 2 (some .char), Cond.methodLink RJ0 492 yJ0_isLatin1_aae02, Cond.instanceMethod yJ0_isLatin1_aae02, Cond.selects RJ0 yJ0_isLatin1_aae02 yJ0_isLatin1_aae02, Cond.code yJ0_isLatin1_aae02 cJ0_isLatin1_aae02 1 (some .boolean), Cond.methodLink RJ0 495 yJ1_charAt_3b067, Cond.static yJ1_charAt_3b067, Cond.initialized RJ1, Cond.code yJ1_charAt_3b067 cJ1_charAt_3b067 2 (some .char), Cond.methodLink RJ1 9 yJ0_checkIndex_df160, Cond.static yJ0_checkIndex_df160, Cond.code yJ0_checkIndex_df160 cJ0_checkIndex_df160 2 none, Cond.fieldLink RJ0 1053 "jdk/internal/util/Preconditions" "SIOOBE_FORMATTER" "Ljava/util/function/BiFunction;", Cond.methodLink RJ0 1059 yJ3_checkIndex_8e157, Cond.static yJ3_checkIndex_8e157, Cond.initialized RJ3, Cond.code yJ3_checkIndex_8e157 cJ3_checkIndex_8e157 3 (some .int), Cond.methodLink RJ0 498 yJ2_charAt_3b067, Cond.static yJ2_charAt_3b067, Cond.initialized RJ2, Cond.code yJ2_charAt_3b067 cJ2_charAt_3b067 2 (some .char)]
def wsX4_compareKeys_r4 : List Cond := [Cond.methodLink RJ2 67 yJ2_checkIndex_2214a, Cond.static yJ2_checkIndex_2214a, Cond.code yJ2_checkIndex_2214a cJ2_checkIndex_2214a 2 none, Cond.methodLink RJ2 48 yJ2_length_9d52b, Cond.static yJ2_length_9d52b, Cond.code yJ2_length_9d52b cJ2_length_9d52b 1 (some .int), Cond.methodLink RJ2 414 yJ0_checkIndex_df160, Cond.methodLink RJ2 71 yJ2_getChar_3b067, Cond.static yJ2_getChar_3b067, Cond.code yJ2_getChar_3b067 cJ2_getChar_3b067 2 (some .char), Cond.fieldLink RJ2 44 "java/lang/StringUTF16" "$assertionsDisabled" "Z", Cond.fieldLink RJ2 59 "java/lang/StringUTF16" "HI_BYTE_SHIFT" "I", Cond.fieldLink RJ2 63 "java/lang/StringUTF16" "LO_BYTE_SHIFT" "I", Cond.methodLink RX4 183 yX4_sign, Cond.static yX4_sign, Cond.code yX4_sign cX4_sign 1 (some .int)]
def wsX4_compareKeys : List Cond := .code yX4_compareKeys cX4_compareKeys 3 (some .int) :: ((wsX4_compareKeys_r1 ++ (wsX4_compareKeys_r2 ++ (wsX4_compareKeys_r3 ++ wsX4_compareKeys_r4))) ++ wsX40 ++ wsX00 ++ (vx_atS RX4 97 "java/lang/IndexOutOfBoundsException" ["java/lang/RuntimeException", "java/lang/Exception"]).filter goodWord)
def wsJ2_newBytesLength_0f7a4 : List Cond := .code yJ2_newBytesLength_0f7a4 cJ2_newBytesLength_0f7a4 1 (some .int) :: ([.constant RJ2 20 (1073741823)])
def wsJ2_newBytesFor_77867 : List Cond := .code yJ2_newBytesFor_77867 cJ2_newBytesFor_77867 1 (some (.array .byte)) :: ([.arrayClass .byte, .methodLink RJ2 11 yJ2_newBytesLength_0f7a4, .static yJ2_newBytesLength_0f7a4, .initialized RJ2, .code yJ2_newBytesLength_0f7a4 cJ2_newBytesLength_0f7a4 1 (some .int), .constant RJ2 20 (1073741823)])
def wsJ5_init_d00df : List Cond := .code yJ5_init_d00df cJ5_init_d00df 2 none :: ([.methodLink RJ5 3 objectInit, .instanceMethod objectInit, .code objectInit ⟨#[0xb1]⟩ 1 none, .fieldLink RJ5 18 "java/lang/String" "COMPACT_STRINGS" "Z", .arrayClass .byte, .fieldLink RJ5 15 "java/lang/AbstractStringBuilder" "value" "[B", .fieldLink RJ5 22 "java/lang/AbstractStringBuilder" "coder" "B", .methodLink RJ5 26 yJ2_newBytesFor_77867, .static yJ2_newBytesFor_77867, .initialized RJ2, .code yJ2_newBytesFor_77867 cJ2_newBytesFor_77867 1 (some (.array .byte)), .methodLink RJ2 11 yJ2_newBytesLength_0f7a4, .static yJ2_newBytesLength_0f7a4, .code yJ2_newBytesLength_0f7a4 cJ2_newBytesLength_0f7a4 1 (some .int), .constant RJ2 20 (1073741823)] ++ wsJ40)
def wsJ4_init_da8c8 : List Cond := .code yJ4_init_da8c8 cJ4_init_da8c8 1 none :: ([.methodLink RJ4 1 yJ5_init_d00df, .instanceMethod yJ5_init_d00df, .initialized RJ5, .code yJ5_init_d00df cJ5_init_d00df 2 none, .methodLink RJ5 3 objectInit, .instanceMethod objectInit, .code objectInit ⟨#[0xb1]⟩ 1 none, .fieldLink RJ5 18 "java/lang/String" "COMPACT_STRINGS" "Z", .arrayClass .byte, .fieldLink RJ5 15 "java/lang/AbstractStringBuilder" "value" "[B", .fieldLink RJ5 22 "java/lang/AbstractStringBuilder" "coder" "B", .methodLink RJ5 26 yJ2_newBytesFor_77867, .static yJ2_newBytesFor_77867, .initialized RJ2, .code yJ2_newBytesFor_77867 cJ2_newBytesFor_77867 1 (some (.array .byte)), .methodLink RJ2 11 yJ2_newBytesLength_0f7a4, .static yJ2_newBytesLength_0f7a4, .code yJ2_newBytesLength_0f7a4 cJ2_newBytesLength_0f7a4 1 (some .int), .constant RJ2 20 (1073741823)] ++ wsJ40)
def wsJ8_hugeLength_7cf53 : List Cond := .code yJ8_hugeLength_7cf53 cJ8_hugeLength_7cf53 3 (some .int) :: ([.constant RJ8 200 (2147483639)])
def wsJ8_newLength_cabcc : List Cond := .code yJ8_newLength_cabcc cJ8_newLength_cabcc 4 (some .int) :: ([.methodLink RJ8 194 Lib.Math.max.name, .static Lib.Math.max.name, .initialized "java/lang/Math", .code Lib.Math.max.name Lib.Math.max.code 2 (some .int), .constant RJ8 200 (2147483639), .methodLink RJ8 201 yJ8_hugeLength_7cf53, .static yJ8_hugeLength_7cf53, .initialized RJ8, .code yJ8_hugeLength_7cf53 cJ8_hugeLength_7cf53 3 (some .int)])
def wsJ5_newCapacity_0f7a4 : List Cond := .code yJ5_newCapacity_0f7a4 cJ5_newCapacity_0f7a4 6 (some .int) :: ([.fieldLink RJ5 15 "java/lang/AbstractStringBuilder" "value" "[B", .fieldLink RJ5 22 "java/lang/AbstractStringBuilder" "coder" "B", .constant RJ5 39 (2147483647), .methodLink RJ5 114 yJ8_newLength_cabcc, .static yJ8_newLength_cabcc, .initialized RJ8, .code yJ8_newLength_cabcc cJ8_newLength_cabcc 4 (some .int), .methodLink RJ8 194 Lib.Math.max.name, .static Lib.Math.max.name, .initialized "java/lang/Math", .code Lib.Math.max.name Lib.Math.max.code 2 (some .int), .constant RJ8 200 (2147483639), .methodLink RJ8 201 yJ8_hugeLength_7cf53, .static yJ8_hugeLength_7cf53, .code yJ8_hugeLength_7cf53 cJ8_hugeLength_7cf53 3 (some .int)] ++ wsJ40)
def wsJ7_copyOf_9075b : List Cond := .code yJ7_copyOf_9075b cJ7_copyOf_9075b 3 (some (.array .byte)) :: ([.methodLink RJ7 310 ⟨"[B", "clone", "()Ljava/lang/Object;"⟩, .sameMethod "[B" "java/lang/Object" "clone" "()Ljava/lang/Object;", .native ⟨"java/lang/Object", "clone", "()Ljava/lang/Object;"⟩, .instanceMethod ⟨"java/lang/Object", "clone", "()Ljava/lang/Object;"⟩, .selects "[B" ⟨"[B", "clone", "()Ljava/lang/Object;"⟩ ⟨"java/lang/Object", "clone", "()Ljava/lang/Object;"⟩, .classLink RJ7 311 "[B", .arrayClass .byte, .methodLink RJ7 304 Lib.Math.min.name, .static Lib.Math.min.name, .initialized "java/lang/Math", .code Lib.Math.min.name Lib.Math.min.code 2 (some .int), .methodLink RJ7 150 arraycopyName, .native arraycopyName, .static arraycopyName, .initialized "java/lang/System"])
def wsJ5_ensureCapacityInternal_d00df_r1 : List Cond := [Cond.fieldLink RJ5 15 "java/lang/AbstractStringBuilder" "value" "[B", Cond.fieldLink RJ5 22 "java/lang/AbstractStringBuilder" "coder" "B", Cond.methodLink RJ5 104 ⟨"java/lang/AbstractStringBuilder", "newCapacity", "(I)I"⟩, Cond.sameMethod "java/lang/AbstractStringBuilder" "java/lang/AbstractStringBuilder" "newCapacity" "(I)I", Cond.selects RJ4 ⟨"java/lang/AbstractStringBuilder", "newCapacity", "(I)I"⟩ yJ5_newCapacity_0f7a4, Cond.instanceMethod yJ5_newCapacity_0f7a4, Cond.initialized RJ5, Cond.code yJ5_newCapacity_0f7a4 cJ5_newCapacity_0f7a4 6 (some .int), Cond.constant RJ5 39 (2147483647), Cond.methodLink RJ5 114 yJ8_newLength_cabcc, Cond.static yJ8_newLength_cabcc, Cond.initialized RJ8, Cond.code yJ8_newLength_cabcc cJ8_newLength_cabcc 4 (some .int), Cond.methodLink RJ8 194 Lib.Math.max.name, Cond.static Lib.Math.max.name, Cond.initialized "java/lang/Math", Cond.code Lib.Math.max.name Lib.Math.max.code 2 (some .int), Cond.constant RJ8 200 (2147483639), Cond.methodLink RJ8 201 yJ8_hugeLength_7cf53, Cond.static yJ8_hugeLength_7cf53, Cond.code yJ8_hugeLength_7cf53 cJ8_hugeLength_7cf53 3 (some .int), Cond.methodLink RJ5 108 yJ7_copyOf_9075b, Cond.static yJ7_copyOf_9075b, Cond.initialized RJ7]
def wsJ5_ensureCapacityInternal_d00df_r2 : List Cond := [Cond.code yJ7_copyOf_9075b cJ7_copyOf_9075b 3 (some (.array .byte)), Cond.methodLink RJ7 310 ⟨"[B", "clone", "()Ljava/lang/Object;"⟩, Cond.sameMethod "[B" "java/lang/Object" "clone" "()Ljava/lang/Object;", Cond.native ⟨"java/lang/Object", "clone", "()Ljava/lang/Object;"⟩, Cond.instanceMethod ⟨"java/lang/Object", "clone", "()Ljava/lang/Object;"⟩, Cond.selects "[B" ⟨"[B", "clone", "()Ljava/lang/Object;"⟩ ⟨"java/lang/Object", "clone", "()Ljava/lang/Object;"⟩, Cond.classLink RJ7 311 "[B", Cond.arrayClass .byte, Cond.methodLink RJ7 304 Lib.Math.min.name, Cond.static Lib.Math.min.name, Cond.code Lib.Math.min.name Lib.Math.min.code 2 (some .int), Cond.methodLink RJ7 150 arraycopyName, Cond.native arraycopyName, Cond.static arraycopyName, Cond.initialized "java/lang/System"]
def wsJ5_ensureCapacityInternal_d00df : List Cond := .code yJ5_ensureCapacityInternal_d00df cJ5_ensureCapacityInternal_d00df 3 none :: ((wsJ5_ensureCapacityInternal_d00df_r1 ++ wsJ5_ensureCapacityInternal_d00df_r2) ++ wsJ40)
def wsJ5_isLatin1_aae02 : List Cond := .code yJ5_isLatin1_aae02 cJ5_isLatin1_aae02 1 (some .boolean) :: ([.fieldLink RJ5 18 "java/lang/String" "COMPACT_STRINGS" "Z", .fieldLink RJ5 22 "java/lang/AbstractStringBuilder" "coder" "B"] ++ wsJ40)
def wsJ1_canEncode_fc78d : List Cond := .code yJ1_canEncode_fc78d cJ1_canEncode_fc78d 1 (some .boolean) :: ([])
def wsJ3_checkFromIndexSize_8c36e : List Cond := .code yJ3_checkFromIndexSize_8c36e cJ3_checkFromIndexSize_8c36e 4 (some .int) :: ([])
def wsJ0_checkBoundsOffCount_cabcc : List Cond := .code yJ0_checkBoundsOffCount_cabcc cJ0_checkBoundsOffCount_cabcc 3 (some .int) :: ([.fieldLink RJ0 1053 "jdk/internal/util/Preconditions" "SIOOBE_FORMATTER" "Ljava/util/function/BiFunction;", .methodLink RJ0 1065 yJ3_checkFromIndexSize_8c36e, .static yJ3_checkFromIndexSize_8c36e, .initialized RJ3, .code yJ3_checkFromIndexSize_8c36e cJ3_checkFromIndexSize_8c36e 4 (some .int)])
def wsJ2_checkBoundsOffCount_d044e : List Cond := .code yJ2_checkBoundsOffCount_d044e cJ2_checkBoundsOffCount_d044e 3 none :: ([.methodLink RJ2 48 yJ2_length_9d52b, .static yJ2_length_9d52b, .initialized RJ2, .code yJ2_length_9d52b cJ2_length_9d52b 1 (some .int), .methodLink RJ2 419 yJ0_checkBoundsOffCount_cabcc, .static yJ0_checkBoundsOffCount_cabcc, .initialized RJ0, .code yJ0_checkBoundsOffCount_cabcc cJ0_checkBoundsOffCount_cabcc 3 (some .int), .fieldLink RJ0 1053 "jdk/internal/util/Preconditions" "SIOOBE_FORMATTER" "Ljava/util/function/BiFunction;", .methodLink RJ0 1065 yJ3_checkFromIndexSize_8c36e, .static yJ3_checkFromIndexSize_8c36e, .initialized RJ3, .code yJ3_checkFromIndexSize_8c36e cJ3_checkFromIndexSize_8c36e 4 (some .int)])
def wsJ2_putChar_b72d1 : List Cond := .code yJ2_putChar_b72d1 cJ2_putChar_b72d1 3 none :: ([.fieldLink RJ2 44 "java/lang/StringUTF16" "$assertionsDisabled" "Z", .fieldLink RJ2 59 "java/lang/StringUTF16" "HI_BYTE_SHIFT" "I", .fieldLink RJ2 63 "java/lang/StringUTF16" "LO_BYTE_SHIFT" "I", .methodLink RJ2 48 yJ2_length_9d52b, .static yJ2_length_9d52b, .initialized RJ2, .code yJ2_length_9d52b cJ2_length_9d52b 1 (some .int)])
def wsJ2_inflate_0e8fd : List Cond := .code yJ2_inflate_0e8fd cJ2_inflate_0e8fd 6 none :: ([.methodLink RJ2 173 yJ2_checkBoundsOffCount_d044e, .static yJ2_checkBoundsOffCount_d044e, .initialized RJ2, .code yJ2_checkBoundsOffCount_d044e cJ2_checkBoundsOffCount_d044e 3 none, .methodLink RJ2 48 yJ2_length_9d52b, .static yJ2_length_9d52b, .code yJ2_length_9d52b cJ2_length_9d52b 1 (some .int), .methodLink RJ2 419 yJ0_checkBoundsOffCount_cabcc, .static yJ0_checkBoundsOffCount_cabcc, .initialized RJ0, .code yJ0_checkBoundsOffCount_cabcc cJ0_checkBoundsOffCount_cabcc 3 (some .int), .fieldLink RJ0 1053 "jdk/internal/util/Preconditions" "SIOOBE_FORMATTER" "Ljava/util/function/BiFunction;", .methodLink RJ0 1065 yJ3_checkFromIndexSize_8c36e, .static yJ3_checkFromIndexSize_8c36e, .initialized RJ3, .code yJ3_checkFromIndexSize_8c36e cJ3_checkFromIndexSize_8c36e 4 (some .int), .methodLink RJ2 111 yJ2_putChar_b72d1, .static yJ2_putChar_b72d1, .code yJ2_putChar_b72d1 cJ2_putChar_b72d1 3 none, .fieldLink RJ2 44 "java/lang/StringUTF16" "$assertionsDisabled" "Z", .fieldLink RJ2 59 "java/lang/StringUTF16" "HI_BYTE_SHIFT" "I", .fieldLink RJ2 63 "java/lang/StringUTF16" "LO_BYTE_SHIFT" "I"])
def wsJ1_inflate_0e8fd_r1 : List Cond := [Cond.methodLink RJ1 240 yJ2_inflate_0e8fd, Cond.static yJ2_inflate_0e8fd, Cond.initialized RJ2, Cond.code yJ2_inflate_0e8fd cJ2_inflate_0e8fd 6 none, Cond.methodLink RJ2 173 yJ2_checkBoundsOffCount_d044e, Cond.static yJ2_checkBoundsOffCount_d044e, Cond.code yJ2_checkBoundsOffCount_d044e cJ2_checkBoundsOffCount_d044e 3 none, Cond.methodLink RJ2 48 yJ2_length_9d52b, Cond.static yJ2_length_9d52b, Cond.code yJ2_length_9d52b cJ2_length_9d52b 1 (some .int), Cond.methodLink RJ2 419 yJ0_checkBoundsOffCount_cabcc, Cond.static yJ0_checkBoundsOffCount_cabcc, Cond.initialized RJ0, Cond.code yJ0_checkBoundsOffCount_cabcc cJ0_checkBoundsOffCount_cabcc 3 (some .int), Cond.fieldLink RJ0 1053 "jdk/internal/util/Preconditions" "SIOOBE_FORMATTER" "Ljava/util/function/BiFunction;", Cond.methodLink RJ0 1065 yJ3_checkFromIndexSize_8c36e, Cond.static yJ3_checkFromIndexSize_8c36e, Cond.initialized RJ3, Cond.code yJ3_checkFromIndexSize_8c36e cJ3_checkFromIndexSize_8c36e 4 (some .int), Cond.methodLink RJ2 111 yJ2_putChar_b72d1, Cond.static yJ2_putChar_b72d1, Cond.code yJ2_putChar_b72d1 cJ2_putChar_b72d1 3 none, Cond.fieldLink RJ2 44 "java/lang/StringUTF16" "$assertionsDisabled" "Z", Cond.fieldLink RJ2 59 "java/lang/StringUTF16" "HI_BYTE_SHIFT" "I"]
def wsJ1_inflate_0e8fd_r2 : List Cond := [Cond.fieldLink RJ2 63 "java/lang/StringUTF16" "LO_BYTE_SHIFT" "I"]
def wsJ1_inflate_0e8fd : List Cond := .code yJ1_inflate_0e8fd cJ1_inflate_0e8fd 5 none :: ((wsJ1_inflate_0e8fd_r1 ++ wsJ1_inflate_0e8fd_r2))
def wsJ5_inflate_da8c8_r1 : List Cond := [Cond.fieldLink RJ5 15 "java/lang/AbstractStringBuilder" "value" "[B", Cond.fieldLink RJ5 79 "java/lang/AbstractStringBuilder" "count" "I", Cond.fieldLink RJ5 22 "java/lang/AbstractStringBuilder" "coder" "B", Cond.methodLink RJ5 83 ⟨"java/lang/AbstractStringBuilder", "isLatin1", "()Z"⟩, Cond.sameMethod "java/lang/AbstractStringBuilder" "java/lang/AbstractStringBuilder" "isLatin1" "()Z", Cond.selects RJ4 ⟨"java/lang/AbstractStringBuilder", "isLatin1", "()Z"⟩ yJ5_isLatin1_aae02, Cond.instanceMethod yJ5_isLatin1_aae02, Cond.initialized RJ5, Cond.code yJ5_isLatin1_aae02 cJ5_isLatin1_aae02 1 (some .boolean), Cond.fieldLink RJ5 18 "java/lang/String" "COMPACT_STRINGS" "Z", Cond.methodLink RJ5 26 yJ2_newBytesFor_77867, Cond.static yJ2_newBytesFor_77867, Cond.initialized RJ2, Cond.code yJ2_newBytesFor_77867 cJ2_newBytesFor_77867 1 (some (.array .byte)), Cond.arrayClass .byte, Cond.methodLink RJ2 11 yJ2_newBytesLength_0f7a4, Cond.static yJ2_newBytesLength_0f7a4, Cond.code yJ2_newBytesLength_0f7a4 cJ2_newBytesLength_0f7a4 1 (some .int), Cond.constant RJ2 20 (1073741823), Cond.methodLink RJ5 125 yJ1_inflate_0e8fd, Cond.static yJ1_inflate_0e8fd, Cond.initialized RJ1, Cond.code yJ1_inflate_0e8fd cJ1_inflate_0e8fd 5 none, Cond.methodLink RJ1 240 yJ2_inflate_0e8fd]
def wsJ5_inflate_da8c8_r2 : List Cond := [Cond.static yJ2_inflate_0e8fd, Cond.code yJ2_inflate_0e8fd cJ2_inflate_0e8fd 6 none, Cond.methodLink RJ2 173 yJ2_checkBoundsOffCount_d044e, Cond.static yJ2_checkBoundsOffCount_d044e, Cond.code yJ2_checkBoundsOffCount_d044e cJ2_checkBoundsOffCount_d044e 3 none, Cond.methodLink RJ2 48 yJ2_length_9d52b, Cond.static yJ2_length_9d52b, Cond.code yJ2_length_9d52b cJ2_length_9d52b 1 (some .int), Cond.methodLink RJ2 419 yJ0_checkBoundsOffCount_cabcc, Cond.static yJ0_checkBoundsOffCount_cabcc, Cond.initialized RJ0, Cond.code yJ0_checkBoundsOffCount_cabcc cJ0_checkBoundsOffCount_cabcc 3 (some .int), Cond.fieldLink RJ0 1053 "jdk/internal/util/Preconditions" "SIOOBE_FORMATTER" "Ljava/util/function/BiFunction;", Cond.methodLink RJ0 1065 yJ3_checkFromIndexSize_8c36e, Cond.static yJ3_checkFromIndexSize_8c36e, Cond.initialized RJ3, Cond.code yJ3_checkFromIndexSize_8c36e cJ3_checkFromIndexSize_8c36e 4 (some .int), Cond.methodLink RJ2 111 yJ2_putChar_b72d1, Cond.static yJ2_putChar_b72d1, Cond.code yJ2_putChar_b72d1 cJ2_putChar_b72d1 3 none, Cond.fieldLink RJ2 44 "java/lang/StringUTF16" "$assertionsDisabled" "Z", Cond.fieldLink RJ2 59 "java/lang/StringUTF16" "HI_BYTE_SHIFT" "I", Cond.fieldLink RJ2 63 "java/lang/StringUTF16" "LO_BYTE_SHIFT" "I"]
def wsJ5_inflate_da8c8 : List Cond := .code yJ5_inflate_da8c8 cJ5_inflate_da8c8 2 none :: ((wsJ5_inflate_da8c8_r1 ++ wsJ5_inflate_da8c8_r2) ++ wsJ40)
def wsJ2_putCharSB_b72d1 : List Cond := .code yJ2_putCharSB_b72d1 cJ2_putCharSB_b72d1 3 none :: ([.methodLink RJ2 67 yJ2_checkIndex_2214a, .static yJ2_checkIndex_2214a, .initialized RJ2, .code yJ2_checkIndex_2214a cJ2_checkIndex_2214a 2 none, .methodLink RJ2 48 yJ2_length_9d52b, .static yJ2_length_9d52b, .code yJ2_length_9d52b cJ2_length_9d52b 1 (some .int), .methodLink RJ2 414 yJ0_checkIndex_df160, .static yJ0_checkIndex_df160, .initialized RJ0, .code yJ0_checkIndex_df160 cJ0_checkIndex_df160 2 none, .fieldLink RJ0 1053 "jdk/internal/util/Preconditions" "SIOOBE_FORMATTER" "Ljava/util/function/BiFunction;", .methodLink RJ0 1059 yJ3_checkIndex_8e157, .static yJ3_checkIndex_8e157, .initialized RJ3, .code yJ3_checkIndex_8e157 cJ3_checkIndex_8e157 3 (some .int), .methodLink RJ2 111 yJ2_putChar_b72d1, .static yJ2_putChar_b72d1, .code yJ2_putChar_b72d1 cJ2_putChar_b72d1 3 none, .fieldLink RJ2 44 "java/lang/StringUTF16" "$assertionsDisabled" "Z", .fieldLink RJ2 59 "java/lang/StringUTF16" "HI_BYTE_SHIFT" "I", .fieldLink RJ2 63 "java/lang/StringUTF16" "LO_BYTE_SHIFT" "I"])
def wsJ5_append_3fe6f_r1 : List Cond := [Cond.fieldLink RJ5 79 "java/lang/AbstractStringBuilder" "count" "I", Cond.fieldLink RJ5 15 "java/lang/AbstractStringBuilder" "value" "[B", Cond.methodLink RJ5 100 ⟨"java/lang/AbstractStringBuilder", "ensureCapacityInternal", "(I)V"⟩, Cond.sameMethod "java/lang/AbstractStringBuilder" "java/lang/AbstractStringBuilder" "ensureCapacityInternal" "(I)V", Cond.selects RJ4 ⟨"java/lang/AbstractStringBuilder", "ensureCapacityInternal", "(I)V"⟩ yJ5_ensureCapacityInternal_d00df, Cond.instanceMethod yJ5_ensureCapacityInternal_d00df, Cond.initialized RJ5, Cond.code yJ5_ensureCapacityInternal_d00df cJ5_ensureCapacityInternal_d00df 3 none, Cond.fieldLink RJ5 22 "java/lang/AbstractStringBuilder" "coder" "B", Cond.methodLink RJ5 104 ⟨"java/lang/AbstractStringBuilder", "newCapacity", "(I)I"⟩, Cond.sameMethod "java/lang/AbstractStringBuilder" "java/lang/AbstractStringBuilder" "newCapacity" "(I)I", Cond.selects RJ4 ⟨"java/lang/AbstractStringBuilder", "newCapacity", "(I)I"⟩ yJ5_newCapacity_0f7a4, Cond.instanceMethod yJ5_newCapacity_0f7a4, Cond.code yJ5_newCapacity_0f7a4 cJ5_newCapacity_0f7a4 6 (some .int), Cond.constant RJ5 39 (2147483647), Cond.methodLink RJ5 114 yJ8_newLength_cabcc, Cond.static yJ8_newLength_cabcc, Cond.initialized RJ8, Cond.code yJ8_newLength_cabcc cJ8_newLength_cabcc 4 (some .int), Cond.methodLink RJ8 194 Lib.Math.max.name, Cond.static Lib.Math.max.name, Cond.initialized "java/lang/Math", Cond.code Lib.Math.max.name Lib.Math.max.code 2 (some .int), Cond.constant RJ8 200 (2147483639)]
def wsJ5_append_3fe6f_r2 : List Cond := [Cond.methodLink RJ8 201 yJ8_hugeLength_7cf53, Cond.static yJ8_hugeLength_7cf53, Cond.code yJ8_hugeLength_7cf53 cJ8_hugeLength_7cf53 3 (some .int), Cond.methodLink RJ5 108 yJ7_copyOf_9075b, Cond.static yJ7_copyOf_9075b, Cond.initialized RJ7, Cond.code yJ7_copyOf_9075b cJ7_copyOf_9075b 3 (some (.array .byte)), Cond.methodLink RJ7 310 ⟨"[B", "clone", "()Ljava/lang/Object;"⟩, Cond.sameMethod "[B" "java/lang/Object" "clone" "()Ljava/lang/Object;", Cond.native ⟨"java/lang/Object", "clone", "()Ljava/lang/Object;"⟩, Cond.instanceMethod ⟨"java/lang/Object", "clone", "()Ljava/lang/Object;"⟩, Cond.selects "[B" ⟨"[B", "clone", "()Ljava/lang/Object;"⟩ ⟨"java/lang/Object", "clone", "()Ljava/lang/Object;"⟩, Cond.classLink RJ7 311 "[B", Cond.arrayClass .byte, Cond.methodLink RJ7 304 Lib.Math.min.name, Cond.static Lib.Math.min.name, Cond.code Lib.Math.min.name Lib.Math.min.code 2 (some .int), Cond.methodLink RJ7 150 arraycopyName, Cond.native arraycopyName, Cond.static arraycopyName, Cond.initialized "java/lang/System", Cond.methodLink RJ5 83 ⟨"java/lang/AbstractStringBuilder", "isLatin1", "()Z"⟩, Cond.sameMethod "java/lang/AbstractStringBuilder" "java/lang/AbstractStringBuilder" "isLatin1" "()Z", Cond.selects RJ4 ⟨"java/lang/AbstractStringBuilder", "isLatin1", "()Z"⟩ yJ5_isLatin1_aae02]
def wsJ5_append_3fe6f_r3 : List Cond := [Cond.instanceMethod yJ5_isLatin1_aae02, Cond.code yJ5_isLatin1_aae02 cJ5_isLatin1_aae02 1 (some .boolean), Cond.fieldLink RJ5 18 "java/lang/String" "COMPACT_STRINGS" "Z", Cond.methodLink RJ5 191 yJ1_canEncode_fc78d, Cond.static yJ1_canEncode_fc78d, Cond.initialized RJ1, Cond.code yJ1_canEncode_fc78d cJ1_canEncode_fc78d 1 (some .boolean), Cond.methodLink RJ5 195 ⟨"java/lang/AbstractStringBuilder", "inflate", "()V"⟩, Cond.sameMethod "java/lang/AbstractStringBuilder" "java/lang/AbstractStringBuilder" "inflate" "()V", Cond.selects RJ4 ⟨"java/lang/AbstractStringBuilder", "inflate", "()V"⟩ yJ5_inflate_da8c8, Cond.instanceMethod yJ5_inflate_da8c8, Cond.code yJ5_inflate_da8c8 cJ5_inflate_da8c8 2 none, Cond.methodLink RJ5 26 yJ2_newBytesFor_77867, Cond.static yJ2_newBytesFor_77867, Cond.initialized RJ2, Cond.code yJ2_newBytesFor_77867 cJ2_newBytesFor_77867 1 (some (.array .byte)), Cond.methodLink RJ2 11 yJ2_newBytesLength_0f7a4, Cond.static yJ2_newBytesLength_0f7a4, Cond.code yJ2_newBytesLength_0f7a4 cJ2_newBytesLength_0f7a4 1 (some .int), Cond.constant RJ2 20 (1073741823), Cond.methodLink RJ5 125 yJ1_inflate_0e8fd, Cond.static yJ1_inflate_0e8fd, Cond.code yJ1_inflate_0e8fd cJ1_inflate_0e8fd 5 none, Cond.methodLink RJ1 240 yJ2_inflate_0e8fd]
def wsJ5_append_3fe6f_r4 : List Cond := [Cond.static yJ2_inflate_0e8fd, Cond.code yJ2_inflate_0e8fd cJ2_inflate_0e8fd 6 none, Cond.methodLink RJ2 173 yJ2_checkBoundsOffCount_d044e, Cond.static yJ2_checkBoundsOffCount_d044e, Cond.code yJ2_checkBoundsOffCount_d044e cJ2_checkBoundsOffCount_d044e 3 none, Cond.methodLink RJ2 48 yJ2_length_9d52b, Cond.static yJ2_length_9d52b, Cond.code yJ2_length_9d52b cJ2_length_9d52b 1 (some .int), Cond.methodLink RJ2 419 yJ0_checkBoundsOffCount_cabcc, Cond.static yJ0_checkBoundsOffCount_cabcc, Cond.initialized RJ0, Cond.code yJ0_checkBoundsOffCount_cabcc cJ0_checkBoundsOffCount_cabcc 3 (some .int), Cond.fieldLink RJ0 1053 "jdk/internal/util/Preconditions" "SIOOBE_FORMATTER" "Ljava/util/function/BiFunction;", Cond.methodLink RJ0 1065 yJ3_checkFromIndexSize_8c36e, Cond.static yJ3_checkFromIndexSize_8c36e, Cond.initialized RJ3, Cond.code yJ3_checkFromIndexSize_8c36e cJ3_checkFromIndexSize_8c36e 4 (some .int), Cond.methodLink RJ2 111 yJ2_putChar_b72d1, Cond.static yJ2_putChar_b72d1, Cond.code yJ2_putChar_b72d1 cJ2_putChar_b72d1 3 none, Cond.fieldLink RJ2 44 "java/lang/StringUTF16" "$assertionsDisabled" "Z", Cond.fieldLink RJ2 59 "java/lang/StringUTF16" "HI_BYTE_SHIFT" "I", Cond.fieldLink RJ2 63 "java/lang/StringUTF16" "LO_BYTE_SHIFT" "I", Cond.methodLink RJ5 197 yJ2_putCharSB_b72d1]
def wsJ5_append_3fe6f_r5 : List Cond := [Cond.static yJ2_putCharSB_b72d1, Cond.code yJ2_putCharSB_b72d1 cJ2_putCharSB_b72d1 3 none, Cond.methodLink RJ2 67 yJ2_checkIndex_2214a, Cond.static yJ2_checkIndex_2214a, Cond.code yJ2_checkIndex_2214a cJ2_checkIndex_2214a 2 none, Cond.methodLink RJ2 414 yJ0_checkIndex_df160, Cond.static yJ0_checkIndex_df160, Cond.code yJ0_checkIndex_df160 cJ0_checkIndex_df160 2 none, Cond.methodLink RJ0 1059 yJ3_checkIndex_8e157, Cond.static yJ3_checkIndex_8e157, Cond.code yJ3_checkIndex_8e157 cJ3_checkIndex_8e157 3 (some .int)]
def wsJ5_append_3fe6f : List Cond := .code yJ5_append_3fe6f cJ5_append_3fe6f 2 (some (.object "java/lang/AbstractStringBuilder")) :: ((wsJ5_append_3fe6f_r1 ++ (wsJ5_append_3fe6f_r2 ++ (wsJ5_append_3fe6f_r3 ++ (wsJ5_append_3fe6f_r4 ++ wsJ5_append_3fe6f_r5)))) ++ wsJ40)
def wsJ4_append_cf468_r1 : List Cond := [Cond.methodLink RJ4 50 yJ5_append_3fe6f, Cond.sameMethod "java/lang/AbstractStringBuilder" "java/lang/AbstractStringBuilder" "append" "(C)Ljava/lang/AbstractStringBuilder;", Cond.superclass RJ4 RJ5, Cond.instanceMethod yJ5_append_3fe6f, Cond.initialized RJ5, Cond.code yJ5_append_3fe6f cJ5_append_3fe6f 2 (some (.object "java/lang/AbstractStringBuilder")), Cond.fieldLink RJ5 79 "java/lang/AbstractStringBuilder" "count" "I", Cond.fieldLink RJ5 15 "java/lang/AbstractStringBuilder" "value" "[B", Cond.methodLink RJ5 100 ⟨"java/lang/AbstractStringBuilder", "ensureCapacityInternal", "(I)V"⟩, Cond.sameMethod "java/lang/AbstractStringBuilder" "java/lang/AbstractStringBuilder" "ensureCapacityInternal" "(I)V", Cond.selects RJ4 ⟨"java/lang/AbstractStringBuilder", "ensureCapacityInternal", "(I)V"⟩ yJ5_ensureCapacityInternal_d00df, Cond.instanceMethod yJ5_ensureCapacityInternal_d00df, Cond.code yJ5_ensureCapacityInternal_d00df cJ5_ensureCapacityInternal_d00df 3 none, Cond.fieldLink RJ5 22 "java/lang/AbstractStringBuilder" "coder" "B", Cond.methodLink RJ5 104 ⟨"java/lang/AbstractStringBuilder", "newCapacity", "(I)I"⟩, Cond.sameMethod "java/lang/AbstractStringBuilder" "java/lang/AbstractStringBuilder" "newCapacity" "(I)I", Cond.selects RJ4 ⟨"java/lang/AbstractStringBuilder", "newCapacity", "(I)I"⟩ yJ5_newCapacity_0f7a4, Cond.instanceMethod yJ5_newCapacity_0f7a4, Cond.code yJ5_newCapacity_0f7a4 cJ5_newCapacity_0f7a4 6 (some .int), Cond.constant RJ5 39 (2147483647), Cond.methodLink RJ5 114 yJ8_newLength_cabcc, Cond.static yJ8_newLength_cabcc, Cond.initialized RJ8, Cond.code yJ8_newLength_cabcc cJ8_newLength_cabcc 4 (some .int)]
def wsJ4_append_cf468_r2 : List Cond := [Cond.methodLink RJ8 194 Lib.Math.max.name, Cond.static Lib.Math.max.name, Cond.initialized "java/lang/Math", Cond.code Lib.Math.max.name Lib.Math.max.code 2 (some .int), Cond.constant RJ8 200 (2147483639), Cond.methodLink RJ8 201 yJ8_hugeLength_7cf53, Cond.static yJ8_hugeLength_7cf53, Cond.code yJ8_hugeLength_7cf53 cJ8_hugeLength_7cf53 3 (some .int), Cond.methodLink RJ5 108 yJ7_copyOf_9075b, Cond.static yJ7_copyOf_9075b, Cond.initialized RJ7, Cond.code yJ7_copyOf_9075b cJ7_copyOf_9075b 3 (some (.array .byte)), Cond.methodLink RJ7 310 ⟨"[B", "clone", "()Ljava/lang/Object;"⟩, Cond.sameMethod "[B" "java/lang/Object" "clone" "()Ljava/lang/Object;", Cond.native ⟨"java/lang/Object", "clone", "()Ljava/lang/Object;"⟩, Cond.instanceMethod ⟨"java/lang/Object", "clone", "()Ljava/lang/Object;"⟩, Cond.selects "[B" ⟨"[B", "clone", "()Ljava/lang/Object;"⟩ ⟨"java/lang/Object", "clone", "()Ljava/lang/Object;"⟩, Cond.classLink RJ7 311 "[B", Cond.arrayClass .byte, Cond.methodLink RJ7 304 Lib.Math.min.name, Cond.static Lib.Math.min.name, Cond.code Lib.Math.min.name Lib.Math.min.code 2 (some .int), Cond.methodLink RJ7 150 arraycopyName, Cond.native arraycopyName]
def wsJ4_append_cf468_r3 : List Cond := [Cond.static arraycopyName, Cond.initialized "java/lang/System", Cond.methodLink RJ5 83 ⟨"java/lang/AbstractStringBuilder", "isLatin1", "()Z"⟩, Cond.sameMethod "java/lang/AbstractStringBuilder" "java/lang/AbstractStringBuilder" "isLatin1" "()Z", Cond.selects RJ4 ⟨"java/lang/AbstractStringBuilder", "isLatin1", "()Z"⟩ yJ5_isLatin1_aae02, Cond.instanceMethod yJ5_isLatin1_aae02, Cond.code yJ5_isLatin1_aae02 cJ5_isLatin1_aae02 1 (some .boolean), Cond.fieldLink RJ5 18 "java/lang/String" "COMPACT_STRINGS" "Z", Cond.methodLink RJ5 191 yJ1_canEncode_fc78d, Cond.static yJ1_canEncode_fc78d, Cond.initialized RJ1, Cond.code yJ1_canEncode_fc78d cJ1_canEncode_fc78d 1 (some .boolean), Cond.methodLink RJ5 195 ⟨"java/lang/AbstractStringBuilder", "inflate", "()V"⟩, Cond.sameMethod "java/lang/AbstractStringBuilder" "java/lang/AbstractStringBuilder" "inflate" "()V", Cond.selects RJ4 ⟨"java/lang/AbstractStringBuilder", "inflate", "()V"⟩ yJ5_inflate_da8c8, Cond.instanceMethod yJ5_inflate_da8c8, Cond.code yJ5_inflate_da8c8 cJ5_inflate_da8c8 2 none, Cond.methodLink RJ5 26 yJ2_newBytesFor_77867, Cond.static yJ2_newBytesFor_77867, Cond.initialized RJ2, Cond.code yJ2_newBytesFor_77867 cJ2_newBytesFor_77867 1 (some (.array .byte)), Cond.methodLink RJ2 11 yJ2_newBytesLength_0f7a4, Cond.static yJ2_newBytesLength_0f7a4, Cond.code yJ2_newBytesLength_0f7a4 cJ2_newBytesLength_0f7a4 1 (some .int)]
def wsJ4_append_cf468_r4 : List Cond := [Cond.constant RJ2 20 (1073741823), Cond.methodLink RJ5 125 yJ1_inflate_0e8fd, Cond.static yJ1_inflate_0e8fd, Cond.code yJ1_inflate_0e8fd cJ1_inflate_0e8fd 5 none, Cond.methodLink RJ1 240 yJ2_inflate_0e8fd, Cond.static yJ2_inflate_0e8fd, Cond.code yJ2_inflate_0e8fd cJ2_inflate_0e8fd 6 none, Cond.methodLink RJ2 173 yJ2_checkBoundsOffCount_d044e, Cond.static yJ2_checkBoundsOffCount_d044e, Cond.code yJ2_checkBoundsOffCount_d044e cJ2_checkBoundsOffCount_d044e 3 none, Cond.methodLink RJ2 48 yJ2_length_9d52b, Cond.static yJ2_length_9d52b, Cond.code yJ2_length_9d52b cJ2_length_9d52b 1 (some .int), Cond.methodLink RJ2 419 yJ0_checkBoundsOffCount_cabcc, Cond.static yJ0_checkBoundsOffCount_cabcc, Cond.initialized RJ0, Cond.code yJ0_checkBoundsOffCount_cabcc cJ0_checkBoundsOffCount_cabcc 3 (some .int), Cond.fieldLink RJ0 1053 "jdk/internal/util/Preconditions" "SIOOBE_FORMATTER" "Ljava/util/function/BiFunction;", Cond.methodLink RJ0 1065 yJ3_checkFromIndexSize_8c36e, Cond.static yJ3_checkFromIndexSize_8c36e, Cond.initialized RJ3, Cond.code yJ3_checkFromIndexSize_8c36e cJ3_checkFromIndexSize_8c36e 4 (some .int), Cond.methodLink RJ2 111 yJ2_putChar_b72d1, Cond.static yJ2_putChar_b72d1]
def wsJ4_append_cf468_r5 : List Cond := [Cond.code yJ2_putChar_b72d1 cJ2_putChar_b72d1 3 none, Cond.fieldLink RJ2 44 "java/lang/StringUTF16" "$assertionsDisabled" "Z", Cond.fieldLink RJ2 59 "java/lang/StringUTF16" "HI_BYTE_SHIFT" "I", Cond.fieldLink RJ2 63 "java/lang/StringUTF16" "LO_BYTE_SHIFT" "I", Cond.methodLink RJ5 197 yJ2_putCharSB_b72d1, Cond.static yJ2_putCharSB_b72d1, Cond.code yJ2_putCharSB_b72d1 cJ2_putCharSB_b72d1 3 none, Cond.methodLink RJ2 67 yJ2_checkIndex_2214a, Cond.static yJ2_checkIndex_2214a, Cond.code yJ2_checkIndex_2214a cJ2_checkIndex_2214a 2 none, Cond.methodLink RJ2 414 yJ0_checkIndex_df160, Cond.static yJ0_checkIndex_df160, Cond.code yJ0_checkIndex_df160 cJ0_checkIndex_df160 2 none, Cond.methodLink RJ0 1059 yJ3_checkIndex_8e157, Cond.static yJ3_checkIndex_8e157, Cond.code yJ3_checkIndex_8e157 cJ3_checkIndex_8e157 3 (some .int)]
def wsJ4_append_cf468 : List Cond := .code yJ4_append_cf468 cJ4_append_cf468 2 (some (.object "java/lang/StringBuilder")) :: ((wsJ4_append_cf468_r1 ++ (wsJ4_append_cf468_r2 ++ (wsJ4_append_cf468_r3 ++ (wsJ4_append_cf468_r4 ++ wsJ4_append_cf468_r5)))) ++ wsJ40)
def wsJ3_checkFromToIndex_8c36e : List Cond := .code yJ3_checkFromToIndex_8c36e cJ3_checkFromToIndex_8c36e 4 (some .int) :: ([])
def wsJ0_checkBoundsBeginEnd_23922 : List Cond := .code yJ0_checkBoundsBeginEnd_23922 cJ0_checkBoundsBeginEnd_23922 3 none :: ([.fieldLink RJ0 1053 "jdk/internal/util/Preconditions" "SIOOBE_FORMATTER" "Ljava/util/function/BiFunction;", .methodLink RJ0 1062 yJ3_checkFromToIndex_8c36e, .static yJ3_checkFromToIndex_8c36e, .initialized RJ3, .code yJ3_checkFromToIndex_8c36e cJ3_checkFromToIndex_8c36e 4 (some .int)])
def wsJ2_checkBoundsBeginEnd_d044e : List Cond := .code yJ2_checkBoundsBeginEnd_d044e cJ2_checkBoundsBeginEnd_d044e 3 none :: ([.methodLink RJ2 48 yJ2_length_9d52b, .static yJ2_length_9d52b, .initialized RJ2, .code yJ2_length_9d52b cJ2_length_9d52b 1 (some .int), .methodLink RJ2 241 yJ0_checkBoundsBeginEnd_23922, .static yJ0_checkBoundsBeginEnd_23922, .initialized RJ0, .code yJ0_checkBoundsBeginEnd_23922 cJ0_checkBoundsBeginEnd_23922 3 none, .fieldLink RJ0 1053 "jdk/internal/util/Preconditions" "SIOOBE_FORMATTER" "Ljava/util/function/BiFunction;", .methodLink RJ0 1062 yJ3_checkFromToIndex_8c36e, .static yJ3_checkFromToIndex_8c36e, .initialized RJ3, .code yJ3_checkFromToIndex_8c36e cJ3_checkFromToIndex_8c36e 4 (some .int)])
def wsJ2_putCharsAt_cd4e5 : List Cond := .code yJ2_putCharsAt_cd4e5 cJ2_putCharsAt_cd4e5 7 (some .int) :: ([.fieldLink RJ2 44 "java/lang/StringUTF16" "$assertionsDisabled" "Z", .methodLink RJ2 96 yJ2_checkBoundsBeginEnd_d044e, .static yJ2_checkBoundsBeginEnd_d044e, .initialized RJ2, .code yJ2_checkBoundsBeginEnd_d044e cJ2_checkBoundsBeginEnd_d044e 3 none, .methodLink RJ2 48 yJ2_length_9d52b, .static yJ2_length_9d52b, .code yJ2_length_9d52b cJ2_length_9d52b 1 (some .int), .methodLink RJ2 241 yJ0_checkBoundsBeginEnd_23922, .static yJ0_checkBoundsBeginEnd_23922, .initialized RJ0, .code yJ0_checkBoundsBeginEnd_23922 cJ0_checkBoundsBeginEnd_23922 3 none, .fieldLink RJ0 1053 "jdk/internal/util/Preconditions" "SIOOBE_FORMATTER" "Ljava/util/function/BiFunction;", .methodLink RJ0 1062 yJ3_checkFromToIndex_8c36e, .static yJ3_checkFromToIndex_8c36e, .initialized RJ3, .code yJ3_checkFromToIndex_8c36e cJ3_checkFromToIndex_8c36e 4 (some .int), .methodLink RJ2 111 yJ2_putChar_b72d1, .static yJ2_putChar_b72d1, .code yJ2_putChar_b72d1 cJ2_putChar_b72d1 3 none, .fieldLink RJ2 59 "java/lang/StringUTF16" "HI_BYTE_SHIFT" "I", .fieldLink RJ2 63 "java/lang/StringUTF16" "LO_BYTE_SHIFT" "I"])
def wsJ5_appendNull_278bc_r1 : List Cond := [Cond.fieldLink RJ5 79 "java/lang/AbstractStringBuilder" "count" "I", Cond.fieldLink RJ5 15 "java/lang/AbstractStringBuilder" "value" "[B", Cond.methodLink RJ5 100 ⟨"java/lang/AbstractStringBuilder", "ensureCapacityInternal", "(I)V"⟩, Cond.sameMethod "java/lang/AbstractStringBuilder" "java/lang/AbstractStringBuilder" "ensureCapacityInternal" "(I)V", Cond.selects RJ4 ⟨"java/lang/AbstractStringBuilder", "ensureCapacityInternal", "(I)V"⟩ yJ5_ensureCapacityInternal_d00df, Cond.instanceMethod yJ5_ensureCapacityInternal_d00df, Cond.initialized RJ5, Cond.code yJ5_ensureCapacityInternal_d00df cJ5_ensureCapacityInternal_d00df 3 none, Cond.fieldLink RJ5 22 "java/lang/AbstractStringBuilder" "coder" "B", Cond.methodLink RJ5 104 ⟨"java/lang/AbstractStringBuilder", "newCapacity", "(I)I"⟩, Cond.sameMethod "java/lang/AbstractStringBuilder" "java/lang/AbstractStringBuilder" "newCapacity" "(I)I", Cond.selects RJ4 ⟨"java/lang/AbstractStringBuilder", "newCapacity", "(I)I"⟩ yJ5_newCapacity_0f7a4, Cond.instanceMethod yJ5_newCapacity_0f7a4, Cond.code yJ5_newCapacity_0f7a4 cJ5_newCapacity_0f7a4 6 (some .int), Cond.constant RJ5 39 (2147483647), Cond.methodLink RJ5 114 yJ8_newLength_cabcc, Cond.static yJ8_newLength_cabcc, Cond.initialized RJ8, Cond.code yJ8_newLength_cabcc cJ8_newLength_cabcc 4 (some .int), Cond.methodLink RJ8 194 Lib.Math.max.name, Cond.static Lib.Math.max.name, Cond.initialized "java/lang/Math", Cond.code Lib.Math.max.name Lib.Math.max.code 2 (some .int), Cond.constant RJ8 200 (2147483639)]
def wsJ5_appendNull_278bc_r2 : List Cond := [Cond.methodLink RJ8 201 yJ8_hugeLength_7cf53, Cond.static yJ8_hugeLength_7cf53, Cond.code yJ8_hugeLength_7cf53 cJ8_hugeLength_7cf53 3 (some .int), Cond.methodLink RJ5 108 yJ7_copyOf_9075b, Cond.static yJ7_copyOf_9075b, Cond.initialized RJ7, Cond.code yJ7_copyOf_9075b cJ7_copyOf_9075b 3 (some (.array .byte)), Cond.methodLink RJ7 310 ⟨"[B", "clone", "()Ljava/lang/Object;"⟩, Cond.sameMethod "[B" "java/lang/Object" "clone" "()Ljava/lang/Object;", Cond.native ⟨"java/lang/Object", "clone", "()Ljava/lang/Object;"⟩, Cond.instanceMethod ⟨"java/lang/Object", "clone", "()Ljava/lang/Object;"⟩, Cond.selects "[B" ⟨"[B", "clone", "()Ljava/lang/Object;"⟩ ⟨"java/lang/Object", "clone", "()Ljava/lang/Object;"⟩, Cond.classLink RJ7 311 "[B", Cond.arrayClass .byte, Cond.methodLink RJ7 304 Lib.Math.min.name, Cond.static Lib.Math.min.name, Cond.code Lib.Math.min.name Lib.Math.min.code 2 (some .int), Cond.methodLink RJ7 150 arraycopyName, Cond.native arraycopyName, Cond.static arraycopyName, Cond.initialized "java/lang/System", Cond.methodLink RJ5 83 ⟨"java/lang/AbstractStringBuilder", "isLatin1", "()Z"⟩, Cond.sameMethod "java/lang/AbstractStringBuilder" "java/lang/AbstractStringBuilder" "isLatin1" "()Z", Cond.selects RJ4 ⟨"java/lang/AbstractStringBuilder", "isLatin1", "()Z"⟩ yJ5_isLatin1_aae02]
def wsJ5_appendNull_278bc_r3 : List Cond := [Cond.instanceMethod yJ5_isLatin1_aae02, Cond.code yJ5_isLatin1_aae02 cJ5_isLatin1_aae02 1 (some .boolean), Cond.fieldLink RJ5 18 "java/lang/String" "COMPACT_STRINGS" "Z", Cond.methodLink RJ5 226 yJ2_putCharsAt_cd4e5, Cond.static yJ2_putCharsAt_cd4e5, Cond.initialized RJ2, Cond.code yJ2_putCharsAt_cd4e5 cJ2_putCharsAt_cd4e5 7 (some .int), Cond.fieldLink RJ2 44 "java/lang/StringUTF16" "$assertionsDisabled" "Z", Cond.methodLink RJ2 96 yJ2_checkBoundsBeginEnd_d044e, Cond.static yJ2_checkBoundsBeginEnd_d044e, Cond.code yJ2_checkBoundsBeginEnd_d044e cJ2_checkBoundsBeginEnd_d044e 3 none, Cond.methodLink RJ2 48 yJ2_length_9d52b, Cond.static yJ2_length_9d52b, Cond.code yJ2_length_9d52b cJ2_length_9d52b 1 (some .int), Cond.methodLink RJ2 241 yJ0_checkBoundsBeginEnd_23922, Cond.static yJ0_checkBoundsBeginEnd_23922, Cond.initialized RJ0, Cond.code yJ0_checkBoundsBeginEnd_23922 cJ0_checkBoundsBeginEnd_23922 3 none, Cond.fieldLink RJ0 1053 "jdk/internal/util/Preconditions" "SIOOBE_FORMATTER" "Ljava/util/function/BiFunction;", Cond.methodLink RJ0 1062 yJ3_checkFromToIndex_8c36e, Cond.static yJ3_checkFromToIndex_8c36e, Cond.initialized RJ3, Cond.code yJ3_checkFromToIndex_8c36e cJ3_checkFromToIndex_8c36e 4 (some .int), Cond.methodLink RJ2 111 yJ2_putChar_b72d1]
def wsJ5_appendNull_278bc_r4 : List Cond := [Cond.static yJ2_putChar_b72d1, Cond.code yJ2_putChar_b72d1 cJ2_putChar_b72d1 3 none, Cond.fieldLink RJ2 59 "java/lang/StringUTF16" "HI_BYTE_SHIFT" "I", Cond.fieldLink RJ2 63 "java/lang/StringUTF16" "LO_BYTE_SHIFT" "I"]
def wsJ5_appendNull_278bc : List Cond := .code yJ5_appendNull_278bc cJ5_appendNull_278bc 3 (some (.object "java/lang/AbstractStringBuilder")) :: ((wsJ5_appendNull_278bc_r1 ++ (wsJ5_appendNull_278bc_r2 ++ (wsJ5_appendNull_278bc_r3 ++ wsJ5_appendNull_278bc_r4))) ++ wsJ40)
def wsJ5_inflateIfNeededFor_a7421_r1 : List Cond := [Cond.fieldLink RJ5 18 "java/lang/String" "COMPACT_STRINGS" "Z", Cond.fieldLink RJ5 22 "java/lang/AbstractStringBuilder" "coder" "B", Cond.methodLink RJ5 40 yJ0_coder_7d493, Cond.instanceMethod yJ0_coder_7d493, Cond.selects RJ0 yJ0_coder_7d493 yJ0_coder_7d493, Cond.initialized RJ0, Cond.code yJ0_coder_7d493 cJ0_coder_7d493 1 (some .byte), Cond.fieldLink RJ0 38 "java/lang/String" "COMPACT_STRINGS" "Z", Cond.fieldLink RJ0 15 "java/lang/String" "coder" "B", Cond.methodLink RJ5 195 ⟨"java/lang/AbstractStringBuilder", "inflate", "()V"⟩, Cond.sameMethod "java/lang/AbstractStringBuilder" "java/lang/AbstractStringBuilder" "inflate" "()V", Cond.selects RJ4 ⟨"java/lang/AbstractStringBuilder", "inflate", "()V"⟩ yJ5_inflate_da8c8, Cond.instanceMethod yJ5_inflate_da8c8, Cond.initialized RJ5, Cond.code yJ5_inflate_da8c8 cJ5_inflate_da8c8 2 none, Cond.fieldLink RJ5 15 "java/lang/AbstractStringBuilder" "value" "[B", Cond.fieldLink RJ5 79 "java/lang/AbstractStringBuilder" "count" "I", Cond.methodLink RJ5 83 ⟨"java/lang/AbstractStringBuilder", "isLatin1", "()Z"⟩, Cond.sameMethod "java/lang/AbstractStringBuilder" "java/lang/AbstractStringBuilder" "isLatin1" "()Z", Cond.selects RJ4 ⟨"java/lang/AbstractStringBuilder", "isLatin1", "()Z"⟩ yJ5_isLatin1_aae02, Cond.instanceMethod yJ5_isLatin1_aae02, Cond.code yJ5_isLatin1_aae02 cJ5_isLatin1_aae02 1 (some .boolean), Cond.methodLink RJ5 26 yJ2_newBytesFor_77867, Cond.static yJ2_newBytesFor_77867]
def wsJ5_inflateIfNeededFor_a7421_r2 : List Cond := [Cond.initialized RJ2, Cond.code yJ2_newBytesFor_77867 cJ2_newBytesFor_77867 1 (some (.array .byte)), Cond.arrayClass .byte, Cond.methodLink RJ2 11 yJ2_newBytesLength_0f7a4, Cond.static yJ2_newBytesLength_0f7a4, Cond.code yJ2_newBytesLength_0f7a4 cJ2_newBytesLength_0f7a4 1 (some .int), Cond.constant RJ2 20 (1073741823), Cond.methodLink RJ5 125 yJ1_inflate_0e8fd, Cond.static yJ1_inflate_0e8fd, Cond.initialized RJ1, Cond.code yJ1_inflate_0e8fd cJ1_inflate_0e8fd 5 none, Cond.methodLink RJ1 240 yJ2_inflate_0e8fd, Cond.static yJ2_inflate_0e8fd, Cond.code yJ2_inflate_0e8fd cJ2_inflate_0e8fd 6 none, Cond.methodLink RJ2 173 yJ2_checkBoundsOffCount_d044e, Cond.static yJ2_checkBoundsOffCount_d044e, Cond.code yJ2_checkBoundsOffCount_d044e cJ2_checkBoundsOffCount_d044e 3 none, Cond.methodLink RJ2 48 yJ2_length_9d52b, Cond.static yJ2_length_9d52b, Cond.code yJ2_length_9d52b cJ2_length_9d52b 1 (some .int), Cond.methodLink RJ2 419 yJ0_checkBoundsOffCount_cabcc, Cond.static yJ0_checkBoundsOffCount_cabcc, Cond.code yJ0_checkBoundsOffCount_cabcc cJ0_checkBoundsOffCount_cabcc 3 (some .int), Cond.fieldLink RJ0 1053 "jdk/internal/util/Preconditions" "SIOOBE_FORMATTER" "Ljava/util/function/BiFunction;"]
def wsJ5_inflateIfNeededFor_a7421_r3 : List Cond := [Cond.methodLink RJ0 1065 yJ3_checkFromIndexSize_8c36e, Cond.static yJ3_checkFromIndexSize_8c36e, Cond.initialized RJ3, Cond.code yJ3_checkFromIndexSize_8c36e cJ3_checkFromIndexSize_8c36e 4 (some .int), Cond.methodLink RJ2 111 yJ2_putChar_b72d1, Cond.static yJ2_putChar_b72d1, Cond.code yJ2_putChar_b72d1 cJ2_putChar_b72d1 3 none, Cond.fieldLink RJ2 44 "java/lang/StringUTF16" "$assertionsDisabled" "Z", Cond.fieldLink RJ2 59 "java/lang/StringUTF16" "HI_BYTE_SHIFT" "I", Cond.fieldLink RJ2 63 "java/lang/StringUTF16" "LO_BYTE_SHIFT" "I"]
def wsJ5_inflateIfNeededFor_a7421 : List Cond := .code yJ5_inflateIfNeededFor_a7421 cJ5_inflateIfNeededFor_a7421 2 none :: ((wsJ5_inflateIfNeededFor_a7421_r1 ++ (wsJ5_inflateIfNeededFor_a7421_r2 ++ wsJ5_inflateIfNeededFor_a7421_r3)) ++ wsJ40)
def wsJ0_getBytes_840e7_r1 : List Cond := [Cond.fieldLink RJ0 9 "java/lang/String" "value" "[B", Cond.methodLink RJ0 212 arraycopyName, Cond.native arraycopyName, Cond.static arraycopyName, Cond.initialized "java/lang/System", Cond.methodLink RJ0 335 yJ0_coder_7d493, Cond.instanceMethod yJ0_coder_7d493, Cond.selects RJ0 yJ0_coder_7d493 yJ0_coder_7d493, Cond.initialized RJ0, Cond.code yJ0_coder_7d493 cJ0_coder_7d493 1 (some .byte), Cond.fieldLink RJ0 38 "java/lang/String" "COMPACT_STRINGS" "Z", Cond.fieldLink RJ0 15 "java/lang/String" "coder" "B", Cond.methodLink RJ0 106 yJ1_inflate_0e8fd, Cond.static yJ1_inflate_0e8fd, Cond.initialized RJ1, Cond.code yJ1_inflate_0e8fd cJ1_inflate_0e8fd 5 none, Cond.methodLink RJ1 240 yJ2_inflate_0e8fd, Cond.static yJ2_inflate_0e8fd, Cond.initialized RJ2, Cond.code yJ2_inflate_0e8fd cJ2_inflate_0e8fd 6 none, Cond.methodLink RJ2 173 yJ2_checkBoundsOffCount_d044e, Cond.static yJ2_checkBoundsOffCount_d044e, Cond.code yJ2_checkBoundsOffCount_d044e cJ2_checkBoundsOffCount_d044e 3 none, Cond.methodLink RJ2 48 yJ2_length_9d52b]
def wsJ0_getBytes_840e7_r2 : List Cond := [Cond.static yJ2_length_9d52b, Cond.code yJ2_length_9d52b cJ2_length_9d52b 1 (some .int), Cond.methodLink RJ2 419 yJ0_checkBoundsOffCount_cabcc, Cond.static yJ0_checkBoundsOffCount_cabcc, Cond.code yJ0_checkBoundsOffCount_cabcc cJ0_checkBoundsOffCount_cabcc 3 (some .int), Cond.fieldLink RJ0 1053 "jdk/internal/util/Preconditions" "SIOOBE_FORMATTER" "Ljava/util/function/BiFunction;", Cond.methodLink RJ0 1065 yJ3_checkFromIndexSize_8c36e, Cond.static yJ3_checkFromIndexSize_8c36e, Cond.initialized RJ3, Cond.code yJ3_checkFromIndexSize_8c36e cJ3_checkFromIndexSize_8c36e 4 (some .int), Cond.methodLink RJ2 111 yJ2_putChar_b72d1, Cond.static yJ2_putChar_b72d1, Cond.code yJ2_putChar_b72d1 cJ2_putChar_b72d1 3 none, Cond.fieldLink RJ2 44 "java/lang/StringUTF16" "$assertionsDisabled" "Z", Cond.fieldLink RJ2 59 "java/lang/StringUTF16" "HI_BYTE_SHIFT" "I", Cond.fieldLink RJ2 63 "java/lang/StringUTF16" "LO_BYTE_SHIFT" "I"]
def wsJ0_getBytes_840e7 : List Cond := .code yJ0_getBytes_840e7 cJ0_getBytes_840e7 4 none :: ((wsJ0_getBytes_840e7_r1 ++ wsJ0_getBytes_840e7_r2))
def wsJ5_putStringAt_47b60_r1 : List Cond := [Cond.fieldLink RJ5 15 "java/lang/AbstractStringBuilder" "value" "[B", Cond.fieldLink RJ5 22 "java/lang/AbstractStringBuilder" "coder" "B", Cond.methodLink RJ5 397 ⟨"java/lang/AbstractStringBuilder", "inflateIfNeededFor", "(Ljava/lang/String;)V"⟩, Cond.sameMethod "java/lang/AbstractStringBuilder" "java/lang/AbstractStringBuilder" "inflateIfNeededFor" "(Ljava/lang/String;)V", Cond.selects RJ4 ⟨"java/lang/AbstractStringBuilder", "inflateIfNeededFor", "(Ljava/lang/String;)V"⟩ yJ5_inflateIfNeededFor_a7421, Cond.instanceMethod yJ5_inflateIfNeededFor_a7421, Cond.initialized RJ5, Cond.code yJ5_inflateIfNeededFor_a7421 cJ5_inflateIfNeededFor_a7421 2 none, Cond.fieldLink RJ5 18 "java/lang/String" "COMPACT_STRINGS" "Z", Cond.methodLink RJ5 40 yJ0_coder_7d493, Cond.instanceMethod yJ0_coder_7d493, Cond.selects RJ0 yJ0_coder_7d493 yJ0_coder_7d493, Cond.initialized RJ0, Cond.code yJ0_coder_7d493 cJ0_coder_7d493 1 (some .byte), Cond.fieldLink RJ0 38 "java/lang/String" "COMPACT_STRINGS" "Z", Cond.fieldLink RJ0 15 "java/lang/String" "coder" "B", Cond.methodLink RJ5 195 ⟨"java/lang/AbstractStringBuilder", "inflate", "()V"⟩, Cond.sameMethod "java/lang/AbstractStringBuilder" "java/lang/AbstractStringBuilder" "inflate" "()V", Cond.selects RJ4 ⟨"java/lang/AbstractStringBuilder", "inflate", "()V"⟩ yJ5_inflate_da8c8, Cond.instanceMethod yJ5_inflate_da8c8, Cond.code yJ5_inflate_da8c8 cJ5_inflate_da8c8 2 none, Cond.fieldLink RJ5 79 "java/lang/AbstractStringBuilder" "count" "I", Cond.methodLink RJ5 83 ⟨"java/lang/AbstractStringBuilder", "isLatin1", "()Z"⟩, Cond.sameMethod "java/lang/AbstractStringBuilder" "java/lang/AbstractStringBuilder" "isLatin1" "()Z"]
def wsJ5_putStringAt_47b60_r2 : List Cond := [Cond.selects RJ4 ⟨"java/lang/AbstractStringBuilder", "isLatin1", "()Z"⟩ yJ5_isLatin1_aae02, Cond.instanceMethod yJ5_isLatin1_aae02, Cond.code yJ5_isLatin1_aae02 cJ5_isLatin1_aae02 1 (some .boolean), Cond.methodLink RJ5 26 yJ2_newBytesFor_77867, Cond.static yJ2_newBytesFor_77867, Cond.initialized RJ2, Cond.code yJ2_newBytesFor_77867 cJ2_newBytesFor_77867 1 (some (.array .byte)), Cond.arrayClass .byte, Cond.methodLink RJ2 11 yJ2_newBytesLength_0f7a4, Cond.static yJ2_newBytesLength_0f7a4, Cond.code yJ2_newBytesLength_0f7a4 cJ2_newBytesLength_0f7a4 1 (some .int), Cond.constant RJ2 20 (1073741823), Cond.methodLink RJ5 125 yJ1_inflate_0e8fd, Cond.static yJ1_inflate_0e8fd, Cond.initialized RJ1, Cond.code yJ1_inflate_0e8fd cJ1_inflate_0e8fd 5 none, Cond.methodLink RJ1 240 yJ2_inflate_0e8fd, Cond.static yJ2_inflate_0e8fd, Cond.code yJ2_inflate_0e8fd cJ2_inflate_0e8fd 6 none, Cond.methodLink RJ2 173 yJ2_checkBoundsOffCount_d044e, Cond.static yJ2_checkBoundsOffCount_d044e, Cond.code yJ2_checkBoundsOffCount_d044e cJ2_checkBoundsOffCount_d044e 3 none, Cond.methodLink RJ2 48 yJ2_length_9d52b, Cond.static yJ2_length_9d52b]
def wsJ5_putStringAt_47b60_r3 : List Cond := [Cond.code yJ2_length_9d52b cJ2_length_9d52b 1 (some .int), Cond.methodLink RJ2 419 yJ0_checkBoundsOffCount_cabcc, Cond.static yJ0_checkBoundsOffCount_cabcc, Cond.code yJ0_checkBoundsOffCount_cabcc cJ0_checkBoundsOffCount_cabcc 3 (some .int), Cond.fieldLink RJ0 1053 "jdk/internal/util/Preconditions" "SIOOBE_FORMATTER" "Ljava/util/function/BiFunction;", Cond.methodLink RJ0 1065 yJ3_checkFromIndexSize_8c36e, Cond.static yJ3_checkFromIndexSize_8c36e, Cond.initialized RJ3, Cond.code yJ3_checkFromIndexSize_8c36e cJ3_checkFromIndexSize_8c36e 4 (some .int), Cond.methodLink RJ2 111 yJ2_putChar_b72d1, Cond.static yJ2_putChar_b72d1, Cond.code yJ2_putChar_b72d1 cJ2_putChar_b72d1 3 none, Cond.fieldLink RJ2 44 "java/lang/StringUTF16" "$assertionsDisabled" "Z", Cond.fieldLink RJ2 59 "java/lang/StringUTF16" "HI_BYTE_SHIFT" "I", Cond.fieldLink RJ2 63 "java/lang/StringUTF16" "LO_BYTE_SHIFT" "I", Cond.methodLink RJ5 399 yJ0_getBytes_840e7, Cond.instanceMethod yJ0_getBytes_840e7, Cond.selects RJ0 yJ0_getBytes_840e7 yJ0_getBytes_840e7, Cond.code yJ0_getBytes_840e7 cJ0_getBytes_840e7 4 none, Cond.fieldLink RJ0 9 "java/lang/String" "value" "[B", Cond.methodLink RJ0 212 arraycopyName, Cond.native arraycopyName, Cond.static arraycopyName, Cond.initialized "java/lang/System"]
def wsJ5_putStringAt_47b60_r4 : List Cond := [Cond.methodLink RJ0 335 yJ0_coder_7d493, Cond.methodLink RJ0 106 yJ1_inflate_0e8fd]
def wsJ5_putStringAt_47b60 : List Cond := .code yJ5_putStringAt_47b60 cJ5_putStringAt_47b60 3 none :: ((wsJ5_putStringAt_47b60_r1 ++ (wsJ5_putStringAt_47b60_r2 ++ (wsJ5_putStringAt_47b60_r3 ++ wsJ5_putStringAt_47b60_r4))) ++ wsJ40)
def wsJ5_append_cf1ce_r1 : List Cond := [Cond.fieldLink RJ5 79 "java/lang/AbstractStringBuilder" "count" "I", Cond.methodLink RJ5 204 ⟨"java/lang/AbstractStringBuilder", "appendNull", "()Ljava/lang/AbstractStringBuilder;"⟩, Cond.sameMethod "java/lang/AbstractStringBuilder" "java/lang/AbstractStringBuilder" "appendNull" "()Ljava/lang/AbstractStringBuilder;", Cond.selects RJ4 ⟨"java/lang/AbstractStringBuilder", "appendNull", "()Ljava/lang/AbstractStringBuilder;"⟩ yJ5_appendNull_278bc, Cond.instanceMethod yJ5_appendNull_278bc, Cond.initialized RJ5, Cond.code yJ5_appendNull_278bc cJ5_appendNull_278bc 3 (some (.object "java/lang/AbstractStringBuilder")), Cond.fieldLink RJ5 15 "java/lang/AbstractStringBuilder" "value" "[B", Cond.methodLink RJ5 100 ⟨"java/lang/AbstractStringBuilder", "ensureCapacityInternal", "(I)V"⟩, Cond.sameMethod "java/lang/AbstractStringBuilder" "java/lang/AbstractStringBuilder" "ensureCapacityInternal" "(I)V", Cond.selects RJ4 ⟨"java/lang/AbstractStringBuilder", "ensureCapacityInternal", "(I)V"⟩ yJ5_ensureCapacityInternal_d00df, Cond.instanceMethod yJ5_ensureCapacityInternal_d00df, Cond.code yJ5_ensureCapacityInternal_d00df cJ5_ensureCapacityInternal_d00df 3 none, Cond.fieldLink RJ5 22 "java/lang/AbstractStringBuilder" "coder" "B", Cond.methodLink RJ5 104 ⟨"java/lang/AbstractStringBuilder", "newCapacity", "(I)I"⟩, Cond.sameMethod "java/lang/AbstractStringBuilder" "java/lang/AbstractStringBuilder" "newCapacity" "(I)I", Cond.selects RJ4 ⟨"java/lang/AbstractStringBuilder", "newCapacity", "(I)I"⟩ yJ5_newCapacity_0f7a4, Cond.instanceMethod yJ5_newCapacity_0f7a4, Cond.code yJ5_newCapacity_0f7a4 cJ5_newCapacity_0f7a4 6 (some .int), Cond.constant RJ5 39 (2147483647), Cond.methodLink RJ5 114 yJ8_newLength_cabcc, Cond.static yJ8_newLength_cabcc, Cond.initialized RJ8, Cond.code yJ8_newLength_cabcc cJ8_newLength_cabcc 4 (some .int)]
def wsJ5_append_cf1ce_r2 : List Cond := [Cond.methodLink RJ8 194 Lib.Math.max.name, Cond.static Lib.Math.max.name, Cond.initialized "java/lang/Math", Cond.code Lib.Math.max.name Lib.Math.max.code 2 (some .int), Cond.constant RJ8 200 (2147483639), Cond.methodLink RJ8 201 yJ8_hugeLength_7cf53, Cond.static yJ8_hugeLength_7cf53, Cond.code yJ8_hugeLength_7cf53 cJ8_hugeLength_7cf53 3 (some .int), Cond.methodLink RJ5 108 yJ7_copyOf_9075b, Cond.static yJ7_copyOf_9075b, Cond.initialized RJ7, Cond.code yJ7_copyOf_9075b cJ7_copyOf_9075b 3 (some (.array .byte)), Cond.methodLink RJ7 310 ⟨"[B", "clone", "()Ljava/lang/Object;"⟩, Cond.sameMethod "[B" "java/lang/Object" "clone" "()Ljava/lang/Object;", Cond.native ⟨"java/lang/Object", "clone", "()Ljava/lang/Object;"⟩, Cond.instanceMethod ⟨"java/lang/Object", "clone", "()Ljava/lang/Object;"⟩, Cond.selects "[B" ⟨"[B", "clone", "()Ljava/lang/Object;"⟩ ⟨"java/lang/Object", "clone", "()Ljava/lang/Object;"⟩, Cond.classLink RJ7 311 "[B", Cond.arrayClass .byte, Cond.methodLink RJ7 304 Lib.Math.min.name, Cond.static Lib.Math.min.name, Cond.code Lib.Math.min.name Lib.Math.min.code 2 (some .int), Cond.methodLink RJ7 150 arraycopyName, Cond.native arraycopyName]
def wsJ5_append_cf1ce_r3 : List Cond := [Cond.static arraycopyName, Cond.initialized "java/lang/System", Cond.methodLink RJ5 83 ⟨"java/lang/AbstractStringBuilder", "isLatin1", "()Z"⟩, Cond.sameMethod "java/lang/AbstractStringBuilder" "java/lang/AbstractStringBuilder" "isLatin1" "()Z", Cond.selects RJ4 ⟨"java/lang/AbstractStringBuilder", "isLatin1", "()Z"⟩ yJ5_isLatin1_aae02, Cond.instanceMethod yJ5_isLatin1_aae02, Cond.code yJ5_isLatin1_aae02 cJ5_isLatin1_aae02 1 (some .boolean), Cond.fieldLink RJ5 18 "java/lang/String" "COMPACT_STRINGS" "Z", Cond.methodLink RJ5 226 yJ2_putCharsAt_cd4e5, Cond.static yJ2_putCharsAt_cd4e5, Cond.initialized RJ2, Cond.code yJ2_putCharsAt_cd4e5 cJ2_putCharsAt_cd4e5 7 (some .int), Cond.fieldLink RJ2 44 "java/lang/StringUTF16" "$assertionsDisabled" "Z", Cond.methodLink RJ2 96 yJ2_checkBoundsBeginEnd_d044e, Cond.static yJ2_checkBoundsBeginEnd_d044e, Cond.code yJ2_checkBoundsBeginEnd_d044e cJ2_checkBoundsBeginEnd_d044e 3 none, Cond.methodLink RJ2 48 yJ2_length_9d52b, Cond.static yJ2_length_9d52b, Cond.code yJ2_length_9d52b cJ2_length_9d52b 1 (some .int), Cond.methodLink RJ2 241 yJ0_checkBoundsBeginEnd_23922, Cond.static yJ0_checkBoundsBeginEnd_23922, Cond.initialized RJ0, Cond.code yJ0_checkBoundsBeginEnd_23922 cJ0_checkBoundsBeginEnd_23922 3 none, Cond.fieldLink RJ0 1053 "jdk/internal/util/Preconditions" "SIOOBE_FORMATTER" "Ljava/util/function/BiFunction;"]
def wsJ5_append_cf1ce_r4 : List Cond := [Cond.methodLink RJ0 1062 yJ3_checkFromToIndex_8c36e, Cond.static yJ3_checkFromToIndex_8c36e, Cond.initialized RJ3, Cond.code yJ3_checkFromToIndex_8c36e cJ3_checkFromToIndex_8c36e 4 (some .int), Cond.methodLink RJ2 111 yJ2_putChar_b72d1, Cond.static yJ2_putChar_b72d1, Cond.code yJ2_putChar_b72d1 cJ2_putChar_b72d1 3 none, Cond.fieldLink RJ2 59 "java/lang/StringUTF16" "HI_BYTE_SHIFT" "I", Cond.fieldLink RJ2 63 "java/lang/StringUTF16" "LO_BYTE_SHIFT" "I", Cond.methodLink RJ5 32 yJ0_length_8abf5, Cond.instanceMethod yJ0_length_8abf5, Cond.selects RJ0 yJ0_length_8abf5 yJ0_length_8abf5, Cond.code yJ0_length_8abf5 cJ0_length_8abf5 1 (some .int), Cond.fieldLink RJ0 9 "java/lang/String" "value" "[B", Cond.methodLink RJ0 335 yJ0_coder_7d493, Cond.instanceMethod yJ0_coder_7d493, Cond.selects RJ0 yJ0_coder_7d493 yJ0_coder_7d493, Cond.code yJ0_coder_7d493 cJ0_coder_7d493 1 (some .byte), Cond.fieldLink RJ0 38 "java/lang/String" "COMPACT_STRINGS" "Z", Cond.fieldLink RJ0 15 "java/lang/String" "coder" "B", Cond.methodLink RJ5 208 ⟨"java/lang/AbstractStringBuilder", "putStringAt", "(ILjava/lang/String;)V"⟩, Cond.sameMethod "java/lang/AbstractStringBuilder" "java/lang/AbstractStringBuilder" "putStringAt" "(ILjava/lang/String;)V", Cond.selects RJ4 ⟨"java/lang/AbstractStringBuilder", "putStringAt", "(ILjava/lang/String;)V"⟩ yJ5_putStringAt_47b60, Cond.instanceMethod yJ5_putStringAt_47b60]
def wsJ5_append_cf1ce_r5 : List Cond := [Cond.code yJ5_putStringAt_47b60 cJ5_putStringAt_47b60 3 none, Cond.methodLink RJ5 397 ⟨"java/lang/AbstractStringBuilder", "inflateIfNeededFor", "(Ljava/lang/String;)V"⟩, Cond.sameMethod "java/lang/AbstractStringBuilder" "java/lang/AbstractStringBuilder" "inflateIfNeededFor" "(Ljava/lang/String;)V", Cond.selects RJ4 ⟨"java/lang/AbstractStringBuilder", "inflateIfNeededFor", "(Ljava/lang/String;)V"⟩ yJ5_inflateIfNeededFor_a7421, Cond.instanceMethod yJ5_inflateIfNeededFor_a7421, Cond.code yJ5_inflateIfNeededFor_a7421 cJ5_inflateIfNeededFor_a7421 2 none, Cond.methodLink RJ5 40 yJ0_coder_7d493, Cond.methodLink RJ5 195 ⟨"java/lang/AbstractStringBuilder", "inflate", "()V"⟩, Cond.sameMethod "java/lang/AbstractStringBuilder" "java/lang/AbstractStringBuilder" "inflate" "()V", Cond.selects RJ4 ⟨"java/lang/AbstractStringBuilder", "inflate", "()V"⟩ yJ5_inflate_da8c8, Cond.instanceMethod yJ5_inflate_da8c8, Cond.code yJ5_inflate_da8c8 cJ5_inflate_da8c8 2 none, Cond.methodLink RJ5 26 yJ2_newBytesFor_77867, Cond.static yJ2_newBytesFor_77867, Cond.code yJ2_newBytesFor_77867 cJ2_newBytesFor_77867 1 (some (.array .byte)), Cond.methodLink RJ2 11 yJ2_newBytesLength_0f7a4, Cond.static yJ2_newBytesLength_0f7a4, Cond.code yJ2_newBytesLength_0f7a4 cJ2_newBytesLength_0f7a4 1 (some .int), Cond.constant RJ2 20 (1073741823), Cond.methodLink RJ5 125 yJ1_inflate_0e8fd, Cond.static yJ1_inflate_0e8fd, Cond.initialized RJ1, Cond.code yJ1_inflate_0e8fd cJ1_inflate_0e8fd 5 none, Cond.methodLink RJ1 240 yJ2_inflate_0e8fd]
def wsJ5_append_cf1ce_r6 : List Cond := [Cond.static yJ2_inflate_0e8fd, Cond.code yJ2_inflate_0e8fd cJ2_inflate_0e8fd 6 none, Cond.methodLink RJ2 173 yJ2_checkBoundsOffCount_d044e, Cond.static yJ2_checkBoundsOffCount_d044e, Cond.code yJ2_checkBoundsOffCount_d044e cJ2_checkBoundsOffCount_d044e 3 none, Cond.methodLink RJ2 419 yJ0_checkBoundsOffCount_cabcc, Cond.static yJ0_checkBoundsOffCount_cabcc, Cond.code yJ0_checkBoundsOffCount_cabcc cJ0_checkBoundsOffCount_cabcc 3 (some .int), Cond.methodLink RJ0 1065 yJ3_checkFromIndexSize_8c36e, Cond.static yJ3_checkFromIndexSize_8c36e, Cond.code yJ3_checkFromIndexSize_8c36e cJ3_checkFromIndexSize_8c36e 4 (some .int), Cond.methodLink RJ5 399 yJ0_getBytes_840e7, Cond.instanceMethod yJ0_getBytes_840e7, Cond.selects RJ0 yJ0_getBytes_840e7 yJ0_getBytes_840e7, Cond.code yJ0_getBytes_840e7 cJ0_getBytes_840e7 4 none, Cond.methodLink RJ0 212 arraycopyName, Cond.methodLink RJ0 106 yJ1_inflate_0e8fd]
def wsJ5_append_cf1ce : List Cond := .code yJ5_append_cf1ce cJ5_append_cf1ce 3 (some (.object "java/lang/AbstractStringBuilder")) :: ((wsJ5_append_cf1ce_r1 ++ (wsJ5_append_cf1ce_r2 ++ (wsJ5_append_cf1ce_r3 ++ (wsJ5_append_cf1ce_r4 ++ (wsJ5_append_cf1ce_r5 ++ wsJ5_append_cf1ce_r6))))) ++ wsJ40)
def wsJ4_append_15ec4_r1 : List Cond := [Cond.methodLink RJ4 29 yJ5_append_cf1ce, Cond.sameMethod "java/lang/AbstractStringBuilder" "java/lang/AbstractStringBuilder" "append" "(Ljava/lang/String;)Ljava/lang/AbstractStringBuilder;", Cond.superclass RJ4 RJ5, Cond.instanceMethod yJ5_append_cf1ce, Cond.initialized RJ5, Cond.code yJ5_append_cf1ce cJ5_append_cf1ce 3 (some (.object "java/lang/AbstractStringBuilder")), Cond.fieldLink RJ5 79 "java/lang/AbstractStringBuilder" "count" "I", Cond.methodLink RJ5 204 ⟨"java/lang/AbstractStringBuilder", "appendNull", "()Ljava/lang/AbstractStringBuilder;"⟩, Cond.sameMethod "java/lang/AbstractStringBuilder" "java/lang/AbstractStringBuilder" "appendNull" "()Ljava/lang/AbstractStringBuilder;", Cond.selects RJ4 ⟨"java/lang/AbstractStringBuilder", "appendNull", "()Ljava/lang/AbstractStringBuilder;"⟩ yJ5_appendNull_278bc, Cond.instanceMethod yJ5_appendNull_278bc, Cond.code yJ5_appendNull_278bc cJ5_appendNull_278bc 3 (some (.object "java/lang/AbstractStringBuilder")), Cond.fieldLink RJ5 15 "java/lang/AbstractStringBuilder" "value" "[B", Cond.methodLink RJ5 100 ⟨"java/lang/AbstractStringBuilder", "ensureCapacityInternal", "(I)V"⟩, Cond.sameMethod "java/lang/AbstractStringBuilder" "java/lang/AbstractStringBuilder" "ensureCapacityInternal" "(I)V", Cond.selects RJ4 ⟨"java/lang/AbstractStringBuilder", "ensureCapacityInternal", "(I)V"⟩ yJ5_ensureCapacityInternal_d00df, Cond.instanceMethod yJ5_ensureCapacityInternal_d00df, Cond.code yJ5_ensureCapacityInternal_d00df cJ5_ensureCapacityInternal_d00df 3 none, Cond.fieldLink RJ5 22 "java/lang/AbstractStringBuilder" "coder" "B", Cond.methodLink RJ5 104 ⟨"java/lang/AbstractStringBuilder", "newCapacity", "(I)I"⟩, Cond.sameMethod "java/lang/AbstractStringBuilder" "java/lang/AbstractStringBuilder" "newCapacity" "(I)I", Cond.selects RJ4 ⟨"java/lang/AbstractStringBuilder", "newCapacity", "(I)I"⟩ yJ5_newCapacity_0f7a4, Cond.instanceMethod yJ5_newCapacity_0f7a4, Cond.code yJ5_newCapacity_0f7a4 cJ5_newCapacity_0f7a4 6 (some .int)]
def wsJ4_append_15ec4_r2 : List Cond := [Cond.constant RJ5 39 (2147483647), Cond.methodLink RJ5 114 yJ8_newLength_cabcc, Cond.static yJ8_newLength_cabcc, Cond.initialized RJ8, Cond.code yJ8_newLength_cabcc cJ8_newLength_cabcc 4 (some .int), Cond.methodLink RJ8 194 Lib.Math.max.name, Cond.static Lib.Math.max.name, Cond.initialized "java/lang/Math", Cond.code Lib.Math.max.name Lib.Math.max.code 2 (some .int), Cond.constant RJ8 200 (2147483639), Cond.methodLink RJ8 201 yJ8_hugeLength_7cf53, Cond.static yJ8_hugeLength_7cf53, Cond.code yJ8_hugeLength_7cf53 cJ8_hugeLength_7cf53 3 (some .int), Cond.methodLink RJ5 108 yJ7_copyOf_9075b, Cond.static yJ7_copyOf_9075b, Cond.initialized RJ7, Cond.code yJ7_copyOf_9075b cJ7_copyOf_9075b 3 (some (.array .byte)), Cond.methodLink RJ7 310 ⟨"[B", "clone", "()Ljava/lang/Object;"⟩, Cond.sameMethod "[B" "java/lang/Object" "clone" "()Ljava/lang/Object;", Cond.native ⟨"java/lang/Object", "clone", "()Ljava/lang/Object;"⟩, Cond.instanceMethod ⟨"java/lang/Object", "clone", "()Ljava/lang/Object;"⟩, Cond.selects "[B" ⟨"[B", "clone", "()Ljava/lang/Object;"⟩ ⟨"java/lang/Object", "clone", "()Ljava/lang/Object;"⟩, Cond.classLink RJ7 311 "[B", Cond.arrayClass .byte]
def wsJ4_append_15ec4_r3 : List Cond := [Cond.methodLink RJ7 304 Lib.Math.min.name, Cond.static Lib.Math.min.name, Cond.code Lib.Math.min.name Lib.Math.min.code 2 (some .int), Cond.methodLink RJ7 150 arraycopyName, Cond.native arraycopyName, Cond.static arraycopyName, Cond.initialized "java/lang/System", Cond.methodLink RJ5 83 ⟨"java/lang/AbstractStringBuilder", "isLatin1", "()Z"⟩, Cond.sameMethod "java/lang/AbstractStringBuilder" "java/lang/AbstractStringBuilder" "isLatin1" "()Z", Cond.selects RJ4 ⟨"java/lang/AbstractStringBuilder", "isLatin1", "()Z"⟩ yJ5_isLatin1_aae02, Cond.instanceMethod yJ5_isLatin1_aae02, Cond.code yJ5_isLatin1_aae02 cJ5_isLatin1_aae02 1 (some .boolean), Cond.fieldLink RJ5 18 "java/lang/String" "COMPACT_STRINGS" "Z", Cond.methodLink RJ5 226 yJ2_putCharsAt_cd4e5, Cond.static yJ2_putCharsAt_cd4e5, Cond.initialized RJ2, Cond.code yJ2_putCharsAt_cd4e5 cJ2_putCharsAt_cd4e5 7 (some .int), Cond.fieldLink RJ2 44 "java/lang/StringUTF16" "$assertionsDisabled" "Z", Cond.methodLink RJ2 96 yJ2_checkBoundsBeginEnd_d044e, Cond.static yJ2_checkBoundsBeginEnd_d044e, Cond.code yJ2_checkBoundsBeginEnd_d044e cJ2_checkBoundsBeginEnd_d044e 3 none, Cond.methodLink RJ2 48 yJ2_length_9d52b, Cond.static yJ2_length_9d52b, Cond.code yJ2_length_9d52b cJ2_length_9d52b 1 (some .int)]
def wsJ4_append_15ec4_r4 : List Cond := [Cond.methodLink RJ2 241 yJ0_checkBoundsBeginEnd_23922, Cond.static yJ0_checkBoundsBeginEnd_23922, Cond.initialized RJ0, Cond.code yJ0_checkBoundsBeginEnd_23922 cJ0_checkBoundsBeginEnd_23922 3 none, Cond.fieldLink RJ0 1053 "jdk/internal/util/Preconditions" "SIOOBE_FORMATTER" "Ljava/util/function/BiFunction;", Cond.methodLink RJ0 1062 yJ3_checkFromToIndex_8c36e, Cond.static yJ3_checkFromToIndex_8c36e, Cond.initialized RJ3, Cond.code yJ3_checkFromToIndex_8c36e cJ3_checkFromToIndex_8c36e 4 (some .int), Cond.methodLink RJ2 111 yJ2_putChar_b72d1, Cond.static yJ2_putChar_b72d1, Cond.code yJ2_putChar_b72d1 cJ2_putChar_b72d1 3 none, Cond.fieldLink RJ2 59 "java/lang/StringUTF16" "HI_BYTE_SHIFT" "I", Cond.fieldLink RJ2 63 "java/lang/StringUTF16" "LO_BYTE_SHIFT" "I", Cond.methodLink RJ5 32 yJ0_length_8abf5, Cond.instanceMethod yJ0_length_8abf5, Cond.selects RJ0 yJ0_length_8abf5 yJ0_length_8abf5, Cond.code yJ0_length_8abf5 cJ0_length_8abf5 1 (some .int), Cond.fieldLink RJ0 9 "java/lang/String" "value" "[B", Cond.methodLink RJ0 335 yJ0_coder_7d493, Cond.instanceMethod yJ0_coder_7d493, Cond.selects RJ0 yJ0_coder_7d493 yJ0_coder_7d493, Cond.code yJ0_coder_7d493 cJ0_coder_7d493 1 (some .byte), Cond.fieldLink RJ0 38 "java/lang/String" "COMPACT_STRINGS" "Z"]
def wsJ4_append_15ec4_r5 : List Cond := [Cond.fieldLink RJ0 15 "java/lang/String" "coder" "B", Cond.methodLink RJ5 208 ⟨"java/lang/AbstractStringBuilder", "putStringAt", "(ILjava/lang/String;)V"⟩, Cond.sameMethod "java/lang/AbstractStringBuilder" "java/lang/AbstractStringBuilder" "putStringAt" "(ILjava/lang/String;)V", Cond.selects RJ4 ⟨"java/lang/AbstractStringBuilder", "putStringAt", "(ILjava/lang/String;)V"⟩ yJ5_putStringAt_47b60, Cond.instanceMethod yJ5_putStringAt_47b60, Cond.code yJ5_putStringAt_47b60 cJ5_putStringAt_47b60 3 none, Cond.methodLink RJ5 397 ⟨"java/lang/AbstractStringBuilder", "inflateIfNeededFor", "(Ljava/lang/String;)V"⟩, Cond.sameMethod "java/lang/AbstractStringBuilder" "java/lang/AbstractStringBuilder" "inflateIfNeededFor" "(Ljava/lang/String;)V", Cond.selects RJ4 ⟨"java/lang/AbstractStringBuilder", "inflateIfNeededFor", "(Ljava/lang/String;)V"⟩ yJ5_inflateIfNeededFor_a7421, Cond.instanceMethod yJ5_inflateIfNeededFor_a7421, Cond.code yJ5_inflateIfNeededFor_a7421 cJ5_inflateIfNeededFor_a7421 2 none, Cond.methodLink RJ5 40 yJ0_coder_7d493, Cond.methodLink RJ5 195 ⟨"java/lang/AbstractStringBuilder", "inflate", "()V"⟩, Cond.sameMethod "java/lang/AbstractStringBuilder" "java/lang/AbstractStringBuilder" "inflate" "()V", Cond.selects RJ4 ⟨"java/lang/AbstractStringBuilder", "inflate", "()V"⟩ yJ5_inflate_da8c8, Cond.instanceMethod yJ5_inflate_da8c8, Cond.code yJ5_inflate_da8c8 cJ5_inflate_da8c8 2 none, Cond.methodLink RJ5 26 yJ2_newBytesFor_77867, Cond.static yJ2_newBytesFor_77867, Cond.code yJ2_newBytesFor_77867 cJ2_newBytesFor_77867 1 (some (.array .byte)), Cond.methodLink RJ2 11 yJ2_newBytesLength_0f7a4, Cond.static yJ2_newBytesLength_0f7a4, Cond.code yJ2_newBytesLength_0f7a4 cJ2_newBytesLength_0f7a4 1 (some .int), Cond.constant RJ2 20 (1073741823)]
def wsJ4_append_15ec4_r6 : List Cond := [Cond.methodLink RJ5 125 yJ1_inflate_0e8fd, Cond.static yJ1_inflate_0e8fd, Cond.initialized RJ1, Cond.code yJ1_inflate_0e8fd cJ1_inflate_0e8fd 5 none, Cond.methodLink RJ1 240 yJ2_inflate_0e8fd, Cond.static yJ2_inflate_0e8fd, Cond.code yJ2_inflate_0e8fd cJ2_inflate_0e8fd 6 none, Cond.methodLink RJ2 173 yJ2_checkBoundsOffCount_d044e, Cond.static yJ2_checkBoundsOffCount_d044e, Cond.code yJ2_checkBoundsOffCount_d044e cJ2_checkBoundsOffCount_d044e 3 none, Cond.methodLink RJ2 419 yJ0_checkBoundsOffCount_cabcc, Cond.static yJ0_checkBoundsOffCount_cabcc, Cond.code yJ0_checkBoundsOffCount_cabcc cJ0_checkBoundsOffCount_cabcc 3 (some .int), Cond.methodLink RJ0 1065 yJ3_checkFromIndexSize_8c36e, Cond.static yJ3_checkFromIndexSize_8c36e, Cond.code yJ3_checkFromIndexSize_8c36e cJ3_checkFromIndexSize_8c36e 4 (some .int), Cond.methodLink RJ5 399 yJ0_getBytes_840e7, Cond.instanceMethod yJ0_getBytes_840e7, Cond.selects RJ0 yJ0_getBytes_840e7 yJ0_getBytes_840e7, Cond.code yJ0_getBytes_840e7 cJ0_getBytes_840e7 4 none, Cond.methodLink RJ0 212 arraycopyName, Cond.methodLink RJ0 106 yJ1_inflate_0e8fd]
def wsJ4_append_15ec4 : List Cond := .code yJ4_append_15ec4 cJ4_append_15ec4 2 (some (.object "java/lang/StringBuilder")) :: ((wsJ4_append_15ec4_r1 ++ (wsJ4_append_15ec4_r2 ++ (wsJ4_append_15ec4_r3 ++ (wsJ4_append_15ec4_r4 ++ (wsJ4_append_15ec4_r5 ++ wsJ4_append_15ec4_r6))))) ++ wsJ40)
def wsX4_appendWords_r1 : List Cond := [Cond.fieldLink RX4 9 "StreetIndex" "kinds" "[I", Cond.methodLink RX4 226 yJ4_append_cf468, Cond.instanceMethod yJ4_append_cf468, Cond.selects RJ4 yJ4_append_cf468 yJ4_append_cf468, Cond.initialized RJ4, Cond.code yJ4_append_cf468 cJ4_append_cf468 2 (some (.object "java/lang/StringBuilder")), Cond.methodLink RJ4 50 yJ5_append_3fe6f, Cond.sameMethod "java/lang/AbstractStringBuilder" "java/lang/AbstractStringBuilder" "append" "(C)Ljava/lang/AbstractStringBuilder;", Cond.superclass RJ4 RJ5, Cond.instanceMethod yJ5_append_3fe6f, Cond.initialized RJ5, Cond.code yJ5_append_3fe6f cJ5_append_3fe6f 2 (some (.object "java/lang/AbstractStringBuilder")), Cond.fieldLink RJ5 79 "java/lang/AbstractStringBuilder" "count" "I", Cond.fieldLink RJ5 15 "java/lang/AbstractStringBuilder" "value" "[B", Cond.methodLink RJ5 100 ⟨"java/lang/AbstractStringBuilder", "ensureCapacityInternal", "(I)V"⟩, Cond.sameMethod "java/lang/AbstractStringBuilder" "java/lang/AbstractStringBuilder" "ensureCapacityInternal" "(I)V", Cond.selects RJ4 ⟨"java/lang/AbstractStringBuilder", "ensureCapacityInternal", "(I)V"⟩ yJ5_ensureCapacityInternal_d00df, Cond.instanceMethod yJ5_ensureCapacityInternal_d00df, Cond.code yJ5_ensureCapacityInternal_d00df cJ5_ensureCapacityInternal_d00df 3 none, Cond.fieldLink RJ5 22 "java/lang/AbstractStringBuilder" "coder" "B", Cond.methodLink RJ5 104 ⟨"java/lang/AbstractStringBuilder", "newCapacity", "(I)I"⟩, Cond.sameMethod "java/lang/AbstractStringBuilder" "java/lang/AbstractStringBuilder" "newCapacity" "(I)I", Cond.selects RJ4 ⟨"java/lang/AbstractStringBuilder", "newCapacity", "(I)I"⟩ yJ5_newCapacity_0f7a4, Cond.instanceMethod yJ5_newCapacity_0f7a4]
def wsX4_appendWords_r2 : List Cond := [Cond.code yJ5_newCapacity_0f7a4 cJ5_newCapacity_0f7a4 6 (some .int), Cond.constant RJ5 39 (2147483647), Cond.methodLink RJ5 114 yJ8_newLength_cabcc, Cond.static yJ8_newLength_cabcc, Cond.initialized RJ8, Cond.code yJ8_newLength_cabcc cJ8_newLength_cabcc 4 (some .int), Cond.methodLink RJ8 194 Lib.Math.max.name, Cond.static Lib.Math.max.name, Cond.initialized "java/lang/Math", Cond.code Lib.Math.max.name Lib.Math.max.code 2 (some .int), Cond.constant RJ8 200 (2147483639), Cond.methodLink RJ8 201 yJ8_hugeLength_7cf53, Cond.static yJ8_hugeLength_7cf53, Cond.code yJ8_hugeLength_7cf53 cJ8_hugeLength_7cf53 3 (some .int), Cond.methodLink RJ5 108 yJ7_copyOf_9075b, Cond.static yJ7_copyOf_9075b, Cond.initialized RJ7, Cond.code yJ7_copyOf_9075b cJ7_copyOf_9075b 3 (some (.array .byte)), Cond.methodLink RJ7 310 ⟨"[B", "clone", "()Ljava/lang/Object;"⟩, Cond.sameMethod "[B" "java/lang/Object" "clone" "()Ljava/lang/Object;", Cond.native ⟨"java/lang/Object", "clone", "()Ljava/lang/Object;"⟩, Cond.instanceMethod ⟨"java/lang/Object", "clone", "()Ljava/lang/Object;"⟩, Cond.selects "[B" ⟨"[B", "clone", "()Ljava/lang/Object;"⟩ ⟨"java/lang/Object", "clone", "()Ljava/lang/Object;"⟩, Cond.classLink RJ7 311 "[B"]
def wsX4_appendWords_r3 : List Cond := [Cond.arrayClass .byte, Cond.methodLink RJ7 304 Lib.Math.min.name, Cond.static Lib.Math.min.name, Cond.code Lib.Math.min.name Lib.Math.min.code 2 (some .int), Cond.methodLink RJ7 150 arraycopyName, Cond.native arraycopyName, Cond.static arraycopyName, Cond.initialized "java/lang/System", Cond.methodLink RJ5 83 ⟨"java/lang/AbstractStringBuilder", "isLatin1", "()Z"⟩, Cond.sameMethod "java/lang/AbstractStringBuilder" "java/lang/AbstractStringBuilder" "isLatin1" "()Z", Cond.selects RJ4 ⟨"java/lang/AbstractStringBuilder", "isLatin1", "()Z"⟩ yJ5_isLatin1_aae02, Cond.instanceMethod yJ5_isLatin1_aae02, Cond.code yJ5_isLatin1_aae02 cJ5_isLatin1_aae02 1 (some .boolean), Cond.fieldLink RJ5 18 "java/lang/String" "COMPACT_STRINGS" "Z", Cond.methodLink RJ5 191 yJ1_canEncode_fc78d, Cond.static yJ1_canEncode_fc78d, Cond.initialized RJ1, Cond.code yJ1_canEncode_fc78d cJ1_canEncode_fc78d 1 (some .boolean), Cond.methodLink RJ5 195 ⟨"java/lang/AbstractStringBuilder", "inflate", "()V"⟩, Cond.sameMethod "java/lang/AbstractStringBuilder" "java/lang/AbstractStringBuilder" "inflate" "()V", Cond.selects RJ4 ⟨"java/lang/AbstractStringBuilder", "inflate", "()V"⟩ yJ5_inflate_da8c8, Cond.instanceMethod yJ5_inflate_da8c8, Cond.code yJ5_inflate_da8c8 cJ5_inflate_da8c8 2 none, Cond.methodLink RJ5 26 yJ2_newBytesFor_77867]
def wsX4_appendWords_r4 : List Cond := [Cond.static yJ2_newBytesFor_77867, Cond.initialized RJ2, Cond.code yJ2_newBytesFor_77867 cJ2_newBytesFor_77867 1 (some (.array .byte)), Cond.methodLink RJ2 11 yJ2_newBytesLength_0f7a4, Cond.static yJ2_newBytesLength_0f7a4, Cond.code yJ2_newBytesLength_0f7a4 cJ2_newBytesLength_0f7a4 1 (some .int), Cond.constant RJ2 20 (1073741823), Cond.methodLink RJ5 125 yJ1_inflate_0e8fd, Cond.static yJ1_inflate_0e8fd, Cond.code yJ1_inflate_0e8fd cJ1_inflate_0e8fd 5 none, Cond.methodLink RJ1 240 yJ2_inflate_0e8fd, Cond.static yJ2_inflate_0e8fd, Cond.code yJ2_inflate_0e8fd cJ2_inflate_0e8fd 6 none, Cond.methodLink RJ2 173 yJ2_checkBoundsOffCount_d044e, Cond.static yJ2_checkBoundsOffCount_d044e, Cond.code yJ2_checkBoundsOffCount_d044e cJ2_checkBoundsOffCount_d044e 3 none, Cond.methodLink RJ2 48 yJ2_length_9d52b, Cond.static yJ2_length_9d52b, Cond.code yJ2_length_9d52b cJ2_length_9d52b 1 (some .int), Cond.methodLink RJ2 419 yJ0_checkBoundsOffCount_cabcc, Cond.static yJ0_checkBoundsOffCount_cabcc, Cond.initialized RJ0, Cond.code yJ0_checkBoundsOffCount_cabcc cJ0_checkBoundsOffCount_cabcc 3 (some .int), Cond.fieldLink RJ0 1053 "jdk/internal/util/Preconditions" "SIOOBE_FORMATTER" "Ljava/util/function/BiFunction;"]
def wsX4_appendWords_r5 : List Cond := [Cond.methodLink RJ0 1065 yJ3_checkFromIndexSize_8c36e, Cond.static yJ3_checkFromIndexSize_8c36e, Cond.initialized RJ3, Cond.code yJ3_checkFromIndexSize_8c36e cJ3_checkFromIndexSize_8c36e 4 (some .int), Cond.methodLink RJ2 111 yJ2_putChar_b72d1, Cond.static yJ2_putChar_b72d1, Cond.code yJ2_putChar_b72d1 cJ2_putChar_b72d1 3 none, Cond.fieldLink RJ2 44 "java/lang/StringUTF16" "$assertionsDisabled" "Z", Cond.fieldLink RJ2 59 "java/lang/StringUTF16" "HI_BYTE_SHIFT" "I", Cond.fieldLink RJ2 63 "java/lang/StringUTF16" "LO_BYTE_SHIFT" "I", Cond.methodLink RJ5 197 yJ2_putCharSB_b72d1, Cond.static yJ2_putCharSB_b72d1, Cond.code yJ2_putCharSB_b72d1 cJ2_putCharSB_b72d1 3 none, Cond.methodLink RJ2 67 yJ2_checkIndex_2214a, Cond.static yJ2_checkIndex_2214a, Cond.code yJ2_checkIndex_2214a cJ2_checkIndex_2214a 2 none, Cond.methodLink RJ2 414 yJ0_checkIndex_df160, Cond.static yJ0_checkIndex_df160, Cond.code yJ0_checkIndex_df160 cJ0_checkIndex_df160 2 none, Cond.methodLink RJ0 1059 yJ3_checkIndex_8e157, Cond.static yJ3_checkIndex_8e157, Cond.code yJ3_checkIndex_8e157 cJ3_checkIndex_8e157 3 (some .int), Cond.methodLink RX4 244 yJ4_append_15ec4, Cond.instanceMethod yJ4_append_15ec4]
def wsX4_appendWords_r6 : List Cond := [Cond.selects RJ4 yJ4_append_15ec4 yJ4_append_15ec4, Cond.code yJ4_append_15ec4 cJ4_append_15ec4 2 (some (.object "java/lang/StringBuilder")), Cond.methodLink RJ4 29 yJ5_append_cf1ce, Cond.sameMethod "java/lang/AbstractStringBuilder" "java/lang/AbstractStringBuilder" "append" "(Ljava/lang/String;)Ljava/lang/AbstractStringBuilder;", Cond.instanceMethod yJ5_append_cf1ce, Cond.code yJ5_append_cf1ce cJ5_append_cf1ce 3 (some (.object "java/lang/AbstractStringBuilder")), Cond.methodLink RJ5 204 ⟨"java/lang/AbstractStringBuilder", "appendNull", "()Ljava/lang/AbstractStringBuilder;"⟩, Cond.sameMethod "java/lang/AbstractStringBuilder" "java/lang/AbstractStringBuilder" "appendNull" "()Ljava/lang/AbstractStringBuilder;", Cond.selects RJ4 ⟨"java/lang/AbstractStringBuilder", "appendNull", "()Ljava/lang/AbstractStringBuilder;"⟩ yJ5_appendNull_278bc, Cond.instanceMethod yJ5_appendNull_278bc, Cond.code yJ5_appendNull_278bc cJ5_appendNull_278bc 3 (some (.object "java/lang/AbstractStringBuilder")), Cond.methodLink RJ5 226 yJ2_putCharsAt_cd4e5, Cond.static yJ2_putCharsAt_cd4e5, Cond.code yJ2_putCharsAt_cd4e5 cJ2_putCharsAt_cd4e5 7 (some .int), Cond.methodLink RJ2 96 yJ2_checkBoundsBeginEnd_d044e, Cond.static yJ2_checkBoundsBeginEnd_d044e, Cond.code yJ2_checkBoundsBeginEnd_d044e cJ2_checkBoundsBeginEnd_d044e 3 none, Cond.methodLink RJ2 241 yJ0_checkBoundsBeginEnd_23922, Cond.static yJ0_checkBoundsBeginEnd_23922, Cond.code yJ0_checkBoundsBeginEnd_23922 cJ0_checkBoundsBeginEnd_23922 3 none, Cond.methodLink RJ0 1062 yJ3_checkFromToIndex_8c36e, Cond.static yJ3_checkFromToIndex_8c36e, Cond.code yJ3_checkFromToIndex_8c36e cJ3_checkFromToIndex_8c36e 4 (some .int), Cond.methodLink RJ5 32 yJ0_length_8abf5]
def wsX4_appendWords_r7 : List Cond := [Cond.instanceMethod yJ0_length_8abf5, Cond.selects RJ0 yJ0_length_8abf5 yJ0_length_8abf5, Cond.code yJ0_length_8abf5 cJ0_length_8abf5 1 (some .int), Cond.fieldLink RJ0 9 "java/lang/String" "value" "[B", Cond.methodLink RJ0 335 yJ0_coder_7d493, Cond.instanceMethod yJ0_coder_7d493, Cond.selects RJ0 yJ0_coder_7d493 yJ0_coder_7d493, Cond.code yJ0_coder_7d493 cJ0_coder_7d493 1 (some .byte), Cond.fieldLink RJ0 38 "java/lang/String" "COMPACT_STRINGS" "Z", Cond.fieldLink RJ0 15 "java/lang/String" "coder" "B", Cond.methodLink RJ5 208 ⟨"java/lang/AbstractStringBuilder", "putStringAt", "(ILjava/lang/String;)V"⟩, Cond.sameMethod "java/lang/AbstractStringBuilder" "java/lang/AbstractStringBuilder" "putStringAt" "(ILjava/lang/String;)V", Cond.selects RJ4 ⟨"java/lang/AbstractStringBuilder", "putStringAt", "(ILjava/lang/String;)V"⟩ yJ5_putStringAt_47b60, Cond.instanceMethod yJ5_putStringAt_47b60, Cond.code yJ5_putStringAt_47b60 cJ5_putStringAt_47b60 3 none, Cond.methodLink RJ5 397 ⟨"java/lang/AbstractStringBuilder", "inflateIfNeededFor", "(Ljava/lang/String;)V"⟩, Cond.sameMethod "java/lang/AbstractStringBuilder" "java/lang/AbstractStringBuilder" "inflateIfNeededFor" "(Ljava/lang/String;)V", Cond.selects RJ4 ⟨"java/lang/AbstractStringBuilder", "inflateIfNeededFor", "(Ljava/lang/String;)V"⟩ yJ5_inflateIfNeededFor_a7421, Cond.instanceMethod yJ5_inflateIfNeededFor_a7421, Cond.code yJ5_inflateIfNeededFor_a7421 cJ5_inflateIfNeededFor_a7421 2 none, Cond.methodLink RJ5 40 yJ0_coder_7d493, Cond.methodLink RJ5 399 yJ0_getBytes_840e7, Cond.instanceMethod yJ0_getBytes_840e7, Cond.selects RJ0 yJ0_getBytes_840e7 yJ0_getBytes_840e7]
def wsX4_appendWords_r8 : List Cond := [Cond.code yJ0_getBytes_840e7 cJ0_getBytes_840e7 4 none, Cond.methodLink RJ0 212 arraycopyName, Cond.methodLink RJ0 106 yJ1_inflate_0e8fd]
def wsX4_appendWords : List Cond := .code yX4_appendWords cX4_appendWords 7 none :: ((wsX4_appendWords_r1 ++ (wsX4_appendWords_r2 ++ (wsX4_appendWords_r3 ++ (wsX4_appendWords_r4 ++ (wsX4_appendWords_r5 ++ (wsX4_appendWords_r6 ++ (wsX4_appendWords_r7 ++ wsX4_appendWords_r8))))))) ++ wsX00 ++ wsX40 ++ wsJ40)
def wsX4_appendName_r1 : List Cond := [Cond.fieldLink RX4 9 "StreetIndex" "kinds" "[I", Cond.instanceMethod yX0_countMoved, Cond.initialized RX0, Cond.selects RX0 yX0_countMoved yX0_countMoved, Cond.code yX0_countMoved cX0_countMoved 4 (some .int), Cond.fieldLink RX0 26 "StreetIndex$Street" "wordCount" "I", Cond.fieldLink RX0 9 "StreetIndex$Street" "words" "[I", Cond.methodLink RX4 238 yX4_appendWords, Cond.instanceMethod yX4_appendWords, Cond.selects RX4 yX4_appendWords yX4_appendWords, Cond.initialized RX4, Cond.code yX4_appendWords cX4_appendWords 7 none, Cond.methodLink RX4 226 yJ4_append_cf468, Cond.instanceMethod yJ4_append_cf468, Cond.selects RJ4 yJ4_append_cf468 yJ4_append_cf468, Cond.initialized RJ4, Cond.code yJ4_append_cf468 cJ4_append_cf468 2 (some (.object "java/lang/StringBuilder")), Cond.methodLink RJ4 50 yJ5_append_3fe6f, Cond.sameMethod "java/lang/AbstractStringBuilder" "java/lang/AbstractStringBuilder" "append" "(C)Ljava/lang/AbstractStringBuilder;", Cond.superclass RJ4 RJ5, Cond.instanceMethod yJ5_append_3fe6f, Cond.initialized RJ5, Cond.code yJ5_append_3fe6f cJ5_append_3fe6f 2 (some (.object "java/lang/AbstractStringBuilder")), Cond.fieldLink RJ5 79 "java/lang/AbstractStringBuilder" "count" "I"]
def wsX4_appendName_r2 : List Cond := [Cond.fieldLink RJ5 15 "java/lang/AbstractStringBuilder" "value" "[B", Cond.methodLink RJ5 100 ⟨"java/lang/AbstractStringBuilder", "ensureCapacityInternal", "(I)V"⟩, Cond.sameMethod "java/lang/AbstractStringBuilder" "java/lang/AbstractStringBuilder" "ensureCapacityInternal" "(I)V", Cond.selects RJ4 ⟨"java/lang/AbstractStringBuilder", "ensureCapacityInternal", "(I)V"⟩ yJ5_ensureCapacityInternal_d00df, Cond.instanceMethod yJ5_ensureCapacityInternal_d00df, Cond.code yJ5_ensureCapacityInternal_d00df cJ5_ensureCapacityInternal_d00df 3 none, Cond.fieldLink RJ5 22 "java/lang/AbstractStringBuilder" "coder" "B", Cond.methodLink RJ5 104 ⟨"java/lang/AbstractStringBuilder", "newCapacity", "(I)I"⟩, Cond.sameMethod "java/lang/AbstractStringBuilder" "java/lang/AbstractStringBuilder" "newCapacity" "(I)I", Cond.selects RJ4 ⟨"java/lang/AbstractStringBuilder", "newCapacity", "(I)I"⟩ yJ5_newCapacity_0f7a4, Cond.instanceMethod yJ5_newCapacity_0f7a4, Cond.code yJ5_newCapacity_0f7a4 cJ5_newCapacity_0f7a4 6 (some .int), Cond.constant RJ5 39 (2147483647), Cond.methodLink RJ5 114 yJ8_newLength_cabcc, Cond.static yJ8_newLength_cabcc, Cond.initialized RJ8, Cond.code yJ8_newLength_cabcc cJ8_newLength_cabcc 4 (some .int), Cond.methodLink RJ8 194 Lib.Math.max.name, Cond.static Lib.Math.max.name, Cond.initialized "java/lang/Math", Cond.code Lib.Math.max.name Lib.Math.max.code 2 (some .int), Cond.constant RJ8 200 (2147483639), Cond.methodLink RJ8 201 yJ8_hugeLength_7cf53, Cond.static yJ8_hugeLength_7cf53]
def wsX4_appendName_r3 : List Cond := [Cond.code yJ8_hugeLength_7cf53 cJ8_hugeLength_7cf53 3 (some .int), Cond.methodLink RJ5 108 yJ7_copyOf_9075b, Cond.static yJ7_copyOf_9075b, Cond.initialized RJ7, Cond.code yJ7_copyOf_9075b cJ7_copyOf_9075b 3 (some (.array .byte)), Cond.methodLink RJ7 310 ⟨"[B", "clone", "()Ljava/lang/Object;"⟩, Cond.sameMethod "[B" "java/lang/Object" "clone" "()Ljava/lang/Object;", Cond.native ⟨"java/lang/Object", "clone", "()Ljava/lang/Object;"⟩, Cond.instanceMethod ⟨"java/lang/Object", "clone", "()Ljava/lang/Object;"⟩, Cond.selects "[B" ⟨"[B", "clone", "()Ljava/lang/Object;"⟩ ⟨"java/lang/Object", "clone", "()Ljava/lang/Object;"⟩, Cond.classLink RJ7 311 "[B", Cond.arrayClass .byte, Cond.methodLink RJ7 304 Lib.Math.min.name, Cond.static Lib.Math.min.name, Cond.code Lib.Math.min.name Lib.Math.min.code 2 (some .int), Cond.methodLink RJ7 150 arraycopyName, Cond.native arraycopyName, Cond.static arraycopyName, Cond.initialized "java/lang/System", Cond.methodLink RJ5 83 ⟨"java/lang/AbstractStringBuilder", "isLatin1", "()Z"⟩, Cond.sameMethod "java/lang/AbstractStringBuilder" "java/lang/AbstractStringBuilder" "isLatin1" "()Z", Cond.selects RJ4 ⟨"java/lang/AbstractStringBuilder", "isLatin1", "()Z"⟩ yJ5_isLatin1_aae02, Cond.instanceMethod yJ5_isLatin1_aae02, Cond.code yJ5_isLatin1_aae02 cJ5_isLatin1_aae02 1 (some .boolean)]
def wsX4_appendName_r4 : List Cond := [Cond.fieldLink RJ5 18 "java/lang/String" "COMPACT_STRINGS" "Z", Cond.methodLink RJ5 191 yJ1_canEncode_fc78d, Cond.static yJ1_canEncode_fc78d, Cond.initialized RJ1, Cond.code yJ1_canEncode_fc78d cJ1_canEncode_fc78d 1 (some .boolean), Cond.methodLink RJ5 195 ⟨"java/lang/AbstractStringBuilder", "inflate", "()V"⟩, Cond.sameMethod "java/lang/AbstractStringBuilder" "java/lang/AbstractStringBuilder" "inflate" "()V", Cond.selects RJ4 ⟨"java/lang/AbstractStringBuilder", "inflate", "()V"⟩ yJ5_inflate_da8c8, Cond.instanceMethod yJ5_inflate_da8c8, Cond.code yJ5_inflate_da8c8 cJ5_inflate_da8c8 2 none, Cond.methodLink RJ5 26 yJ2_newBytesFor_77867, Cond.static yJ2_newBytesFor_77867, Cond.initialized RJ2, Cond.code yJ2_newBytesFor_77867 cJ2_newBytesFor_77867 1 (some (.array .byte)), Cond.methodLink RJ2 11 yJ2_newBytesLength_0f7a4, Cond.static yJ2_newBytesLength_0f7a4, Cond.code yJ2_newBytesLength_0f7a4 cJ2_newBytesLength_0f7a4 1 (some .int), Cond.constant RJ2 20 (1073741823), Cond.methodLink RJ5 125 yJ1_inflate_0e8fd, Cond.static yJ1_inflate_0e8fd, Cond.code yJ1_inflate_0e8fd cJ1_inflate_0e8fd 5 none, Cond.methodLink RJ1 240 yJ2_inflate_0e8fd, Cond.static yJ2_inflate_0e8fd, Cond.code yJ2_inflate_0e8fd cJ2_inflate_0e8fd 6 none]
def wsX4_appendName_r5 : List Cond := [Cond.methodLink RJ2 173 yJ2_checkBoundsOffCount_d044e, Cond.static yJ2_checkBoundsOffCount_d044e, Cond.code yJ2_checkBoundsOffCount_d044e cJ2_checkBoundsOffCount_d044e 3 none, Cond.methodLink RJ2 48 yJ2_length_9d52b, Cond.static yJ2_length_9d52b, Cond.code yJ2_length_9d52b cJ2_length_9d52b 1 (some .int), Cond.methodLink RJ2 419 yJ0_checkBoundsOffCount_cabcc, Cond.static yJ0_checkBoundsOffCount_cabcc, Cond.initialized RJ0, Cond.code yJ0_checkBoundsOffCount_cabcc cJ0_checkBoundsOffCount_cabcc 3 (some .int), Cond.fieldLink RJ0 1053 "jdk/internal/util/Preconditions" "SIOOBE_FORMATTER" "Ljava/util/function/BiFunction;", Cond.methodLink RJ0 1065 yJ3_checkFromIndexSize_8c36e, Cond.static yJ3_checkFromIndexSize_8c36e, Cond.initialized RJ3, Cond.code yJ3_checkFromIndexSize_8c36e cJ3_checkFromIndexSize_8c36e 4 (some .int), Cond.methodLink RJ2 111 yJ2_putChar_b72d1, Cond.static yJ2_putChar_b72d1, Cond.code yJ2_putChar_b72d1 cJ2_putChar_b72d1 3 none, Cond.fieldLink RJ2 44 "java/lang/StringUTF16" "$assertionsDisabled" "Z", Cond.fieldLink RJ2 59 "java/lang/StringUTF16" "HI_BYTE_SHIFT" "I", Cond.fieldLink RJ2 63 "java/lang/StringUTF16" "LO_BYTE_SHIFT" "I", Cond.methodLink RJ5 197 yJ2_putCharSB_b72d1, Cond.static yJ2_putCharSB_b72d1, Cond.code yJ2_putCharSB_b72d1 cJ2_putCharSB_b72d1 3 none]
def wsX4_appendName_r6 : List Cond := [Cond.methodLink RJ2 67 yJ2_checkIndex_2214a, Cond.static yJ2_checkIndex_2214a, Cond.code yJ2_checkIndex_2214a cJ2_checkIndex_2214a 2 none, Cond.methodLink RJ2 414 yJ0_checkIndex_df160, Cond.static yJ0_checkIndex_df160, Cond.code yJ0_checkIndex_df160 cJ0_checkIndex_df160 2 none, Cond.methodLink RJ0 1059 yJ3_checkIndex_8e157, Cond.static yJ3_checkIndex_8e157, Cond.code yJ3_checkIndex_8e157 cJ3_checkIndex_8e157 3 (some .int), Cond.methodLink RX4 244 yJ4_append_15ec4, Cond.instanceMethod yJ4_append_15ec4, Cond.selects RJ4 yJ4_append_15ec4 yJ4_append_15ec4, Cond.code yJ4_append_15ec4 cJ4_append_15ec4 2 (some (.object "java/lang/StringBuilder")), Cond.methodLink RJ4 29 yJ5_append_cf1ce, Cond.sameMethod "java/lang/AbstractStringBuilder" "java/lang/AbstractStringBuilder" "append" "(Ljava/lang/String;)Ljava/lang/AbstractStringBuilder;", Cond.instanceMethod yJ5_append_cf1ce, Cond.code yJ5_append_cf1ce cJ5_append_cf1ce 3 (some (.object "java/lang/AbstractStringBuilder")), Cond.methodLink RJ5 204 ⟨"java/lang/AbstractStringBuilder", "appendNull", "()Ljava/lang/AbstractStringBuilder;"⟩, Cond.sameMethod "java/lang/AbstractStringBuilder" "java/lang/AbstractStringBuilder" "appendNull" "()Ljava/lang/AbstractStringBuilder;", Cond.selects RJ4 ⟨"java/lang/AbstractStringBuilder", "appendNull", "()Ljava/lang/AbstractStringBuilder;"⟩ yJ5_appendNull_278bc, Cond.instanceMethod yJ5_appendNull_278bc, Cond.code yJ5_appendNull_278bc cJ5_appendNull_278bc 3 (some (.object "java/lang/AbstractStringBuilder")), Cond.methodLink RJ5 226 yJ2_putCharsAt_cd4e5, Cond.static yJ2_putCharsAt_cd4e5]
def wsX4_appendName_r7 : List Cond := [Cond.code yJ2_putCharsAt_cd4e5 cJ2_putCharsAt_cd4e5 7 (some .int), Cond.methodLink RJ2 96 yJ2_checkBoundsBeginEnd_d044e, Cond.static yJ2_checkBoundsBeginEnd_d044e, Cond.code yJ2_checkBoundsBeginEnd_d044e cJ2_checkBoundsBeginEnd_d044e 3 none, Cond.methodLink RJ2 241 yJ0_checkBoundsBeginEnd_23922, Cond.static yJ0_checkBoundsBeginEnd_23922, Cond.code yJ0_checkBoundsBeginEnd_23922 cJ0_checkBoundsBeginEnd_23922 3 none, Cond.methodLink RJ0 1062 yJ3_checkFromToIndex_8c36e, Cond.static yJ3_checkFromToIndex_8c36e, Cond.code yJ3_checkFromToIndex_8c36e cJ3_checkFromToIndex_8c36e 4 (some .int), Cond.methodLink RJ5 32 yJ0_length_8abf5, Cond.instanceMethod yJ0_length_8abf5, Cond.selects RJ0 yJ0_length_8abf5 yJ0_length_8abf5, Cond.code yJ0_length_8abf5 cJ0_length_8abf5 1 (some .int), Cond.fieldLink RJ0 9 "java/lang/String" "value" "[B", Cond.methodLink RJ0 335 yJ0_coder_7d493, Cond.instanceMethod yJ0_coder_7d493, Cond.selects RJ0 yJ0_coder_7d493 yJ0_coder_7d493, Cond.code yJ0_coder_7d493 cJ0_coder_7d493 1 (some .byte), Cond.fieldLink RJ0 38 "java/lang/String" "COMPACT_STRINGS" "Z", Cond.fieldLink RJ0 15 "java/lang/String" "coder" "B", Cond.methodLink RJ5 208 ⟨"java/lang/AbstractStringBuilder", "putStringAt", "(ILjava/lang/String;)V"⟩, Cond.sameMethod "java/lang/AbstractStringBuilder" "java/lang/AbstractStringBuilder" "putStringAt" "(ILjava/lang/String;)V", Cond.selects RJ4 ⟨"java/lang/AbstractStringBuilder", "putStringAt", "(ILjava/lang/String;)V"⟩ yJ5_putStringAt_47b60]
def wsX4_appendName_r8 : List Cond := [Cond.instanceMethod yJ5_putStringAt_47b60, Cond.code yJ5_putStringAt_47b60 cJ5_putStringAt_47b60 3 none, Cond.methodLink RJ5 397 ⟨"java/lang/AbstractStringBuilder", "inflateIfNeededFor", "(Ljava/lang/String;)V"⟩, Cond.sameMethod "java/lang/AbstractStringBuilder" "java/lang/AbstractStringBuilder" "inflateIfNeededFor" "(Ljava/lang/String;)V", Cond.selects RJ4 ⟨"java/lang/AbstractStringBuilder", "inflateIfNeededFor", "(Ljava/lang/String;)V"⟩ yJ5_inflateIfNeededFor_a7421, Cond.instanceMethod yJ5_inflateIfNeededFor_a7421, Cond.code yJ5_inflateIfNeededFor_a7421 cJ5_inflateIfNeededFor_a7421 2 none, Cond.methodLink RJ5 40 yJ0_coder_7d493, Cond.methodLink RJ5 399 yJ0_getBytes_840e7, Cond.instanceMethod yJ0_getBytes_840e7, Cond.selects RJ0 yJ0_getBytes_840e7 yJ0_getBytes_840e7, Cond.code yJ0_getBytes_840e7 cJ0_getBytes_840e7 4 none, Cond.methodLink RJ0 212 arraycopyName, Cond.methodLink RJ0 106 yJ1_inflate_0e8fd]
def wsX4_appendName : List Cond := .code yX4_appendName cX4_appendName 5 none :: ((wsX4_appendName_r1 ++ (wsX4_appendName_r2 ++ (wsX4_appendName_r3 ++ (wsX4_appendName_r4 ++ (wsX4_appendName_r5 ++ (wsX4_appendName_r6 ++ (wsX4_appendName_r7 ++ wsX4_appendName_r8))))))) ++ wsX40 ++ wsX00 ++ wsJ40)
def wsJ6_stringSize_0f7a4 : List Cond := .code yJ6_stringSize_0f7a4 cJ6_stringSize_0f7a4 4 (some .int) :: ([])
def wsJ6_getChars_ba4f3 : List Cond := .code yJ6_getChars_ba4f3 cJ6_getChars_ba4f3 7 (some .int) :: ([.fieldLink RJ6 83 "java/lang/Integer" "DigitOnes" "[B", .fieldLink RJ6 87 "java/lang/Integer" "DigitTens" "[B"])
def wsJ2_getChars_ba4f3 : List Cond := .code yJ2_getChars_ba4f3 cJ2_getChars_ba4f3 7 (some .int) :: ([.fieldLink RJ2 403 "java/lang/Integer" "DigitOnes" "[B", .fieldLink RJ2 407 "java/lang/Integer" "DigitTens" "[B", .methodLink RJ2 111 yJ2_putChar_b72d1, .static yJ2_putChar_b72d1, .initialized RJ2, .code yJ2_putChar_b72d1 cJ2_putChar_b72d1 3 none, .fieldLink RJ2 44 "java/lang/StringUTF16" "$assertionsDisabled" "Z", .fieldLink RJ2 59 "java/lang/StringUTF16" "HI_BYTE_SHIFT" "I", .fieldLink RJ2 63 "java/lang/StringUTF16" "LO_BYTE_SHIFT" "I", .methodLink RJ2 48 yJ2_length_9d52b, .static yJ2_length_9d52b, .code yJ2_length_9d52b cJ2_length_9d52b 1 (some .int)])
def wsJ2_getChars_46870_r1 : List Cond := [Cond.fieldLink RJ2 44 "java/lang/StringUTF16" "$assertionsDisabled" "Z", Cond.methodLink RJ2 96 yJ2_checkBoundsBeginEnd_d044e, Cond.static yJ2_checkBoundsBeginEnd_d044e, Cond.initialized RJ2, Cond.code yJ2_checkBoundsBeginEnd_d044e cJ2_checkBoundsBeginEnd_d044e 3 none, Cond.methodLink RJ2 48 yJ2_length_9d52b, Cond.static yJ2_length_9d52b, Cond.code yJ2_length_9d52b cJ2_length_9d52b 1 (some .int), Cond.methodLink RJ2 241 yJ0_checkBoundsBeginEnd_23922, Cond.static yJ0_checkBoundsBeginEnd_23922, Cond.initialized RJ0, Cond.code yJ0_checkBoundsBeginEnd_23922 cJ0_checkBoundsBeginEnd_23922 3 none, Cond.fieldLink RJ0 1053 "jdk/internal/util/Preconditions" "SIOOBE_FORMATTER" "Ljava/util/function/BiFunction;", Cond.methodLink RJ0 1062 yJ3_checkFromToIndex_8c36e, Cond.static yJ3_checkFromToIndex_8c36e, Cond.initialized RJ3, Cond.code yJ3_checkFromToIndex_8c36e cJ3_checkFromToIndex_8c36e 4 (some .int), Cond.methodLink RJ2 393 yJ2_getChars_ba4f3, Cond.static yJ2_getChars_ba4f3, Cond.code yJ2_getChars_ba4f3 cJ2_getChars_ba4f3 7 (some .int), Cond.fieldLink RJ2 403 "java/lang/Integer" "DigitOnes" "[B", Cond.fieldLink RJ2 407 "java/lang/Integer" "DigitTens" "[B", Cond.methodLink RJ2 111 yJ2_putChar_b72d1, Cond.static yJ2_putChar_b72d1]
def wsJ2_getChars_46870_r2 : List Cond := [Cond.code yJ2_putChar_b72d1 cJ2_putChar_b72d1 3 none, Cond.fieldLink RJ2 59 "java/lang/StringUTF16" "HI_BYTE_SHIFT" "I", Cond.fieldLink RJ2 63 "java/lang/StringUTF16" "LO_BYTE_SHIFT" "I"]
def wsJ2_getChars_46870 : List Cond := .code yJ2_getChars_46870 cJ2_getChars_46870 5 (some .int) :: ((wsJ2_getChars_46870_r1 ++ wsJ2_getChars_46870_r2))
def wsJ5_append_c97b9_r1 : List Cond := [Cond.fieldLink RJ5 79 "java/lang/AbstractStringBuilder" "count" "I", Cond.fieldLink RJ5 15 "java/lang/AbstractStringBuilder" "value" "[B", Cond.methodLink RJ5 245 yJ6_stringSize_0f7a4, Cond.static yJ6_stringSize_0f7a4, Cond.initialized RJ6, Cond.code yJ6_stringSize_0f7a4 cJ6_stringSize_0f7a4 4 (some .int), Cond.methodLink RJ5 100 ⟨"java/lang/AbstractStringBuilder", "ensureCapacityInternal", "(I)V"⟩, Cond.sameMethod "java/lang/AbstractStringBuilder" "java/lang/AbstractStringBuilder" "ensureCapacityInternal" "(I)V", Cond.selects RJ4 ⟨"java/lang/AbstractStringBuilder", "ensureCapacityInternal", "(I)V"⟩ yJ5_ensureCapacityInternal_d00df, Cond.instanceMethod yJ5_ensureCapacityInternal_d00df, Cond.initialized RJ5, Cond.code yJ5_ensureCapacityInternal_d00df cJ5_ensureCapacityInternal_d00df 3 none, Cond.fieldLink RJ5 22 "java/lang/AbstractStringBuilder" "coder" "B", Cond.methodLink RJ5 104 ⟨"java/lang/AbstractStringBuilder", "newCapacity", "(I)I"⟩, Cond.sameMethod "java/lang/AbstractStringBuilder" "java/lang/AbstractStringBuilder" "newCapacity" "(I)I", Cond.selects RJ4 ⟨"java/lang/AbstractStringBuilder", "newCapacity", "(I)I"⟩ yJ5_newCapacity_0f7a4, Cond.instanceMethod yJ5_newCapacity_0f7a4, Cond.code yJ5_newCapacity_0f7a4 cJ5_newCapacity_0f7a4 6 (some .int), Cond.constant RJ5 39 (2147483647), Cond.methodLink RJ5 114 yJ8_newLength_cabcc, Cond.static yJ8_newLength_cabcc, Cond.initialized RJ8, Cond.code yJ8_newLength_cabcc cJ8_newLength_cabcc 4 (some .int), Cond.methodLink RJ8 194 Lib.Math.max.name]
def wsJ5_append_c97b9_r2 : List Cond := [Cond.static Lib.Math.max.name, Cond.initialized "java/lang/Math", Cond.code Lib.Math.max.name Lib.Math.max.code 2 (some .int), Cond.constant RJ8 200 (2147483639), Cond.methodLink RJ8 201 yJ8_hugeLength_7cf53, Cond.static yJ8_hugeLength_7cf53, Cond.code yJ8_hugeLength_7cf53 cJ8_hugeLength_7cf53 3 (some .int), Cond.methodLink RJ5 108 yJ7_copyOf_9075b, Cond.static yJ7_copyOf_9075b, Cond.initialized RJ7, Cond.code yJ7_copyOf_9075b cJ7_copyOf_9075b 3 (some (.array .byte)), Cond.methodLink RJ7 310 ⟨"[B", "clone", "()Ljava/lang/Object;"⟩, Cond.sameMethod "[B" "java/lang/Object" "clone" "()Ljava/lang/Object;", Cond.native ⟨"java/lang/Object", "clone", "()Ljava/lang/Object;"⟩, Cond.instanceMethod ⟨"java/lang/Object", "clone", "()Ljava/lang/Object;"⟩, Cond.selects "[B" ⟨"[B", "clone", "()Ljava/lang/Object;"⟩ ⟨"java/lang/Object", "clone", "()Ljava/lang/Object;"⟩, Cond.classLink RJ7 311 "[B", Cond.arrayClass .byte, Cond.methodLink RJ7 304 Lib.Math.min.name, Cond.static Lib.Math.min.name, Cond.code Lib.Math.min.name Lib.Math.min.code 2 (some .int), Cond.methodLink RJ7 150 arraycopyName, Cond.native arraycopyName, Cond.static arraycopyName]
def wsJ5_append_c97b9_r3 : List Cond := [Cond.initialized "java/lang/System", Cond.methodLink RJ5 83 ⟨"java/lang/AbstractStringBuilder", "isLatin1", "()Z"⟩, Cond.sameMethod "java/lang/AbstractStringBuilder" "java/lang/AbstractStringBuilder" "isLatin1" "()Z", Cond.selects RJ4 ⟨"java/lang/AbstractStringBuilder", "isLatin1", "()Z"⟩ yJ5_isLatin1_aae02, Cond.instanceMethod yJ5_isLatin1_aae02, Cond.code yJ5_isLatin1_aae02 cJ5_isLatin1_aae02 1 (some .boolean), Cond.fieldLink RJ5 18 "java/lang/String" "COMPACT_STRINGS" "Z", Cond.methodLink RJ5 248 yJ6_getChars_ba4f3, Cond.static yJ6_getChars_ba4f3, Cond.code yJ6_getChars_ba4f3 cJ6_getChars_ba4f3 7 (some .int), Cond.fieldLink RJ6 83 "java/lang/Integer" "DigitOnes" "[B", Cond.fieldLink RJ6 87 "java/lang/Integer" "DigitTens" "[B", Cond.methodLink RJ5 251 yJ2_getChars_46870, Cond.static yJ2_getChars_46870, Cond.initialized RJ2, Cond.code yJ2_getChars_46870 cJ2_getChars_46870 5 (some .int), Cond.fieldLink RJ2 44 "java/lang/StringUTF16" "$assertionsDisabled" "Z", Cond.methodLink RJ2 96 yJ2_checkBoundsBeginEnd_d044e, Cond.static yJ2_checkBoundsBeginEnd_d044e, Cond.code yJ2_checkBoundsBeginEnd_d044e cJ2_checkBoundsBeginEnd_d044e 3 none, Cond.methodLink RJ2 48 yJ2_length_9d52b, Cond.static yJ2_length_9d52b, Cond.code yJ2_length_9d52b cJ2_length_9d52b 1 (some .int), Cond.methodLink RJ2 241 yJ0_checkBoundsBeginEnd_23922]
def wsJ5_append_c97b9_r4 : List Cond := [Cond.static yJ0_checkBoundsBeginEnd_23922, Cond.initialized RJ0, Cond.code yJ0_checkBoundsBeginEnd_23922 cJ0_checkBoundsBeginEnd_23922 3 none, Cond.fieldLink RJ0 1053 "jdk/internal/util/Preconditions" "SIOOBE_FORMATTER" "Ljava/util/function/BiFunction;", Cond.methodLink RJ0 1062 yJ3_checkFromToIndex_8c36e, Cond.static yJ3_checkFromToIndex_8c36e, Cond.initialized RJ3, Cond.code yJ3_checkFromToIndex_8c36e cJ3_checkFromToIndex_8c36e 4 (some .int), Cond.methodLink RJ2 393 yJ2_getChars_ba4f3, Cond.static yJ2_getChars_ba4f3, Cond.code yJ2_getChars_ba4f3 cJ2_getChars_ba4f3 7 (some .int), Cond.fieldLink RJ2 403 "java/lang/Integer" "DigitOnes" "[B", Cond.fieldLink RJ2 407 "java/lang/Integer" "DigitTens" "[B", Cond.methodLink RJ2 111 yJ2_putChar_b72d1, Cond.static yJ2_putChar_b72d1, Cond.code yJ2_putChar_b72d1 cJ2_putChar_b72d1 3 none, Cond.fieldLink RJ2 59 "java/lang/StringUTF16" "HI_BYTE_SHIFT" "I", Cond.fieldLink RJ2 63 "java/lang/StringUTF16" "LO_BYTE_SHIFT" "I"]
def wsJ5_append_c97b9 : List Cond := .code yJ5_append_c97b9 cJ5_append_c97b9 4 (some (.object "java/lang/AbstractStringBuilder")) :: ((wsJ5_append_c97b9_r1 ++ (wsJ5_append_c97b9_r2 ++ (wsJ5_append_c97b9_r3 ++ wsJ5_append_c97b9_r4))) ++ wsJ40)
def wsJ4_append_bf812_r1 : List Cond := [Cond.methodLink RJ4 53 yJ5_append_c97b9, Cond.sameMethod "java/lang/AbstractStringBuilder" "java/lang/AbstractStringBuilder" "append" "(I)Ljava/lang/AbstractStringBuilder;", Cond.superclass RJ4 RJ5, Cond.instanceMethod yJ5_append_c97b9, Cond.initialized RJ5, Cond.code yJ5_append_c97b9 cJ5_append_c97b9 4 (some (.object "java/lang/AbstractStringBuilder")), Cond.fieldLink RJ5 79 "java/lang/AbstractStringBuilder" "count" "I", Cond.fieldLink RJ5 15 "java/lang/AbstractStringBuilder" "value" "[B", Cond.methodLink RJ5 245 yJ6_stringSize_0f7a4, Cond.static yJ6_stringSize_0f7a4, Cond.initialized RJ6, Cond.code yJ6_stringSize_0f7a4 cJ6_stringSize_0f7a4 4 (some .int), Cond.methodLink RJ5 100 ⟨"java/lang/AbstractStringBuilder", "ensureCapacityInternal", "(I)V"⟩, Cond.sameMethod "java/lang/AbstractStringBuilder" "java/lang/AbstractStringBuilder" "ensureCapacityInternal" "(I)V", Cond.selects RJ4 ⟨"java/lang/AbstractStringBuilder", "ensureCapacityInternal", "(I)V"⟩ yJ5_ensureCapacityInternal_d00df, Cond.instanceMethod yJ5_ensureCapacityInternal_d00df, Cond.code yJ5_ensureCapacityInternal_d00df cJ5_ensureCapacityInternal_d00df 3 none, Cond.fieldLink RJ5 22 "java/lang/AbstractStringBuilder" "coder" "B", Cond.methodLink RJ5 104 ⟨"java/lang/AbstractStringBuilder", "newCapacity", "(I)I"⟩, Cond.sameMethod "java/lang/AbstractStringBuilder" "java/lang/AbstractStringBuilder" "newCapacity" "(I)I", Cond.selects RJ4 ⟨"java/lang/AbstractStringBuilder", "newCapacity", "(I)I"⟩ yJ5_newCapacity_0f7a4, Cond.instanceMethod yJ5_newCapacity_0f7a4, Cond.code yJ5_newCapacity_0f7a4 cJ5_newCapacity_0f7a4 6 (some .int), Cond.constant RJ5 39 (2147483647)]
def wsJ4_append_bf812_r2 : List Cond := [Cond.methodLink RJ5 114 yJ8_newLength_cabcc, Cond.static yJ8_newLength_cabcc, Cond.initialized RJ8, Cond.code yJ8_newLength_cabcc cJ8_newLength_cabcc 4 (some .int), Cond.methodLink RJ8 194 Lib.Math.max.name, Cond.static Lib.Math.max.name, Cond.initialized "java/lang/Math", Cond.code Lib.Math.max.name Lib.Math.max.code 2 (some .int), Cond.constant RJ8 200 (2147483639), Cond.methodLink RJ8 201 yJ8_hugeLength_7cf53, Cond.static yJ8_hugeLength_7cf53, Cond.code yJ8_hugeLength_7cf53 cJ8_hugeLength_7cf53 3 (some .int), Cond.methodLink RJ5 108 yJ7_copyOf_9075b, Cond.static yJ7_copyOf_9075b, Cond.initialized RJ7, Cond.code yJ7_copyOf_9075b cJ7_copyOf_9075b 3 (some (.array .byte)), Cond.methodLink RJ7 310 ⟨"[B", "clone", "()Ljava/lang/Object;"⟩, Cond.sameMethod "[B" "java/lang/Object" "clone" "()Ljava/lang/Object;", Cond.native ⟨"java/lang/Object", "clone", "()Ljava/lang/Object;"⟩, Cond.instanceMethod ⟨"java/lang/Object", "clone", "()Ljava/lang/Object;"⟩, Cond.selects "[B" ⟨"[B", "clone", "()Ljava/lang/Object;"⟩ ⟨"java/lang/Object", "clone", "()Ljava/lang/Object;"⟩, Cond.classLink RJ7 311 "[B", Cond.arrayClass .byte, Cond.methodLink RJ7 304 Lib.Math.min.name]
def wsJ4_append_bf812_r3 : List Cond := [Cond.static Lib.Math.min.name, Cond.code Lib.Math.min.name Lib.Math.min.code 2 (some .int), Cond.methodLink RJ7 150 arraycopyName, Cond.native arraycopyName, Cond.static arraycopyName, Cond.initialized "java/lang/System", Cond.methodLink RJ5 83 ⟨"java/lang/AbstractStringBuilder", "isLatin1", "()Z"⟩, Cond.sameMethod "java/lang/AbstractStringBuilder" "java/lang/AbstractStringBuilder" "isLatin1" "()Z", Cond.selects RJ4 ⟨"java/lang/AbstractStringBuilder", "isLatin1", "()Z"⟩ yJ5_isLatin1_aae02, Cond.instanceMethod yJ5_isLatin1_aae02, Cond.code yJ5_isLatin1_aae02 cJ5_isLatin1_aae02 1 (some .boolean), Cond.fieldLink RJ5 18 "java/lang/String" "COMPACT_STRINGS" "Z", Cond.methodLink RJ5 248 yJ6_getChars_ba4f3, Cond.static yJ6_getChars_ba4f3, Cond.code yJ6_getChars_ba4f3 cJ6_getChars_ba4f3 7 (some .int), Cond.fieldLink RJ6 83 "java/lang/Integer" "DigitOnes" "[B", Cond.fieldLink RJ6 87 "java/lang/Integer" "DigitTens" "[B", Cond.methodLink RJ5 251 yJ2_getChars_46870, Cond.static yJ2_getChars_46870, Cond.initialized RJ2, Cond.code yJ2_getChars_46870 cJ2_getChars_46870 5 (some .int), Cond.fieldLink RJ2 44 "java/lang/StringUTF16" "$assertionsDisabled" "Z", Cond.methodLink RJ2 96 yJ2_checkBoundsBeginEnd_d044e, Cond.static yJ2_checkBoundsBeginEnd_d044e]
def wsJ4_append_bf812_r4 : List Cond := [Cond.code yJ2_checkBoundsBeginEnd_d044e cJ2_checkBoundsBeginEnd_d044e 3 none, Cond.methodLink RJ2 48 yJ2_length_9d52b, Cond.static yJ2_length_9d52b, Cond.code yJ2_length_9d52b cJ2_length_9d52b 1 (some .int), Cond.methodLink RJ2 241 yJ0_checkBoundsBeginEnd_23922, Cond.static yJ0_checkBoundsBeginEnd_23922, Cond.initialized RJ0, Cond.code yJ0_checkBoundsBeginEnd_23922 cJ0_checkBoundsBeginEnd_23922 3 none, Cond.fieldLink RJ0 1053 "jdk/internal/util/Preconditions" "SIOOBE_FORMATTER" "Ljava/util/function/BiFunction;", Cond.methodLink RJ0 1062 yJ3_checkFromToIndex_8c36e, Cond.static yJ3_checkFromToIndex_8c36e, Cond.initialized RJ3, Cond.code yJ3_checkFromToIndex_8c36e cJ3_checkFromToIndex_8c36e 4 (some .int), Cond.methodLink RJ2 393 yJ2_getChars_ba4f3, Cond.static yJ2_getChars_ba4f3, Cond.code yJ2_getChars_ba4f3 cJ2_getChars_ba4f3 7 (some .int), Cond.fieldLink RJ2 403 "java/lang/Integer" "DigitOnes" "[B", Cond.fieldLink RJ2 407 "java/lang/Integer" "DigitTens" "[B", Cond.methodLink RJ2 111 yJ2_putChar_b72d1, Cond.static yJ2_putChar_b72d1, Cond.code yJ2_putChar_b72d1 cJ2_putChar_b72d1 3 none, Cond.fieldLink RJ2 59 "java/lang/StringUTF16" "HI_BYTE_SHIFT" "I", Cond.fieldLink RJ2 63 "java/lang/StringUTF16" "LO_BYTE_SHIFT" "I"]
def wsJ4_append_bf812 : List Cond := .code yJ4_append_bf812 cJ4_append_bf812 2 (some (.object "java/lang/StringBuilder")) :: ((wsJ4_append_bf812_r1 ++ (wsJ4_append_bf812_r2 ++ (wsJ4_append_bf812_r3 ++ wsJ4_append_bf812_r4))) ++ wsJ40)
def wsX4_appendRun_r1 : List Cond := [Cond.methodLink RX4 226 yJ4_append_cf468, Cond.instanceMethod yJ4_append_cf468, Cond.selects RJ4 yJ4_append_cf468 yJ4_append_cf468, Cond.initialized RJ4, Cond.code yJ4_append_cf468 cJ4_append_cf468 2 (some (.object "java/lang/StringBuilder")), Cond.methodLink RJ4 50 yJ5_append_3fe6f, Cond.sameMethod "java/lang/AbstractStringBuilder" "java/lang/AbstractStringBuilder" "append" "(C)Ljava/lang/AbstractStringBuilder;", Cond.superclass RJ4 RJ5, Cond.instanceMethod yJ5_append_3fe6f, Cond.initialized RJ5, Cond.code yJ5_append_3fe6f cJ5_append_3fe6f 2 (some (.object "java/lang/AbstractStringBuilder")), Cond.fieldLink RJ5 79 "java/lang/AbstractStringBuilder" "count" "I", Cond.fieldLink RJ5 15 "java/lang/AbstractStringBuilder" "value" "[B", Cond.methodLink RJ5 100 ⟨"java/lang/AbstractStringBuilder", "ensureCapacityInternal", "(I)V"⟩, Cond.sameMethod "java/lang/AbstractStringBuilder" "java/lang/AbstractStringBuilder" "ensureCapacityInternal" "(I)V", Cond.selects RJ4 ⟨"java/lang/AbstractStringBuilder", "ensureCapacityInternal", "(I)V"⟩ yJ5_ensureCapacityInternal_d00df, Cond.instanceMethod yJ5_ensureCapacityInternal_d00df, Cond.code yJ5_ensureCapacityInternal_d00df cJ5_ensureCapacityInternal_d00df 3 none, Cond.fieldLink RJ5 22 "java/lang/AbstractStringBuilder" "coder" "B", Cond.methodLink RJ5 104 ⟨"java/lang/AbstractStringBuilder", "newCapacity", "(I)I"⟩, Cond.sameMethod "java/lang/AbstractStringBuilder" "java/lang/AbstractStringBuilder" "newCapacity" "(I)I", Cond.selects RJ4 ⟨"java/lang/AbstractStringBuilder", "newCapacity", "(I)I"⟩ yJ5_newCapacity_0f7a4, Cond.instanceMethod yJ5_newCapacity_0f7a4, Cond.code yJ5_newCapacity_0f7a4 cJ5_newCapacity_0f7a4 6 (some .int)]
def wsX4_appendRun_r2 : List Cond := [Cond.constant RJ5 39 (2147483647), Cond.methodLink RJ5 114 yJ8_newLength_cabcc, Cond.static yJ8_newLength_cabcc, Cond.initialized RJ8, Cond.code yJ8_newLength_cabcc cJ8_newLength_cabcc 4 (some .int), Cond.methodLink RJ8 194 Lib.Math.max.name, Cond.static Lib.Math.max.name, Cond.initialized "java/lang/Math", Cond.code Lib.Math.max.name Lib.Math.max.code 2 (some .int), Cond.constant RJ8 200 (2147483639), Cond.methodLink RJ8 201 yJ8_hugeLength_7cf53, Cond.static yJ8_hugeLength_7cf53, Cond.code yJ8_hugeLength_7cf53 cJ8_hugeLength_7cf53 3 (some .int), Cond.methodLink RJ5 108 yJ7_copyOf_9075b, Cond.static yJ7_copyOf_9075b, Cond.initialized RJ7, Cond.code yJ7_copyOf_9075b cJ7_copyOf_9075b 3 (some (.array .byte)), Cond.methodLink RJ7 310 ⟨"[B", "clone", "()Ljava/lang/Object;"⟩, Cond.sameMethod "[B" "java/lang/Object" "clone" "()Ljava/lang/Object;", Cond.native ⟨"java/lang/Object", "clone", "()Ljava/lang/Object;"⟩, Cond.instanceMethod ⟨"java/lang/Object", "clone", "()Ljava/lang/Object;"⟩, Cond.selects "[B" ⟨"[B", "clone", "()Ljava/lang/Object;"⟩ ⟨"java/lang/Object", "clone", "()Ljava/lang/Object;"⟩, Cond.classLink RJ7 311 "[B", Cond.arrayClass .byte]
def wsX4_appendRun_r3 : List Cond := [Cond.methodLink RJ7 304 Lib.Math.min.name, Cond.static Lib.Math.min.name, Cond.code Lib.Math.min.name Lib.Math.min.code 2 (some .int), Cond.methodLink RJ7 150 arraycopyName, Cond.native arraycopyName, Cond.static arraycopyName, Cond.initialized "java/lang/System", Cond.methodLink RJ5 83 ⟨"java/lang/AbstractStringBuilder", "isLatin1", "()Z"⟩, Cond.sameMethod "java/lang/AbstractStringBuilder" "java/lang/AbstractStringBuilder" "isLatin1" "()Z", Cond.selects RJ4 ⟨"java/lang/AbstractStringBuilder", "isLatin1", "()Z"⟩ yJ5_isLatin1_aae02, Cond.instanceMethod yJ5_isLatin1_aae02, Cond.code yJ5_isLatin1_aae02 cJ5_isLatin1_aae02 1 (some .boolean), Cond.fieldLink RJ5 18 "java/lang/String" "COMPACT_STRINGS" "Z", Cond.methodLink RJ5 191 yJ1_canEncode_fc78d, Cond.static yJ1_canEncode_fc78d, Cond.initialized RJ1, Cond.code yJ1_canEncode_fc78d cJ1_canEncode_fc78d 1 (some .boolean), Cond.methodLink RJ5 195 ⟨"java/lang/AbstractStringBuilder", "inflate", "()V"⟩, Cond.sameMethod "java/lang/AbstractStringBuilder" "java/lang/AbstractStringBuilder" "inflate" "()V", Cond.selects RJ4 ⟨"java/lang/AbstractStringBuilder", "inflate", "()V"⟩ yJ5_inflate_da8c8, Cond.instanceMethod yJ5_inflate_da8c8, Cond.code yJ5_inflate_da8c8 cJ5_inflate_da8c8 2 none, Cond.methodLink RJ5 26 yJ2_newBytesFor_77867, Cond.static yJ2_newBytesFor_77867]
def wsX4_appendRun_r4 : List Cond := [Cond.initialized RJ2, Cond.code yJ2_newBytesFor_77867 cJ2_newBytesFor_77867 1 (some (.array .byte)), Cond.methodLink RJ2 11 yJ2_newBytesLength_0f7a4, Cond.static yJ2_newBytesLength_0f7a4, Cond.code yJ2_newBytesLength_0f7a4 cJ2_newBytesLength_0f7a4 1 (some .int), Cond.constant RJ2 20 (1073741823), Cond.methodLink RJ5 125 yJ1_inflate_0e8fd, Cond.static yJ1_inflate_0e8fd, Cond.code yJ1_inflate_0e8fd cJ1_inflate_0e8fd 5 none, Cond.methodLink RJ1 240 yJ2_inflate_0e8fd, Cond.static yJ2_inflate_0e8fd, Cond.code yJ2_inflate_0e8fd cJ2_inflate_0e8fd 6 none, Cond.methodLink RJ2 173 yJ2_checkBoundsOffCount_d044e, Cond.static yJ2_checkBoundsOffCount_d044e, Cond.code yJ2_checkBoundsOffCount_d044e cJ2_checkBoundsOffCount_d044e 3 none, Cond.methodLink RJ2 48 yJ2_length_9d52b, Cond.static yJ2_length_9d52b, Cond.code yJ2_length_9d52b cJ2_length_9d52b 1 (some .int), Cond.methodLink RJ2 419 yJ0_checkBoundsOffCount_cabcc, Cond.static yJ0_checkBoundsOffCount_cabcc, Cond.initialized RJ0, Cond.code yJ0_checkBoundsOffCount_cabcc cJ0_checkBoundsOffCount_cabcc 3 (some .int), Cond.fieldLink RJ0 1053 "jdk/internal/util/Preconditions" "SIOOBE_FORMATTER" "Ljava/util/function/BiFunction;", Cond.methodLink RJ0 1065 yJ3_checkFromIndexSize_8c36e]
def wsX4_appendRun_r5 : List Cond := [Cond.static yJ3_checkFromIndexSize_8c36e, Cond.initialized RJ3, Cond.code yJ3_checkFromIndexSize_8c36e cJ3_checkFromIndexSize_8c36e 4 (some .int), Cond.methodLink RJ2 111 yJ2_putChar_b72d1, Cond.static yJ2_putChar_b72d1, Cond.code yJ2_putChar_b72d1 cJ2_putChar_b72d1 3 none, Cond.fieldLink RJ2 44 "java/lang/StringUTF16" "$assertionsDisabled" "Z", Cond.fieldLink RJ2 59 "java/lang/StringUTF16" "HI_BYTE_SHIFT" "I", Cond.fieldLink RJ2 63 "java/lang/StringUTF16" "LO_BYTE_SHIFT" "I", Cond.methodLink RJ5 197 yJ2_putCharSB_b72d1, Cond.static yJ2_putCharSB_b72d1, Cond.code yJ2_putCharSB_b72d1 cJ2_putCharSB_b72d1 3 none, Cond.methodLink RJ2 67 yJ2_checkIndex_2214a, Cond.static yJ2_checkIndex_2214a, Cond.code yJ2_checkIndex_2214a cJ2_checkIndex_2214a 2 none, Cond.methodLink RJ2 414 yJ0_checkIndex_df160, Cond.static yJ0_checkIndex_df160, Cond.code yJ0_checkIndex_df160 cJ0_checkIndex_df160 2 none, Cond.methodLink RJ0 1059 yJ3_checkIndex_8e157, Cond.static yJ3_checkIndex_8e157, Cond.code yJ3_checkIndex_8e157 cJ3_checkIndex_8e157 3 (some .int), Cond.methodLink RX4 257 yJ4_append_bf812, Cond.instanceMethod yJ4_append_bf812, Cond.selects RJ4 yJ4_append_bf812 yJ4_append_bf812]
def wsX4_appendRun_r6 : List Cond := [Cond.code yJ4_append_bf812 cJ4_append_bf812 2 (some (.object "java/lang/StringBuilder")), Cond.methodLink RJ4 53 yJ5_append_c97b9, Cond.sameMethod "java/lang/AbstractStringBuilder" "java/lang/AbstractStringBuilder" "append" "(I)Ljava/lang/AbstractStringBuilder;", Cond.instanceMethod yJ5_append_c97b9, Cond.code yJ5_append_c97b9 cJ5_append_c97b9 4 (some (.object "java/lang/AbstractStringBuilder")), Cond.methodLink RJ5 245 yJ6_stringSize_0f7a4, Cond.static yJ6_stringSize_0f7a4, Cond.initialized RJ6, Cond.code yJ6_stringSize_0f7a4 cJ6_stringSize_0f7a4 4 (some .int), Cond.methodLink RJ5 248 yJ6_getChars_ba4f3, Cond.static yJ6_getChars_ba4f3, Cond.code yJ6_getChars_ba4f3 cJ6_getChars_ba4f3 7 (some .int), Cond.fieldLink RJ6 83 "java/lang/Integer" "DigitOnes" "[B", Cond.fieldLink RJ6 87 "java/lang/Integer" "DigitTens" "[B", Cond.methodLink RJ5 251 yJ2_getChars_46870, Cond.static yJ2_getChars_46870, Cond.code yJ2_getChars_46870 cJ2_getChars_46870 5 (some .int), Cond.methodLink RJ2 96 yJ2_checkBoundsBeginEnd_d044e, Cond.static yJ2_checkBoundsBeginEnd_d044e, Cond.code yJ2_checkBoundsBeginEnd_d044e cJ2_checkBoundsBeginEnd_d044e 3 none, Cond.methodLink RJ2 241 yJ0_checkBoundsBeginEnd_23922, Cond.static yJ0_checkBoundsBeginEnd_23922, Cond.code yJ0_checkBoundsBeginEnd_23922 cJ0_checkBoundsBeginEnd_23922 3 none, Cond.methodLink RJ0 1062 yJ3_checkFromToIndex_8c36e]
def wsX4_appendRun_r7 : List Cond := [Cond.static yJ3_checkFromToIndex_8c36e, Cond.code yJ3_checkFromToIndex_8c36e cJ3_checkFromToIndex_8c36e 4 (some .int), Cond.methodLink RJ2 393 yJ2_getChars_ba4f3, Cond.static yJ2_getChars_ba4f3, Cond.code yJ2_getChars_ba4f3 cJ2_getChars_ba4f3 7 (some .int), Cond.fieldLink RJ2 403 "java/lang/Integer" "DigitOnes" "[B", Cond.fieldLink RJ2 407 "java/lang/Integer" "DigitTens" "[B"]
def wsX4_appendRun : List Cond := .code yX4_appendRun cX4_appendRun 4 none :: ((wsX4_appendRun_r1 ++ (wsX4_appendRun_r2 ++ (wsX4_appendRun_r3 ++ (wsX4_appendRun_r4 ++ (wsX4_appendRun_r5 ++ (wsX4_appendRun_r6 ++ wsX4_appendRun_r7)))))) ++ wsJ40)
def wsX4_appendRuns_r1 : List Cond := [Cond.instanceMethod yX1_beginsRun, Cond.initialized RX1, Cond.selects RX1 yX1_beginsRun yX1_beginsRun, Cond.code yX1_beginsRun cX1_beginsRun 3 (some .boolean), Cond.methodLink RX1 64 yX1_covers, Cond.instanceMethod yX1_covers, Cond.selects RX1 yX1_covers yX1_covers, Cond.code yX1_covers cX1_covers 3 (some .boolean), Cond.fieldLink RX1 18 "StreetIndex$Track" "rows" "[I", Cond.instanceMethod yX1_endOfRun, Cond.selects RX1 yX1_endOfRun yX1_endOfRun, Cond.code yX1_endOfRun cX1_endOfRun 4 (some .int), Cond.methodLink RX4 253 yX4_appendRun, Cond.static yX4_appendRun, Cond.initialized RX4, Cond.code yX4_appendRun cX4_appendRun 4 none, Cond.methodLink RX4 226 yJ4_append_cf468, Cond.instanceMethod yJ4_append_cf468, Cond.selects RJ4 yJ4_append_cf468 yJ4_append_cf468, Cond.initialized RJ4, Cond.code yJ4_append_cf468 cJ4_append_cf468 2 (some (.object "java/lang/StringBuilder")), Cond.methodLink RJ4 50 yJ5_append_3fe6f, Cond.sameMethod "java/lang/AbstractStringBuilder" "java/lang/AbstractStringBuilder" "append" "(C)Ljava/lang/AbstractStringBuilder;", Cond.superclass RJ4 RJ5]
def wsX4_appendRuns_r2 : List Cond := [Cond.instanceMethod yJ5_append_3fe6f, Cond.initialized RJ5, Cond.code yJ5_append_3fe6f cJ5_append_3fe6f 2 (some (.object "java/lang/AbstractStringBuilder")), Cond.fieldLink RJ5 79 "java/lang/AbstractStringBuilder" "count" "I", Cond.fieldLink RJ5 15 "java/lang/AbstractStringBuilder" "value" "[B", Cond.methodLink RJ5 100 ⟨"java/lang/AbstractStringBuilder", "ensureCapacityInternal", "(I)V"⟩, Cond.sameMethod "java/lang/AbstractStringBuilder" "java/lang/AbstractStringBuilder" "ensureCapacityInternal" "(I)V", Cond.selects RJ4 ⟨"java/lang/AbstractStringBuilder", "ensureCapacityInternal", "(I)V"⟩ yJ5_ensureCapacityInternal_d00df, Cond.instanceMethod yJ5_ensureCapacityInternal_d00df, Cond.code yJ5_ensureCapacityInternal_d00df cJ5_ensureCapacityInternal_d00df 3 none, Cond.fieldLink RJ5 22 "java/lang/AbstractStringBuilder" "coder" "B", Cond.methodLink RJ5 104 ⟨"java/lang/AbstractStringBuilder", "newCapacity", "(I)I"⟩, Cond.sameMethod "java/lang/AbstractStringBuilder" "java/lang/AbstractStringBuilder" "newCapacity" "(I)I", Cond.selects RJ4 ⟨"java/lang/AbstractStringBuilder", "newCapacity", "(I)I"⟩ yJ5_newCapacity_0f7a4, Cond.instanceMethod yJ5_newCapacity_0f7a4, Cond.code yJ5_newCapacity_0f7a4 cJ5_newCapacity_0f7a4 6 (some .int), Cond.constant RJ5 39 (2147483647), Cond.methodLink RJ5 114 yJ8_newLength_cabcc, Cond.static yJ8_newLength_cabcc, Cond.initialized RJ8, Cond.code yJ8_newLength_cabcc cJ8_newLength_cabcc 4 (some .int), Cond.methodLink RJ8 194 Lib.Math.max.name, Cond.static Lib.Math.max.name, Cond.initialized "java/lang/Math"]
def wsX4_appendRuns_r3 : List Cond := [Cond.code Lib.Math.max.name Lib.Math.max.code 2 (some .int), Cond.constant RJ8 200 (2147483639), Cond.methodLink RJ8 201 yJ8_hugeLength_7cf53, Cond.static yJ8_hugeLength_7cf53, Cond.code yJ8_hugeLength_7cf53 cJ8_hugeLength_7cf53 3 (some .int), Cond.methodLink RJ5 108 yJ7_copyOf_9075b, Cond.static yJ7_copyOf_9075b, Cond.initialized RJ7, Cond.code yJ7_copyOf_9075b cJ7_copyOf_9075b 3 (some (.array .byte)), Cond.methodLink RJ7 310 ⟨"[B", "clone", "()Ljava/lang/Object;"⟩, Cond.sameMethod "[B" "java/lang/Object" "clone" "()Ljava/lang/Object;", Cond.native ⟨"java/lang/Object", "clone", "()Ljava/lang/Object;"⟩, Cond.instanceMethod ⟨"java/lang/Object", "clone", "()Ljava/lang/Object;"⟩, Cond.selects "[B" ⟨"[B", "clone", "()Ljava/lang/Object;"⟩ ⟨"java/lang/Object", "clone", "()Ljava/lang/Object;"⟩, Cond.classLink RJ7 311 "[B", Cond.arrayClass .byte, Cond.methodLink RJ7 304 Lib.Math.min.name, Cond.static Lib.Math.min.name, Cond.code Lib.Math.min.name Lib.Math.min.code 2 (some .int), Cond.methodLink RJ7 150 arraycopyName, Cond.native arraycopyName, Cond.static arraycopyName, Cond.initialized "java/lang/System", Cond.methodLink RJ5 83 ⟨"java/lang/AbstractStringBuilder", "isLatin1", "()Z"⟩]
def wsX4_appendRuns_r4 : List Cond := [Cond.sameMethod "java/lang/AbstractStringBuilder" "java/lang/AbstractStringBuilder" "isLatin1" "()Z", Cond.selects RJ4 ⟨"java/lang/AbstractStringBuilder", "isLatin1", "()Z"⟩ yJ5_isLatin1_aae02, Cond.instanceMethod yJ5_isLatin1_aae02, Cond.code yJ5_isLatin1_aae02 cJ5_isLatin1_aae02 1 (some .boolean), Cond.fieldLink RJ5 18 "java/lang/String" "COMPACT_STRINGS" "Z", Cond.methodLink RJ5 191 yJ1_canEncode_fc78d, Cond.static yJ1_canEncode_fc78d, Cond.initialized RJ1, Cond.code yJ1_canEncode_fc78d cJ1_canEncode_fc78d 1 (some .boolean), Cond.methodLink RJ5 195 ⟨"java/lang/AbstractStringBuilder", "inflate", "()V"⟩, Cond.sameMethod "java/lang/AbstractStringBuilder" "java/lang/AbstractStringBuilder" "inflate" "()V", Cond.selects RJ4 ⟨"java/lang/AbstractStringBuilder", "inflate", "()V"⟩ yJ5_inflate_da8c8, Cond.instanceMethod yJ5_inflate_da8c8, Cond.code yJ5_inflate_da8c8 cJ5_inflate_da8c8 2 none, Cond.methodLink RJ5 26 yJ2_newBytesFor_77867, Cond.static yJ2_newBytesFor_77867, Cond.initialized RJ2, Cond.code yJ2_newBytesFor_77867 cJ2_newBytesFor_77867 1 (some (.array .byte)), Cond.methodLink RJ2 11 yJ2_newBytesLength_0f7a4, Cond.static yJ2_newBytesLength_0f7a4, Cond.code yJ2_newBytesLength_0f7a4 cJ2_newBytesLength_0f7a4 1 (some .int), Cond.constant RJ2 20 (1073741823), Cond.methodLink RJ5 125 yJ1_inflate_0e8fd, Cond.static yJ1_inflate_0e8fd]
def wsX4_appendRuns_r5 : List Cond := [Cond.code yJ1_inflate_0e8fd cJ1_inflate_0e8fd 5 none, Cond.methodLink RJ1 240 yJ2_inflate_0e8fd, Cond.static yJ2_inflate_0e8fd, Cond.code yJ2_inflate_0e8fd cJ2_inflate_0e8fd 6 none, Cond.methodLink RJ2 173 yJ2_checkBoundsOffCount_d044e, Cond.static yJ2_checkBoundsOffCount_d044e, Cond.code yJ2_checkBoundsOffCount_d044e cJ2_checkBoundsOffCount_d044e 3 none, Cond.methodLink RJ2 48 yJ2_length_9d52b, Cond.static yJ2_length_9d52b, Cond.code yJ2_length_9d52b cJ2_length_9d52b 1 (some .int), Cond.methodLink RJ2 419 yJ0_checkBoundsOffCount_cabcc, Cond.static yJ0_checkBoundsOffCount_cabcc, Cond.initialized RJ0, Cond.code yJ0_checkBoundsOffCount_cabcc cJ0_checkBoundsOffCount_cabcc 3 (some .int), Cond.fieldLink RJ0 1053 "jdk/internal/util/Preconditions" "SIOOBE_FORMATTER" "Ljava/util/function/BiFunction;", Cond.methodLink RJ0 1065 yJ3_checkFromIndexSize_8c36e, Cond.static yJ3_checkFromIndexSize_8c36e, Cond.initialized RJ3, Cond.code yJ3_checkFromIndexSize_8c36e cJ3_checkFromIndexSize_8c36e 4 (some .int), Cond.methodLink RJ2 111 yJ2_putChar_b72d1, Cond.static yJ2_putChar_b72d1, Cond.code yJ2_putChar_b72d1 cJ2_putChar_b72d1 3 none, Cond.fieldLink RJ2 44 "java/lang/StringUTF16" "$assertionsDisabled" "Z", Cond.fieldLink RJ2 59 "java/lang/StringUTF16" "HI_BYTE_SHIFT" "I"]
def wsX4_appendRuns_r6 : List Cond := [Cond.fieldLink RJ2 63 "java/lang/StringUTF16" "LO_BYTE_SHIFT" "I", Cond.methodLink RJ5 197 yJ2_putCharSB_b72d1, Cond.static yJ2_putCharSB_b72d1, Cond.code yJ2_putCharSB_b72d1 cJ2_putCharSB_b72d1 3 none, Cond.methodLink RJ2 67 yJ2_checkIndex_2214a, Cond.static yJ2_checkIndex_2214a, Cond.code yJ2_checkIndex_2214a cJ2_checkIndex_2214a 2 none, Cond.methodLink RJ2 414 yJ0_checkIndex_df160, Cond.static yJ0_checkIndex_df160, Cond.code yJ0_checkIndex_df160 cJ0_checkIndex_df160 2 none, Cond.methodLink RJ0 1059 yJ3_checkIndex_8e157, Cond.static yJ3_checkIndex_8e157, Cond.code yJ3_checkIndex_8e157 cJ3_checkIndex_8e157 3 (some .int), Cond.methodLink RX4 257 yJ4_append_bf812, Cond.instanceMethod yJ4_append_bf812, Cond.selects RJ4 yJ4_append_bf812 yJ4_append_bf812, Cond.code yJ4_append_bf812 cJ4_append_bf812 2 (some (.object "java/lang/StringBuilder")), Cond.methodLink RJ4 53 yJ5_append_c97b9, Cond.sameMethod "java/lang/AbstractStringBuilder" "java/lang/AbstractStringBuilder" "append" "(I)Ljava/lang/AbstractStringBuilder;", Cond.instanceMethod yJ5_append_c97b9, Cond.code yJ5_append_c97b9 cJ5_append_c97b9 4 (some (.object "java/lang/AbstractStringBuilder")), Cond.methodLink RJ5 245 yJ6_stringSize_0f7a4, Cond.static yJ6_stringSize_0f7a4, Cond.initialized RJ6]
def wsX4_appendRuns_r7 : List Cond := [Cond.code yJ6_stringSize_0f7a4 cJ6_stringSize_0f7a4 4 (some .int), Cond.methodLink RJ5 248 yJ6_getChars_ba4f3, Cond.static yJ6_getChars_ba4f3, Cond.code yJ6_getChars_ba4f3 cJ6_getChars_ba4f3 7 (some .int), Cond.fieldLink RJ6 83 "java/lang/Integer" "DigitOnes" "[B", Cond.fieldLink RJ6 87 "java/lang/Integer" "DigitTens" "[B", Cond.methodLink RJ5 251 yJ2_getChars_46870, Cond.static yJ2_getChars_46870, Cond.code yJ2_getChars_46870 cJ2_getChars_46870 5 (some .int), Cond.methodLink RJ2 96 yJ2_checkBoundsBeginEnd_d044e, Cond.static yJ2_checkBoundsBeginEnd_d044e, Cond.code yJ2_checkBoundsBeginEnd_d044e cJ2_checkBoundsBeginEnd_d044e 3 none, Cond.methodLink RJ2 241 yJ0_checkBoundsBeginEnd_23922, Cond.static yJ0_checkBoundsBeginEnd_23922, Cond.code yJ0_checkBoundsBeginEnd_23922 cJ0_checkBoundsBeginEnd_23922 3 none, Cond.methodLink RJ0 1062 yJ3_checkFromToIndex_8c36e, Cond.static yJ3_checkFromToIndex_8c36e, Cond.code yJ3_checkFromToIndex_8c36e cJ3_checkFromToIndex_8c36e 4 (some .int), Cond.methodLink RJ2 393 yJ2_getChars_ba4f3, Cond.static yJ2_getChars_ba4f3, Cond.code yJ2_getChars_ba4f3 cJ2_getChars_ba4f3 7 (some .int), Cond.fieldLink RJ2 403 "java/lang/Integer" "DigitOnes" "[B", Cond.fieldLink RJ2 407 "java/lang/Integer" "DigitTens" "[B"]
def wsX4_appendRuns : List Cond := .code yX4_appendRuns cX4_appendRuns 4 none :: ((wsX4_appendRuns_r1 ++ (wsX4_appendRuns_r2 ++ (wsX4_appendRuns_r3 ++ (wsX4_appendRuns_r4 ++ (wsX4_appendRuns_r5 ++ (wsX4_appendRuns_r6 ++ wsX4_appendRuns_r7)))))) ++ wsX10 ++ wsJ40)
def wsX4_lineOf_r1 : List Cond := [Cond.classLink RX4 115 RJ4, Cond.instantiable RJ4 4, Cond.initialized RJ4, Cond.methodLink RX4 221 yJ4_init_da8c8, Cond.instanceMethod yJ4_init_da8c8, Cond.code yJ4_init_da8c8 cJ4_init_da8c8 1 none, Cond.methodLink RJ4 1 yJ5_init_d00df, Cond.instanceMethod yJ5_init_d00df, Cond.initialized RJ5, Cond.code yJ5_init_d00df cJ5_init_d00df 2 none, Cond.methodLink RJ5 3 objectInit, Cond.instanceMethod objectInit, Cond.code objectInit ⟨#[0xb1]⟩ 1 none, Cond.fieldLink RJ5 18 "java/lang/String" "COMPACT_STRINGS" "Z", Cond.arrayClass .byte, Cond.fieldLink RJ5 15 "java/lang/AbstractStringBuilder" "value" "[B", Cond.fieldLink RJ5 22 "java/lang/AbstractStringBuilder" "coder" "B", Cond.methodLink RJ5 26 yJ2_newBytesFor_77867, Cond.static yJ2_newBytesFor_77867, Cond.initialized RJ2, Cond.code yJ2_newBytesFor_77867 cJ2_newBytesFor_77867 1 (some (.array .byte)), Cond.methodLink RJ2 11 yJ2_newBytesLength_0f7a4, Cond.static yJ2_newBytesLength_0f7a4, Cond.code yJ2_newBytesLength_0f7a4 cJ2_newBytesLength_0f7a4 1 (some .int)]
def wsX4_lineOf_r2 : List Cond := [Cond.constant RJ2 20 (1073741823), Cond.methodLink RX4 222 yX4_appendName, Cond.instanceMethod yX4_appendName, Cond.selects RX4 yX4_appendName yX4_appendName, Cond.initialized RX4, Cond.code yX4_appendName cX4_appendName 5 none, Cond.fieldLink RX4 9 "StreetIndex" "kinds" "[I", Cond.instanceMethod yX0_countMoved, Cond.initialized RX0, Cond.selects RX0 yX0_countMoved yX0_countMoved, Cond.code yX0_countMoved cX0_countMoved 4 (some .int), Cond.fieldLink RX0 26 "StreetIndex$Street" "wordCount" "I", Cond.fieldLink RX0 9 "StreetIndex$Street" "words" "[I", Cond.methodLink RX4 238 yX4_appendWords, Cond.instanceMethod yX4_appendWords, Cond.selects RX4 yX4_appendWords yX4_appendWords, Cond.code yX4_appendWords cX4_appendWords 7 none, Cond.methodLink RX4 226 yJ4_append_cf468, Cond.instanceMethod yJ4_append_cf468, Cond.selects RJ4 yJ4_append_cf468 yJ4_append_cf468, Cond.code yJ4_append_cf468 cJ4_append_cf468 2 (some (.object "java/lang/StringBuilder")), Cond.methodLink RJ4 50 yJ5_append_3fe6f, Cond.sameMethod "java/lang/AbstractStringBuilder" "java/lang/AbstractStringBuilder" "append" "(C)Ljava/lang/AbstractStringBuilder;", Cond.superclass RJ4 RJ5]
def wsX4_lineOf_r3 : List Cond := [Cond.instanceMethod yJ5_append_3fe6f, Cond.code yJ5_append_3fe6f cJ5_append_3fe6f 2 (some (.object "java/lang/AbstractStringBuilder")), Cond.fieldLink RJ5 79 "java/lang/AbstractStringBuilder" "count" "I", Cond.methodLink RJ5 100 ⟨"java/lang/AbstractStringBuilder", "ensureCapacityInternal", "(I)V"⟩, Cond.sameMethod "java/lang/AbstractStringBuilder" "java/lang/AbstractStringBuilder" "ensureCapacityInternal" "(I)V", Cond.selects RJ4 ⟨"java/lang/AbstractStringBuilder", "ensureCapacityInternal", "(I)V"⟩ yJ5_ensureCapacityInternal_d00df, Cond.instanceMethod yJ5_ensureCapacityInternal_d00df, Cond.code yJ5_ensureCapacityInternal_d00df cJ5_ensureCapacityInternal_d00df 3 none, Cond.methodLink RJ5 104 ⟨"java/lang/AbstractStringBuilder", "newCapacity", "(I)I"⟩, Cond.sameMethod "java/lang/AbstractStringBuilder" "java/lang/AbstractStringBuilder" "newCapacity" "(I)I", Cond.selects RJ4 ⟨"java/lang/AbstractStringBuilder", "newCapacity", "(I)I"⟩ yJ5_newCapacity_0f7a4, Cond.instanceMethod yJ5_newCapacity_0f7a4, Cond.code yJ5_newCapacity_0f7a4 cJ5_newCapacity_0f7a4 6 (some .int), Cond.constant RJ5 39 (2147483647), Cond.methodLink RJ5 114 yJ8_newLength_cabcc, Cond.static yJ8_newLength_cabcc, Cond.initialized RJ8, Cond.code yJ8_newLength_cabcc cJ8_newLength_cabcc 4 (some .int), Cond.methodLink RJ8 194 Lib.Math.max.name, Cond.static Lib.Math.max.name, Cond.initialized "java/lang/Math", Cond.code Lib.Math.max.name Lib.Math.max.code 2 (some .int), Cond.constant RJ8 200 (2147483639), Cond.methodLink RJ8 201 yJ8_hugeLength_7cf53]
def wsX4_lineOf_r4 : List Cond := [Cond.static yJ8_hugeLength_7cf53, Cond.code yJ8_hugeLength_7cf53 cJ8_hugeLength_7cf53 3 (some .int), Cond.methodLink RJ5 108 yJ7_copyOf_9075b, Cond.static yJ7_copyOf_9075b, Cond.initialized RJ7, Cond.code yJ7_copyOf_9075b cJ7_copyOf_9075b 3 (some (.array .byte)), Cond.methodLink RJ7 310 ⟨"[B", "clone", "()Ljava/lang/Object;"⟩, Cond.sameMethod "[B" "java/lang/Object" "clone" "()Ljava/lang/Object;", Cond.native ⟨"java/lang/Object", "clone", "()Ljava/lang/Object;"⟩, Cond.instanceMethod ⟨"java/lang/Object", "clone", "()Ljava/lang/Object;"⟩, Cond.selects "[B" ⟨"[B", "clone", "()Ljava/lang/Object;"⟩ ⟨"java/lang/Object", "clone", "()Ljava/lang/Object;"⟩, Cond.classLink RJ7 311 "[B", Cond.methodLink RJ7 304 Lib.Math.min.name, Cond.static Lib.Math.min.name, Cond.code Lib.Math.min.name Lib.Math.min.code 2 (some .int), Cond.methodLink RJ7 150 arraycopyName, Cond.native arraycopyName, Cond.static arraycopyName, Cond.initialized "java/lang/System", Cond.methodLink RJ5 83 ⟨"java/lang/AbstractStringBuilder", "isLatin1", "()Z"⟩, Cond.sameMethod "java/lang/AbstractStringBuilder" "java/lang/AbstractStringBuilder" "isLatin1" "()Z", Cond.selects RJ4 ⟨"java/lang/AbstractStringBuilder", "isLatin1", "()Z"⟩ yJ5_isLatin1_aae02, Cond.instanceMethod yJ5_isLatin1_aae02, Cond.code yJ5_isLatin1_aae02 cJ5_isLatin1_aae02 1 (some .boolean)]
def wsX4_lineOf_r5 : List Cond := [Cond.methodLink RJ5 191 yJ1_canEncode_fc78d, Cond.static yJ1_canEncode_fc78d, Cond.initialized RJ1, Cond.code yJ1_canEncode_fc78d cJ1_canEncode_fc78d 1 (some .boolean), Cond.methodLink RJ5 195 ⟨"java/lang/AbstractStringBuilder", "inflate", "()V"⟩, Cond.sameMethod "java/lang/AbstractStringBuilder" "java/lang/AbstractStringBuilder" "inflate" "()V", Cond.selects RJ4 ⟨"java/lang/AbstractStringBuilder", "inflate", "()V"⟩ yJ5_inflate_da8c8, Cond.instanceMethod yJ5_inflate_da8c8, Cond.code yJ5_inflate_da8c8 cJ5_inflate_da8c8 2 none, Cond.methodLink RJ5 125 yJ1_inflate_0e8fd, Cond.static yJ1_inflate_0e8fd, Cond.code yJ1_inflate_0e8fd cJ1_inflate_0e8fd 5 none, Cond.methodLink RJ1 240 yJ2_inflate_0e8fd, Cond.static yJ2_inflate_0e8fd, Cond.code yJ2_inflate_0e8fd cJ2_inflate_0e8fd 6 none, Cond.methodLink RJ2 173 yJ2_checkBoundsOffCount_d044e, Cond.static yJ2_checkBoundsOffCount_d044e, Cond.code yJ2_checkBoundsOffCount_d044e cJ2_checkBoundsOffCount_d044e 3 none, Cond.methodLink RJ2 48 yJ2_length_9d52b, Cond.static yJ2_length_9d52b, Cond.code yJ2_length_9d52b cJ2_length_9d52b 1 (some .int), Cond.methodLink RJ2 419 yJ0_checkBoundsOffCount_cabcc, Cond.static yJ0_checkBoundsOffCount_cabcc, Cond.initialized RJ0]
def wsX4_lineOf_r6 : List Cond := [Cond.code yJ0_checkBoundsOffCount_cabcc cJ0_checkBoundsOffCount_cabcc 3 (some .int), Cond.fieldLink RJ0 1053 "jdk/internal/util/Preconditions" "SIOOBE_FORMATTER" "Ljava/util/function/BiFunction;", Cond.methodLink RJ0 1065 yJ3_checkFromIndexSize_8c36e, Cond.static yJ3_checkFromIndexSize_8c36e, Cond.initialized RJ3, Cond.code yJ3_checkFromIndexSize_8c36e cJ3_checkFromIndexSize_8c36e 4 (some .int), Cond.methodLink RJ2 111 yJ2_putChar_b72d1, Cond.static yJ2_putChar_b72d1, Cond.code yJ2_putChar_b72d1 cJ2_putChar_b72d1 3 none, Cond.fieldLink RJ2 44 "java/lang/StringUTF16" "$assertionsDisabled" "Z", Cond.fieldLink RJ2 59 "java/lang/StringUTF16" "HI_BYTE_SHIFT" "I", Cond.fieldLink RJ2 63 "java/lang/StringUTF16" "LO_BYTE_SHIFT" "I", Cond.methodLink RJ5 197 yJ2_putCharSB_b72d1, Cond.static yJ2_putCharSB_b72d1, Cond.code yJ2_putCharSB_b72d1 cJ2_putCharSB_b72d1 3 none, Cond.methodLink RJ2 67 yJ2_checkIndex_2214a, Cond.static yJ2_checkIndex_2214a, Cond.code yJ2_checkIndex_2214a cJ2_checkIndex_2214a 2 none, Cond.methodLink RJ2 414 yJ0_checkIndex_df160, Cond.static yJ0_checkIndex_df160, Cond.code yJ0_checkIndex_df160 cJ0_checkIndex_df160 2 none, Cond.methodLink RJ0 1059 yJ3_checkIndex_8e157, Cond.static yJ3_checkIndex_8e157, Cond.code yJ3_checkIndex_8e157 cJ3_checkIndex_8e157 3 (some .int)]
def wsX4_lineOf_r7 : List Cond := [Cond.methodLink RX4 244 yJ4_append_15ec4, Cond.instanceMethod yJ4_append_15ec4, Cond.selects RJ4 yJ4_append_15ec4 yJ4_append_15ec4, Cond.code yJ4_append_15ec4 cJ4_append_15ec4 2 (some (.object "java/lang/StringBuilder")), Cond.methodLink RJ4 29 yJ5_append_cf1ce, Cond.sameMethod "java/lang/AbstractStringBuilder" "java/lang/AbstractStringBuilder" "append" "(Ljava/lang/String;)Ljava/lang/AbstractStringBuilder;", Cond.instanceMethod yJ5_append_cf1ce, Cond.code yJ5_append_cf1ce cJ5_append_cf1ce 3 (some (.object "java/lang/AbstractStringBuilder")), Cond.methodLink RJ5 204 ⟨"java/lang/AbstractStringBuilder", "appendNull", "()Ljava/lang/AbstractStringBuilder;"⟩, Cond.sameMethod "java/lang/AbstractStringBuilder" "java/lang/AbstractStringBuilder" "appendNull" "()Ljava/lang/AbstractStringBuilder;", Cond.selects RJ4 ⟨"java/lang/AbstractStringBuilder", "appendNull", "()Ljava/lang/AbstractStringBuilder;"⟩ yJ5_appendNull_278bc, Cond.instanceMethod yJ5_appendNull_278bc, Cond.code yJ5_appendNull_278bc cJ5_appendNull_278bc 3 (some (.object "java/lang/AbstractStringBuilder")), Cond.methodLink RJ5 226 yJ2_putCharsAt_cd4e5, Cond.static yJ2_putCharsAt_cd4e5, Cond.code yJ2_putCharsAt_cd4e5 cJ2_putCharsAt_cd4e5 7 (some .int), Cond.methodLink RJ2 96 yJ2_checkBoundsBeginEnd_d044e, Cond.static yJ2_checkBoundsBeginEnd_d044e, Cond.code yJ2_checkBoundsBeginEnd_d044e cJ2_checkBoundsBeginEnd_d044e 3 none, Cond.methodLink RJ2 241 yJ0_checkBoundsBeginEnd_23922, Cond.static yJ0_checkBoundsBeginEnd_23922, Cond.code yJ0_checkBoundsBeginEnd_23922 cJ0_checkBoundsBeginEnd_23922 3 none, Cond.methodLink RJ0 1062 yJ3_checkFromToIndex_8c36e, Cond.static yJ3_checkFromToIndex_8c36e]
def wsX4_lineOf_r8 : List Cond := [Cond.code yJ3_checkFromToIndex_8c36e cJ3_checkFromToIndex_8c36e 4 (some .int), Cond.methodLink RJ5 32 yJ0_length_8abf5, Cond.instanceMethod yJ0_length_8abf5, Cond.selects RJ0 yJ0_length_8abf5 yJ0_length_8abf5, Cond.code yJ0_length_8abf5 cJ0_length_8abf5 1 (some .int), Cond.fieldLink RJ0 9 "java/lang/String" "value" "[B", Cond.methodLink RJ0 335 yJ0_coder_7d493, Cond.instanceMethod yJ0_coder_7d493, Cond.selects RJ0 yJ0_coder_7d493 yJ0_coder_7d493, Cond.code yJ0_coder_7d493 cJ0_coder_7d493 1 (some .byte), Cond.fieldLink RJ0 38 "java/lang/String" "COMPACT_STRINGS" "Z", Cond.fieldLink RJ0 15 "java/lang/String" "coder" "B", Cond.methodLink RJ5 208 ⟨"java/lang/AbstractStringBuilder", "putStringAt", "(ILjava/lang/String;)V"⟩, Cond.sameMethod "java/lang/AbstractStringBuilder" "java/lang/AbstractStringBuilder" "putStringAt" "(ILjava/lang/String;)V", Cond.selects RJ4 ⟨"java/lang/AbstractStringBuilder", "putStringAt", "(ILjava/lang/String;)V"⟩ yJ5_putStringAt_47b60, Cond.instanceMethod yJ5_putStringAt_47b60, Cond.code yJ5_putStringAt_47b60 cJ5_putStringAt_47b60 3 none, Cond.methodLink RJ5 397 ⟨"java/lang/AbstractStringBuilder", "inflateIfNeededFor", "(Ljava/lang/String;)V"⟩, Cond.sameMethod "java/lang/AbstractStringBuilder" "java/lang/AbstractStringBuilder" "inflateIfNeededFor" "(Ljava/lang/String;)V", Cond.selects RJ4 ⟨"java/lang/AbstractStringBuilder", "inflateIfNeededFor", "(Ljava/lang/String;)V"⟩ yJ5_inflateIfNeededFor_a7421, Cond.instanceMethod yJ5_inflateIfNeededFor_a7421, Cond.code yJ5_inflateIfNeededFor_a7421 cJ5_inflateIfNeededFor_a7421 2 none, Cond.methodLink RJ5 40 yJ0_coder_7d493, Cond.methodLink RJ5 399 yJ0_getBytes_840e7]
def wsX4_lineOf_r9 : List Cond := [Cond.instanceMethod yJ0_getBytes_840e7, Cond.selects RJ0 yJ0_getBytes_840e7 yJ0_getBytes_840e7, Cond.code yJ0_getBytes_840e7 cJ0_getBytes_840e7 4 none, Cond.methodLink RJ0 212 arraycopyName, Cond.methodLink RJ0 106 yJ1_inflate_0e8fd, Cond.methodLink RX4 230 yX4_appendRuns, Cond.static yX4_appendRuns, Cond.code yX4_appendRuns cX4_appendRuns 4 none, Cond.instanceMethod yX1_beginsRun, Cond.initialized RX1, Cond.selects RX1 yX1_beginsRun yX1_beginsRun, Cond.code yX1_beginsRun cX1_beginsRun 3 (some .boolean), Cond.methodLink RX1 64 yX1_covers, Cond.instanceMethod yX1_covers, Cond.selects RX1 yX1_covers yX1_covers, Cond.code yX1_covers cX1_covers 3 (some .boolean), Cond.fieldLink RX1 18 "StreetIndex$Track" "rows" "[I", Cond.instanceMethod yX1_endOfRun, Cond.selects RX1 yX1_endOfRun yX1_endOfRun, Cond.code yX1_endOfRun cX1_endOfRun 4 (some .int), Cond.methodLink RX4 253 yX4_appendRun, Cond.static yX4_appendRun, Cond.code yX4_appendRun cX4_appendRun 4 none, Cond.methodLink RX4 257 yJ4_append_bf812]
def wsX4_lineOf_r10 : List Cond := [Cond.instanceMethod yJ4_append_bf812, Cond.selects RJ4 yJ4_append_bf812 yJ4_append_bf812, Cond.code yJ4_append_bf812 cJ4_append_bf812 2 (some (.object "java/lang/StringBuilder")), Cond.methodLink RJ4 53 yJ5_append_c97b9, Cond.sameMethod "java/lang/AbstractStringBuilder" "java/lang/AbstractStringBuilder" "append" "(I)Ljava/lang/AbstractStringBuilder;", Cond.instanceMethod yJ5_append_c97b9, Cond.code yJ5_append_c97b9 cJ5_append_c97b9 4 (some (.object "java/lang/AbstractStringBuilder")), Cond.methodLink RJ5 245 yJ6_stringSize_0f7a4, Cond.static yJ6_stringSize_0f7a4, Cond.initialized RJ6, Cond.code yJ6_stringSize_0f7a4 cJ6_stringSize_0f7a4 4 (some .int), Cond.methodLink RJ5 248 yJ6_getChars_ba4f3, Cond.static yJ6_getChars_ba4f3, Cond.code yJ6_getChars_ba4f3 cJ6_getChars_ba4f3 7 (some .int), Cond.fieldLink RJ6 83 "java/lang/Integer" "DigitOnes" "[B", Cond.fieldLink RJ6 87 "java/lang/Integer" "DigitTens" "[B", Cond.methodLink RJ5 251 yJ2_getChars_46870, Cond.static yJ2_getChars_46870, Cond.code yJ2_getChars_46870 cJ2_getChars_46870 5 (some .int), Cond.methodLink RJ2 393 yJ2_getChars_ba4f3, Cond.static yJ2_getChars_ba4f3, Cond.code yJ2_getChars_ba4f3 cJ2_getChars_ba4f3 7 (some .int), Cond.fieldLink RJ2 403 "java/lang/Integer" "DigitOnes" "[B", Cond.fieldLink RJ2 407 "java/lang/Integer" "DigitTens" "[B"]
def wsX4_lineOf : List Cond := .code yX4_lineOf cX4_lineOf 3 (some (.object "java/lang/StringBuilder")) :: ((wsX4_lineOf_r1 ++ (wsX4_lineOf_r2 ++ (wsX4_lineOf_r3 ++ (wsX4_lineOf_r4 ++ (wsX4_lineOf_r5 ++ (wsX4_lineOf_r6 ++ (wsX4_lineOf_r7 ++ (wsX4_lineOf_r8 ++ (wsX4_lineOf_r9 ++ wsX4_lineOf_r10))))))))) ++ wsJ40 ++ wsX00 ++ wsX10 ++ wsX40)
def wsJ5_length_8abf5 : List Cond := .code yJ5_length_8abf5 cJ5_length_8abf5 1 (some .int) :: ([.fieldLink RJ5 79 "java/lang/AbstractStringBuilder" "count" "I"] ++ wsJ40)
def wsJ4_length_8abf5 : List Cond := .code yJ4_length_8abf5 cJ4_length_8abf5 1 (some .int) :: ([.methodLink RJ4 343 yJ5_length_8abf5, .sameMethod "java/lang/AbstractStringBuilder" "java/lang/AbstractStringBuilder" "length" "()I", .superclass RJ4 RJ5, .instanceMethod yJ5_length_8abf5, .initialized RJ5, .code yJ5_length_8abf5 cJ5_length_8abf5 1 (some .int), .fieldLink RJ5 79 "java/lang/AbstractStringBuilder" "count" "I"] ++ wsJ40)
def wsX4_lineLength_r1 : List Cond := [Cond.fieldLink RX4 15 "StreetIndex" "plan" "[LStreetIndex$Street;", Cond.methodLink RX4 51 yX4_checkStreet, Cond.instanceMethod yX4_checkStreet, Cond.selects RX4 yX4_checkStreet yX4_checkStreet, Cond.initialized RX4, Cond.code yX4_checkStreet cX4_checkStreet 2 none, Cond.classLink RX4 93 "java/lang/IndexOutOfBoundsException", Cond.initialized "java/lang/IndexOutOfBoundsException", Cond.fieldLink RX4 37 "StreetIndex" "streetCount" "I", Cond.methodLink RX4 110 yX4_lineOf, Cond.instanceMethod yX4_lineOf, Cond.selects RX4 yX4_lineOf yX4_lineOf, Cond.code yX4_lineOf cX4_lineOf 3 (some (.object "java/lang/StringBuilder")), Cond.classLink RX4 115 RJ4, Cond.instantiable RJ4 4, Cond.initialized RJ4, Cond.methodLink RX4 221 yJ4_init_da8c8, Cond.instanceMethod yJ4_init_da8c8, Cond.code yJ4_init_da8c8 cJ4_init_da8c8 1 none, Cond.methodLink RJ4 1 yJ5_init_d00df, Cond.instanceMethod yJ5_init_d00df, Cond.initialized RJ5, Cond.code yJ5_init_d00df cJ5_init_d00df 2 none, Cond.methodLink RJ5 3 objectInit]
def wsX4_lineLength_r2 : List Cond := [Cond.instanceMethod objectInit, Cond.code objectInit ⟨#[0xb1]⟩ 1 none, Cond.fieldLink RJ5 18 "java/lang/String" "COMPACT_STRINGS" "Z", Cond.arrayClass .byte, Cond.fieldLink RJ5 15 "java/lang/AbstractStringBuilder" "value" "[B", Cond.fieldLink RJ5 22 "java/lang/AbstractStringBuilder" "coder" "B", Cond.methodLink RJ5 26 yJ2_newBytesFor_77867, Cond.static yJ2_newBytesFor_77867, Cond.initialized RJ2, Cond.code yJ2_newBytesFor_77867 cJ2_newBytesFor_77867 1 (some (.array .byte)), Cond.methodLink RJ2 11 yJ2_newBytesLength_0f7a4, Cond.static yJ2_newBytesLength_0f7a4, Cond.code yJ2_newBytesLength_0f7a4 cJ2_newBytesLength_0f7a4 1 (some .int), Cond.constant RJ2 20 (1073741823), Cond.methodLink RX4 222 yX4_appendName, Cond.instanceMethod yX4_appendName, Cond.selects RX4 yX4_appendName yX4_appendName, Cond.code yX4_appendName cX4_appendName 5 none, Cond.fieldLink RX4 9 "StreetIndex" "kinds" "[I", Cond.instanceMethod yX0_countMoved, Cond.initialized RX0, Cond.selects RX0 yX0_countMoved yX0_countMoved, Cond.code yX0_countMoved cX0_countMoved 4 (some .int), Cond.fieldLink RX0 26 "StreetIndex$Street" "wordCount" "I"]
def wsX4_lineLength_r3 : List Cond := [Cond.fieldLink RX0 9 "StreetIndex$Street" "words" "[I", Cond.methodLink RX4 238 yX4_appendWords, Cond.instanceMethod yX4_appendWords, Cond.selects RX4 yX4_appendWords yX4_appendWords, Cond.code yX4_appendWords cX4_appendWords 7 none, Cond.methodLink RX4 226 yJ4_append_cf468, Cond.instanceMethod yJ4_append_cf468, Cond.selects RJ4 yJ4_append_cf468 yJ4_append_cf468, Cond.code yJ4_append_cf468 cJ4_append_cf468 2 (some (.object "java/lang/StringBuilder")), Cond.methodLink RJ4 50 yJ5_append_3fe6f, Cond.sameMethod "java/lang/AbstractStringBuilder" "java/lang/AbstractStringBuilder" "append" "(C)Ljava/lang/AbstractStringBuilder;", Cond.superclass RJ4 RJ5, Cond.instanceMethod yJ5_append_3fe6f, Cond.code yJ5_append_3fe6f cJ5_append_3fe6f 2 (some (.object "java/lang/AbstractStringBuilder")), Cond.fieldLink RJ5 79 "java/lang/AbstractStringBuilder" "count" "I", Cond.methodLink RJ5 100 ⟨"java/lang/AbstractStringBuilder", "ensureCapacityInternal", "(I)V"⟩, Cond.sameMethod "java/lang/AbstractStringBuilder" "java/lang/AbstractStringBuilder" "ensureCapacityInternal" "(I)V", Cond.selects RJ4 ⟨"java/lang/AbstractStringBuilder", "ensureCapacityInternal", "(I)V"⟩ yJ5_ensureCapacityInternal_d00df, Cond.instanceMethod yJ5_ensureCapacityInternal_d00df, Cond.code yJ5_ensureCapacityInternal_d00df cJ5_ensureCapacityInternal_d00df 3 none, Cond.methodLink RJ5 104 ⟨"java/lang/AbstractStringBuilder", "newCapacity", "(I)I"⟩, Cond.sameMethod "java/lang/AbstractStringBuilder" "java/lang/AbstractStringBuilder" "newCapacity" "(I)I", Cond.selects RJ4 ⟨"java/lang/AbstractStringBuilder", "newCapacity", "(I)I"⟩ yJ5_newCapacity_0f7a4, Cond.instanceMethod yJ5_newCapacity_0f7a4]
def wsX4_lineLength_r4 : List Cond := [Cond.code yJ5_newCapacity_0f7a4 cJ5_newCapacity_0f7a4 6 (some .int), Cond.constant RJ5 39 (2147483647), Cond.methodLink RJ5 114 yJ8_newLength_cabcc, Cond.static yJ8_newLength_cabcc, Cond.initialized RJ8, Cond.code yJ8_newLength_cabcc cJ8_newLength_cabcc 4 (some .int), Cond.methodLink RJ8 194 Lib.Math.max.name, Cond.static Lib.Math.max.name, Cond.initialized "java/lang/Math", Cond.code Lib.Math.max.name Lib.Math.max.code 2 (some .int), Cond.constant RJ8 200 (2147483639), Cond.methodLink RJ8 201 yJ8_hugeLength_7cf53, Cond.static yJ8_hugeLength_7cf53, Cond.code yJ8_hugeLength_7cf53 cJ8_hugeLength_7cf53 3 (some .int), Cond.methodLink RJ5 108 yJ7_copyOf_9075b, Cond.static yJ7_copyOf_9075b, Cond.initialized RJ7, Cond.code yJ7_copyOf_9075b cJ7_copyOf_9075b 3 (some (.array .byte)), Cond.methodLink RJ7 310 ⟨"[B", "clone", "()Ljava/lang/Object;"⟩, Cond.sameMethod "[B" "java/lang/Object" "clone" "()Ljava/lang/Object;", Cond.native ⟨"java/lang/Object", "clone", "()Ljava/lang/Object;"⟩, Cond.instanceMethod ⟨"java/lang/Object", "clone", "()Ljava/lang/Object;"⟩, Cond.selects "[B" ⟨"[B", "clone", "()Ljava/lang/Object;"⟩ ⟨"java/lang/Object", "clone", "()Ljava/lang/Object;"⟩, Cond.classLink RJ7 311 "[B"]
def wsX4_lineLength_r5 : List Cond := [Cond.methodLink RJ7 304 Lib.Math.min.name, Cond.static Lib.Math.min.name, Cond.code Lib.Math.min.name Lib.Math.min.code 2 (some .int), Cond.methodLink RJ7 150 arraycopyName, Cond.native arraycopyName, Cond.static arraycopyName, Cond.initialized "java/lang/System", Cond.methodLink RJ5 83 ⟨"java/lang/AbstractStringBuilder", "isLatin1", "()Z"⟩, Cond.sameMethod "java/lang/AbstractStringBuilder" "java/lang/AbstractStringBuilder" "isLatin1" "()Z", Cond.selects RJ4 ⟨"java/lang/AbstractStringBuilder", "isLatin1", "()Z"⟩ yJ5_isLatin1_aae02, Cond.instanceMethod yJ5_isLatin1_aae02, Cond.code yJ5_isLatin1_aae02 cJ5_isLatin1_aae02 1 (some .boolean), Cond.methodLink RJ5 191 yJ1_canEncode_fc78d, Cond.static yJ1_canEncode_fc78d, Cond.initialized RJ1, Cond.code yJ1_canEncode_fc78d cJ1_canEncode_fc78d 1 (some .boolean), Cond.methodLink RJ5 195 ⟨"java/lang/AbstractStringBuilder", "inflate", "()V"⟩, Cond.sameMethod "java/lang/AbstractStringBuilder" "java/lang/AbstractStringBuilder" "inflate" "()V", Cond.selects RJ4 ⟨"java/lang/AbstractStringBuilder", "inflate", "()V"⟩ yJ5_inflate_da8c8, Cond.instanceMethod yJ5_inflate_da8c8, Cond.code yJ5_inflate_da8c8 cJ5_inflate_da8c8 2 none, Cond.methodLink RJ5 125 yJ1_inflate_0e8fd, Cond.static yJ1_inflate_0e8fd, Cond.code yJ1_inflate_0e8fd cJ1_inflate_0e8fd 5 none]
def wsX4_lineLength_r6 : List Cond := [Cond.methodLink RJ1 240 yJ2_inflate_0e8fd, Cond.static yJ2_inflate_0e8fd, Cond.code yJ2_inflate_0e8fd cJ2_inflate_0e8fd 6 none, Cond.methodLink RJ2 173 yJ2_checkBoundsOffCount_d044e, Cond.static yJ2_checkBoundsOffCount_d044e, Cond.code yJ2_checkBoundsOffCount_d044e cJ2_checkBoundsOffCount_d044e 3 none, Cond.methodLink RJ2 48 yJ2_length_9d52b, Cond.static yJ2_length_9d52b, Cond.code yJ2_length_9d52b cJ2_length_9d52b 1 (some .int), Cond.methodLink RJ2 419 yJ0_checkBoundsOffCount_cabcc, Cond.static yJ0_checkBoundsOffCount_cabcc, Cond.initialized RJ0, Cond.code yJ0_checkBoundsOffCount_cabcc cJ0_checkBoundsOffCount_cabcc 3 (some .int), Cond.fieldLink RJ0 1053 "jdk/internal/util/Preconditions" "SIOOBE_FORMATTER" "Ljava/util/function/BiFunction;", Cond.methodLink RJ0 1065 yJ3_checkFromIndexSize_8c36e, Cond.static yJ3_checkFromIndexSize_8c36e, Cond.initialized RJ3, Cond.code yJ3_checkFromIndexSize_8c36e cJ3_checkFromIndexSize_8c36e 4 (some .int), Cond.methodLink RJ2 111 yJ2_putChar_b72d1, Cond.static yJ2_putChar_b72d1, Cond.code yJ2_putChar_b72d1 cJ2_putChar_b72d1 3 none, Cond.fieldLink RJ2 44 "java/lang/StringUTF16" "$assertionsDisabled" "Z", Cond.fieldLink RJ2 59 "java/lang/StringUTF16" "HI_BYTE_SHIFT" "I", Cond.fieldLink RJ2 63 "java/lang/StringUTF16" "LO_BYTE_SHIFT" "I"]
def wsX4_lineLength_r7 : List Cond := [Cond.methodLink RJ5 197 yJ2_putCharSB_b72d1, Cond.static yJ2_putCharSB_b72d1, Cond.code yJ2_putCharSB_b72d1 cJ2_putCharSB_b72d1 3 none, Cond.methodLink RJ2 67 yJ2_checkIndex_2214a, Cond.static yJ2_checkIndex_2214a, Cond.code yJ2_checkIndex_2214a cJ2_checkIndex_2214a 2 none, Cond.methodLink RJ2 414 yJ0_checkIndex_df160, Cond.static yJ0_checkIndex_df160, Cond.code yJ0_checkIndex_df160 cJ0_checkIndex_df160 2 none, Cond.methodLink RJ0 1059 yJ3_checkIndex_8e157, Cond.static yJ3_checkIndex_8e157, Cond.code yJ3_checkIndex_8e157 cJ3_checkIndex_8e157 3 (some .int), Cond.methodLink RX4 244 yJ4_append_15ec4, Cond.instanceMethod yJ4_append_15ec4, Cond.selects RJ4 yJ4_append_15ec4 yJ4_append_15ec4, Cond.code yJ4_append_15ec4 cJ4_append_15ec4 2 (some (.object "java/lang/StringBuilder")), Cond.methodLink RJ4 29 yJ5_append_cf1ce, Cond.sameMethod "java/lang/AbstractStringBuilder" "java/lang/AbstractStringBuilder" "append" "(Ljava/lang/String;)Ljava/lang/AbstractStringBuilder;", Cond.instanceMethod yJ5_append_cf1ce, Cond.code yJ5_append_cf1ce cJ5_append_cf1ce 3 (some (.object "java/lang/AbstractStringBuilder")), Cond.methodLink RJ5 204 ⟨"java/lang/AbstractStringBuilder", "appendNull", "()Ljava/lang/AbstractStringBuilder;"⟩, Cond.sameMethod "java/lang/AbstractStringBuilder" "java/lang/AbstractStringBuilder" "appendNull" "()Ljava/lang/AbstractStringBuilder;", Cond.selects RJ4 ⟨"java/lang/AbstractStringBuilder", "appendNull", "()Ljava/lang/AbstractStringBuilder;"⟩ yJ5_appendNull_278bc, Cond.instanceMethod yJ5_appendNull_278bc]
def wsX4_lineLength_r8 : List Cond := [Cond.code yJ5_appendNull_278bc cJ5_appendNull_278bc 3 (some (.object "java/lang/AbstractStringBuilder")), Cond.methodLink RJ5 226 yJ2_putCharsAt_cd4e5, Cond.static yJ2_putCharsAt_cd4e5, Cond.code yJ2_putCharsAt_cd4e5 cJ2_putCharsAt_cd4e5 7 (some .int), Cond.methodLink RJ2 96 yJ2_checkBoundsBeginEnd_d044e, Cond.static yJ2_checkBoundsBeginEnd_d044e, Cond.code yJ2_checkBoundsBeginEnd_d044e cJ2_checkBoundsBeginEnd_d044e 3 none, Cond.methodLink RJ2 241 yJ0_checkBoundsBeginEnd_23922, Cond.static yJ0_checkBoundsBeginEnd_23922, Cond.code yJ0_checkBoundsBeginEnd_23922 cJ0_checkBoundsBeginEnd_23922 3 none, Cond.methodLink RJ0 1062 yJ3_checkFromToIndex_8c36e, Cond.static yJ3_checkFromToIndex_8c36e, Cond.code yJ3_checkFromToIndex_8c36e cJ3_checkFromToIndex_8c36e 4 (some .int), Cond.methodLink RJ5 32 yJ0_length_8abf5, Cond.instanceMethod yJ0_length_8abf5, Cond.selects RJ0 yJ0_length_8abf5 yJ0_length_8abf5, Cond.code yJ0_length_8abf5 cJ0_length_8abf5 1 (some .int), Cond.fieldLink RJ0 9 "java/lang/String" "value" "[B", Cond.methodLink RJ0 335 yJ0_coder_7d493, Cond.instanceMethod yJ0_coder_7d493, Cond.selects RJ0 yJ0_coder_7d493 yJ0_coder_7d493, Cond.code yJ0_coder_7d493 cJ0_coder_7d493 1 (some .byte), Cond.fieldLink RJ0 38 "java/lang/String" "COMPACT_STRINGS" "Z", Cond.fieldLink RJ0 15 "java/lang/String" "coder" "B"]
def wsX4_lineLength_r9 : List Cond := [Cond.methodLink RJ5 208 ⟨"java/lang/AbstractStringBuilder", "putStringAt", "(ILjava/lang/String;)V"⟩, Cond.sameMethod "java/lang/AbstractStringBuilder" "java/lang/AbstractStringBuilder" "putStringAt" "(ILjava/lang/String;)V", Cond.selects RJ4 ⟨"java/lang/AbstractStringBuilder", "putStringAt", "(ILjava/lang/String;)V"⟩ yJ5_putStringAt_47b60, Cond.instanceMethod yJ5_putStringAt_47b60, Cond.code yJ5_putStringAt_47b60 cJ5_putStringAt_47b60 3 none, Cond.methodLink RJ5 397 ⟨"java/lang/AbstractStringBuilder", "inflateIfNeededFor", "(Ljava/lang/String;)V"⟩, Cond.sameMethod "java/lang/AbstractStringBuilder" "java/lang/AbstractStringBuilder" "inflateIfNeededFor" "(Ljava/lang/String;)V", Cond.selects RJ4 ⟨"java/lang/AbstractStringBuilder", "inflateIfNeededFor", "(Ljava/lang/String;)V"⟩ yJ5_inflateIfNeededFor_a7421, Cond.instanceMethod yJ5_inflateIfNeededFor_a7421, Cond.code yJ5_inflateIfNeededFor_a7421 cJ5_inflateIfNeededFor_a7421 2 none, Cond.methodLink RJ5 40 yJ0_coder_7d493, Cond.methodLink RJ5 399 yJ0_getBytes_840e7, Cond.instanceMethod yJ0_getBytes_840e7, Cond.selects RJ0 yJ0_getBytes_840e7 yJ0_getBytes_840e7, Cond.code yJ0_getBytes_840e7 cJ0_getBytes_840e7 4 none, Cond.methodLink RJ0 212 arraycopyName, Cond.methodLink RJ0 106 yJ1_inflate_0e8fd, Cond.methodLink RX4 230 yX4_appendRuns, Cond.static yX4_appendRuns, Cond.code yX4_appendRuns cX4_appendRuns 4 none, Cond.instanceMethod yX1_beginsRun, Cond.initialized RX1, Cond.selects RX1 yX1_beginsRun yX1_beginsRun, Cond.code yX1_beginsRun cX1_beginsRun 3 (some .boolean)]
def wsX4_lineLength_r10 : List Cond := [Cond.methodLink RX1 64 yX1_covers, Cond.instanceMethod yX1_covers, Cond.selects RX1 yX1_covers yX1_covers, Cond.code yX1_covers cX1_covers 3 (some .boolean), Cond.fieldLink RX1 18 "StreetIndex$Track" "rows" "[I", Cond.instanceMethod yX1_endOfRun, Cond.selects RX1 yX1_endOfRun yX1_endOfRun, Cond.code yX1_endOfRun cX1_endOfRun 4 (some .int), Cond.methodLink RX4 253 yX4_appendRun, Cond.static yX4_appendRun, Cond.code yX4_appendRun cX4_appendRun 4 none, Cond.methodLink RX4 257 yJ4_append_bf812, Cond.instanceMethod yJ4_append_bf812, Cond.selects RJ4 yJ4_append_bf812 yJ4_append_bf812, Cond.code yJ4_append_bf812 cJ4_append_bf812 2 (some (.object "java/lang/StringBuilder")), Cond.methodLink RJ4 53 yJ5_append_c97b9, Cond.sameMethod "java/lang/AbstractStringBuilder" "java/lang/AbstractStringBuilder" "append" "(I)Ljava/lang/AbstractStringBuilder;", Cond.instanceMethod yJ5_append_c97b9, Cond.code yJ5_append_c97b9 cJ5_append_c97b9 4 (some (.object "java/lang/AbstractStringBuilder")), Cond.methodLink RJ5 245 yJ6_stringSize_0f7a4, Cond.static yJ6_stringSize_0f7a4, Cond.initialized RJ6, Cond.code yJ6_stringSize_0f7a4 cJ6_stringSize_0f7a4 4 (some .int), Cond.methodLink RJ5 248 yJ6_getChars_ba4f3]
def wsX4_lineLength_r11 : List Cond := [Cond.static yJ6_getChars_ba4f3, Cond.code yJ6_getChars_ba4f3 cJ6_getChars_ba4f3 7 (some .int), Cond.fieldLink RJ6 83 "java/lang/Integer" "DigitOnes" "[B", Cond.fieldLink RJ6 87 "java/lang/Integer" "DigitTens" "[B", Cond.methodLink RJ5 251 yJ2_getChars_46870, Cond.static yJ2_getChars_46870, Cond.code yJ2_getChars_46870 cJ2_getChars_46870 5 (some .int), Cond.methodLink RJ2 393 yJ2_getChars_ba4f3, Cond.static yJ2_getChars_ba4f3, Cond.code yJ2_getChars_ba4f3 cJ2_getChars_ba4f3 7 (some .int), Cond.fieldLink RJ2 403 "java/lang/Integer" "DigitOnes" "[B", Cond.fieldLink RJ2 407 "java/lang/Integer" "DigitTens" "[B", Cond.methodLink RX4 114 yJ4_length_8abf5, Cond.instanceMethod yJ4_length_8abf5, Cond.selects RJ4 yJ4_length_8abf5 yJ4_length_8abf5, Cond.code yJ4_length_8abf5 cJ4_length_8abf5 1 (some .int), Cond.methodLink RJ4 343 yJ5_length_8abf5, Cond.sameMethod "java/lang/AbstractStringBuilder" "java/lang/AbstractStringBuilder" "length" "()I", Cond.instanceMethod yJ5_length_8abf5, Cond.code yJ5_length_8abf5 cJ5_length_8abf5 1 (some .int)]
def wsX4_lineLength : List Cond := .code yX4_lineLength cX4_lineLength 2 (some .int) :: ((wsX4_lineLength_r1 ++ (wsX4_lineLength_r2 ++ (wsX4_lineLength_r3 ++ (wsX4_lineLength_r4 ++ (wsX4_lineLength_r5 ++ (wsX4_lineLength_r6 ++ (wsX4_lineLength_r7 ++ (wsX4_lineLength_r8 ++ (wsX4_lineLength_r9 ++ (wsX4_lineLength_r10 ++ wsX4_lineLength_r11)))))))))) ++ wsX40 ++ wsJ40 ++ wsX00 ++ wsX10 ++ (vx_atS RX4 97 "java/lang/IndexOutOfBoundsException" ["java/lang/RuntimeException", "java/lang/Exception"]).filter goodWord)
def wsJ5_charAt_5068e_r1 : List Cond := [Cond.fieldLink RJ5 22 "java/lang/AbstractStringBuilder" "coder" "B", Cond.fieldLink RJ5 15 "java/lang/AbstractStringBuilder" "value" "[B", Cond.fieldLink RJ5 79 "java/lang/AbstractStringBuilder" "count" "I", Cond.methodLink RJ5 138 Lib.Math.min.name, Cond.static Lib.Math.min.name, Cond.initialized "java/lang/Math", Cond.code Lib.Math.min.name Lib.Math.min.code 2 (some .int), Cond.methodLink RJ5 144 yJ0_checkIndex_df160, Cond.static yJ0_checkIndex_df160, Cond.initialized RJ0, Cond.code yJ0_checkIndex_df160 cJ0_checkIndex_df160 2 none, Cond.fieldLink RJ0 1053 "jdk/internal/util/Preconditions" "SIOOBE_FORMATTER" "Ljava/util/function/BiFunction;", Cond.methodLink RJ0 1059 yJ3_checkIndex_8e157, Cond.static yJ3_checkIndex_8e157, Cond.initialized RJ3, Cond.code yJ3_checkIndex_8e157 cJ3_checkIndex_8e157 3 (some .int), Cond.methodLink RJ5 148 yJ2_getChar_3b067, Cond.static yJ2_getChar_3b067, Cond.initialized RJ2, Cond.code yJ2_getChar_3b067 cJ2_getChar_3b067 2 (some .char), Cond.fieldLink RJ2 44 "java/lang/StringUTF16" "$assertionsDisabled" "Z", Cond.fieldLink RJ2 59 "java/lang/StringUTF16" "HI_BYTE_SHIFT" "I", Cond.fieldLink RJ2 63 "java/lang/StringUTF16" "LO_BYTE_SHIFT" "I", Cond.methodLink RJ2 48 yJ2_length_9d52b]
def wsJ5_charAt_5068e_r2 : List Cond := [Cond.static yJ2_length_9d52b, Cond.code yJ2_length_9d52b cJ2_length_9d52b 1 (some .int)]
def wsJ5_charAt_5068e : List Cond := .code yJ5_charAt_5068e cJ5_charAt_5068e 5 (some .char) :: ((wsJ5_charAt_5068e_r1 ++ wsJ5_charAt_5068e_r2) ++ wsJ40)
def wsJ4_charAt_5068e_r1 : List Cond := [Cond.methodLink RJ4 329 yJ5_charAt_5068e, Cond.sameMethod "java/lang/AbstractStringBuilder" "java/lang/AbstractStringBuilder" "charAt" "(I)C", Cond.superclass RJ4 RJ5, Cond.instanceMethod yJ5_charAt_5068e, Cond.initialized RJ5, Cond.code yJ5_charAt_5068e cJ5_charAt_5068e 5 (some .char), Cond.fieldLink RJ5 22 "java/lang/AbstractStringBuilder" "coder" "B", Cond.fieldLink RJ5 15 "java/lang/AbstractStringBuilder" "value" "[B", Cond.fieldLink RJ5 79 "java/lang/AbstractStringBuilder" "count" "I", Cond.methodLink RJ5 138 Lib.Math.min.name, Cond.static Lib.Math.min.name, Cond.initialized "java/lang/Math", Cond.code Lib.Math.min.name Lib.Math.min.code 2 (some .int), Cond.methodLink RJ5 144 yJ0_checkIndex_df160, Cond.static yJ0_checkIndex_df160, Cond.initialized RJ0, Cond.code yJ0_checkIndex_df160 cJ0_checkIndex_df160 2 none, Cond.fieldLink RJ0 1053 "jdk/internal/util/Preconditions" "SIOOBE_FORMATTER" "Ljava/util/function/BiFunction;", Cond.methodLink RJ0 1059 yJ3_checkIndex_8e157, Cond.static yJ3_checkIndex_8e157, Cond.initialized RJ3, Cond.code yJ3_checkIndex_8e157 cJ3_checkIndex_8e157 3 (some .int), Cond.methodLink RJ5 148 yJ2_getChar_3b067, Cond.static yJ2_getChar_3b067]
def wsJ4_charAt_5068e_r2 : List Cond := [Cond.initialized RJ2, Cond.code yJ2_getChar_3b067 cJ2_getChar_3b067 2 (some .char), Cond.fieldLink RJ2 44 "java/lang/StringUTF16" "$assertionsDisabled" "Z", Cond.fieldLink RJ2 59 "java/lang/StringUTF16" "HI_BYTE_SHIFT" "I", Cond.fieldLink RJ2 63 "java/lang/StringUTF16" "LO_BYTE_SHIFT" "I", Cond.methodLink RJ2 48 yJ2_length_9d52b, Cond.static yJ2_length_9d52b, Cond.code yJ2_length_9d52b cJ2_length_9d52b 1 (some .int)]
def wsJ4_charAt_5068e : List Cond := .code yJ4_charAt_5068e cJ4_charAt_5068e 2 (some .char) :: ((wsJ4_charAt_5068e_r1 ++ wsJ4_charAt_5068e_r2) ++ wsJ40)
def wsX4_lineChar_r1 : List Cond := [Cond.classLink RX4 93 "java/lang/IndexOutOfBoundsException", Cond.initialized "java/lang/IndexOutOfBoundsException", Cond.fieldLink RX4 15 "StreetIndex" "plan" "[LStreetIndex$Street;", Cond.methodLink RX4 51 yX4_checkStreet, Cond.instanceMethod yX4_checkStreet, Cond.selects RX4 yX4_checkStreet yX4_checkStreet, Cond.initialized RX4, Cond.code yX4_checkStreet cX4_checkStreet 2 none, Cond.fieldLink RX4 37 "StreetIndex" "streetCount" "I", Cond.methodLink RX4 110 yX4_lineOf, Cond.instanceMethod yX4_lineOf, Cond.selects RX4 yX4_lineOf yX4_lineOf, Cond.code yX4_lineOf cX4_lineOf 3 (some (.object "java/lang/StringBuilder")), Cond.classLink RX4 115 RJ4, Cond.instantiable RJ4 4, Cond.initialized RJ4, Cond.methodLink RX4 221 yJ4_init_da8c8, Cond.instanceMethod yJ4_init_da8c8, Cond.code yJ4_init_da8c8 cJ4_init_da8c8 1 none, Cond.methodLink RJ4 1 yJ5_init_d00df, Cond.instanceMethod yJ5_init_d00df, Cond.initialized RJ5, Cond.code yJ5_init_d00df cJ5_init_d00df 2 none, Cond.methodLink RJ5 3 objectInit]
def wsX4_lineChar_r2 : List Cond := [Cond.instanceMethod objectInit, Cond.code objectInit ⟨#[0xb1]⟩ 1 none, Cond.fieldLink RJ5 18 "java/lang/String" "COMPACT_STRINGS" "Z", Cond.arrayClass .byte, Cond.fieldLink RJ5 15 "java/lang/AbstractStringBuilder" "value" "[B", Cond.fieldLink RJ5 22 "java/lang/AbstractStringBuilder" "coder" "B", Cond.methodLink RJ5 26 yJ2_newBytesFor_77867, Cond.static yJ2_newBytesFor_77867, Cond.initialized RJ2, Cond.code yJ2_newBytesFor_77867 cJ2_newBytesFor_77867 1 (some (.array .byte)), Cond.methodLink RJ2 11 yJ2_newBytesLength_0f7a4, Cond.static yJ2_newBytesLength_0f7a4, Cond.code yJ2_newBytesLength_0f7a4 cJ2_newBytesLength_0f7a4 1 (some .int), Cond.constant RJ2 20 (1073741823), Cond.methodLink RX4 222 yX4_appendName, Cond.instanceMethod yX4_appendName, Cond.selects RX4 yX4_appendName yX4_appendName, Cond.code yX4_appendName cX4_appendName 5 none, Cond.fieldLink RX4 9 "StreetIndex" "kinds" "[I", Cond.instanceMethod yX0_countMoved, Cond.initialized RX0, Cond.selects RX0 yX0_countMoved yX0_countMoved, Cond.code yX0_countMoved cX0_countMoved 4 (some .int), Cond.fieldLink RX0 26 "StreetIndex$Street" "wordCount" "I"]
def wsX4_lineChar_r3 : List Cond := [Cond.fieldLink RX0 9 "StreetIndex$Street" "words" "[I", Cond.methodLink RX4 238 yX4_appendWords, Cond.instanceMethod yX4_appendWords, Cond.selects RX4 yX4_appendWords yX4_appendWords, Cond.code yX4_appendWords cX4_appendWords 7 none, Cond.methodLink RX4 226 yJ4_append_cf468, Cond.instanceMethod yJ4_append_cf468, Cond.selects RJ4 yJ4_append_cf468 yJ4_append_cf468, Cond.code yJ4_append_cf468 cJ4_append_cf468 2 (some (.object "java/lang/StringBuilder")), Cond.methodLink RJ4 50 yJ5_append_3fe6f, Cond.sameMethod "java/lang/AbstractStringBuilder" "java/lang/AbstractStringBuilder" "append" "(C)Ljava/lang/AbstractStringBuilder;", Cond.superclass RJ4 RJ5, Cond.instanceMethod yJ5_append_3fe6f, Cond.code yJ5_append_3fe6f cJ5_append_3fe6f 2 (some (.object "java/lang/AbstractStringBuilder")), Cond.fieldLink RJ5 79 "java/lang/AbstractStringBuilder" "count" "I", Cond.methodLink RJ5 100 ⟨"java/lang/AbstractStringBuilder", "ensureCapacityInternal", "(I)V"⟩, Cond.sameMethod "java/lang/AbstractStringBuilder" "java/lang/AbstractStringBuilder" "ensureCapacityInternal" "(I)V", Cond.selects RJ4 ⟨"java/lang/AbstractStringBuilder", "ensureCapacityInternal", "(I)V"⟩ yJ5_ensureCapacityInternal_d00df, Cond.instanceMethod yJ5_ensureCapacityInternal_d00df, Cond.code yJ5_ensureCapacityInternal_d00df cJ5_ensureCapacityInternal_d00df 3 none, Cond.methodLink RJ5 104 ⟨"java/lang/AbstractStringBuilder", "newCapacity", "(I)I"⟩, Cond.sameMethod "java/lang/AbstractStringBuilder" "java/lang/AbstractStringBuilder" "newCapacity" "(I)I", Cond.selects RJ4 ⟨"java/lang/AbstractStringBuilder", "newCapacity", "(I)I"⟩ yJ5_newCapacity_0f7a4, Cond.instanceMethod yJ5_newCapacity_0f7a4]
def wsX4_lineChar_r4 : List Cond := [Cond.code yJ5_newCapacity_0f7a4 cJ5_newCapacity_0f7a4 6 (some .int), Cond.constant RJ5 39 (2147483647), Cond.methodLink RJ5 114 yJ8_newLength_cabcc, Cond.static yJ8_newLength_cabcc, Cond.initialized RJ8, Cond.code yJ8_newLength_cabcc cJ8_newLength_cabcc 4 (some .int), Cond.methodLink RJ8 194 Lib.Math.max.name, Cond.static Lib.Math.max.name, Cond.initialized "java/lang/Math", Cond.code Lib.Math.max.name Lib.Math.max.code 2 (some .int), Cond.constant RJ8 200 (2147483639), Cond.methodLink RJ8 201 yJ8_hugeLength_7cf53, Cond.static yJ8_hugeLength_7cf53, Cond.code yJ8_hugeLength_7cf53 cJ8_hugeLength_7cf53 3 (some .int), Cond.methodLink RJ5 108 yJ7_copyOf_9075b, Cond.static yJ7_copyOf_9075b, Cond.initialized RJ7, Cond.code yJ7_copyOf_9075b cJ7_copyOf_9075b 3 (some (.array .byte)), Cond.methodLink RJ7 310 ⟨"[B", "clone", "()Ljava/lang/Object;"⟩, Cond.sameMethod "[B" "java/lang/Object" "clone" "()Ljava/lang/Object;", Cond.native ⟨"java/lang/Object", "clone", "()Ljava/lang/Object;"⟩, Cond.instanceMethod ⟨"java/lang/Object", "clone", "()Ljava/lang/Object;"⟩, Cond.selects "[B" ⟨"[B", "clone", "()Ljava/lang/Object;"⟩ ⟨"java/lang/Object", "clone", "()Ljava/lang/Object;"⟩, Cond.classLink RJ7 311 "[B"]
def wsX4_lineChar_r5 : List Cond := [Cond.methodLink RJ7 304 Lib.Math.min.name, Cond.static Lib.Math.min.name, Cond.code Lib.Math.min.name Lib.Math.min.code 2 (some .int), Cond.methodLink RJ7 150 arraycopyName, Cond.native arraycopyName, Cond.static arraycopyName, Cond.initialized "java/lang/System", Cond.methodLink RJ5 83 ⟨"java/lang/AbstractStringBuilder", "isLatin1", "()Z"⟩, Cond.sameMethod "java/lang/AbstractStringBuilder" "java/lang/AbstractStringBuilder" "isLatin1" "()Z", Cond.selects RJ4 ⟨"java/lang/AbstractStringBuilder", "isLatin1", "()Z"⟩ yJ5_isLatin1_aae02, Cond.instanceMethod yJ5_isLatin1_aae02, Cond.code yJ5_isLatin1_aae02 cJ5_isLatin1_aae02 1 (some .boolean), Cond.methodLink RJ5 191 yJ1_canEncode_fc78d, Cond.static yJ1_canEncode_fc78d, Cond.initialized RJ1, Cond.code yJ1_canEncode_fc78d cJ1_canEncode_fc78d 1 (some .boolean), Cond.methodLink RJ5 195 ⟨"java/lang/AbstractStringBuilder", "inflate", "()V"⟩, Cond.sameMethod "java/lang/AbstractStringBuilder" "java/lang/AbstractStringBuilder" "inflate" "()V", Cond.selects RJ4 ⟨"java/lang/AbstractStringBuilder", "inflate", "()V"⟩ yJ5_inflate_da8c8, Cond.instanceMethod yJ5_inflate_da8c8, Cond.code yJ5_inflate_da8c8 cJ5_inflate_da8c8 2 none, Cond.methodLink RJ5 125 yJ1_inflate_0e8fd, Cond.static yJ1_inflate_0e8fd, Cond.code yJ1_inflate_0e8fd cJ1_inflate_0e8fd 5 none]
def wsX4_lineChar_r6 : List Cond := [Cond.methodLink RJ1 240 yJ2_inflate_0e8fd, Cond.static yJ2_inflate_0e8fd, Cond.code yJ2_inflate_0e8fd cJ2_inflate_0e8fd 6 none, Cond.methodLink RJ2 173 yJ2_checkBoundsOffCount_d044e, Cond.static yJ2_checkBoundsOffCount_d044e, Cond.code yJ2_checkBoundsOffCount_d044e cJ2_checkBoundsOffCount_d044e 3 none, Cond.methodLink RJ2 48 yJ2_length_9d52b, Cond.static yJ2_length_9d52b, Cond.code yJ2_length_9d52b cJ2_length_9d52b 1 (some .int), Cond.methodLink RJ2 419 yJ0_checkBoundsOffCount_cabcc, Cond.static yJ0_checkBoundsOffCount_cabcc, Cond.initialized RJ0, Cond.code yJ0_checkBoundsOffCount_cabcc cJ0_checkBoundsOffCount_cabcc 3 (some .int), Cond.fieldLink RJ0 1053 "jdk/internal/util/Preconditions" "SIOOBE_FORMATTER" "Ljava/util/function/BiFunction;", Cond.methodLink RJ0 1065 yJ3_checkFromIndexSize_8c36e, Cond.static yJ3_checkFromIndexSize_8c36e, Cond.initialized RJ3, Cond.code yJ3_checkFromIndexSize_8c36e cJ3_checkFromIndexSize_8c36e 4 (some .int), Cond.methodLink RJ2 111 yJ2_putChar_b72d1, Cond.static yJ2_putChar_b72d1, Cond.code yJ2_putChar_b72d1 cJ2_putChar_b72d1 3 none, Cond.fieldLink RJ2 44 "java/lang/StringUTF16" "$assertionsDisabled" "Z", Cond.fieldLink RJ2 59 "java/lang/StringUTF16" "HI_BYTE_SHIFT" "I", Cond.fieldLink RJ2 63 "java/lang/StringUTF16" "LO_BYTE_SHIFT" "I"]
def wsX4_lineChar_r7 : List Cond := [Cond.methodLink RJ5 197 yJ2_putCharSB_b72d1, Cond.static yJ2_putCharSB_b72d1, Cond.code yJ2_putCharSB_b72d1 cJ2_putCharSB_b72d1 3 none, Cond.methodLink RJ2 67 yJ2_checkIndex_2214a, Cond.static yJ2_checkIndex_2214a, Cond.code yJ2_checkIndex_2214a cJ2_checkIndex_2214a 2 none, Cond.methodLink RJ2 414 yJ0_checkIndex_df160, Cond.static yJ0_checkIndex_df160, Cond.code yJ0_checkIndex_df160 cJ0_checkIndex_df160 2 none, Cond.methodLink RJ0 1059 yJ3_checkIndex_8e157, Cond.static yJ3_checkIndex_8e157, Cond.code yJ3_checkIndex_8e157 cJ3_checkIndex_8e157 3 (some .int), Cond.methodLink RX4 244 yJ4_append_15ec4, Cond.instanceMethod yJ4_append_15ec4, Cond.selects RJ4 yJ4_append_15ec4 yJ4_append_15ec4, Cond.code yJ4_append_15ec4 cJ4_append_15ec4 2 (some (.object "java/lang/StringBuilder")), Cond.methodLink RJ4 29 yJ5_append_cf1ce, Cond.sameMethod "java/lang/AbstractStringBuilder" "java/lang/AbstractStringBuilder" "append" "(Ljava/lang/String;)Ljava/lang/AbstractStringBuilder;", Cond.instanceMethod yJ5_append_cf1ce, Cond.code yJ5_append_cf1ce cJ5_append_cf1ce 3 (some (.object "java/lang/AbstractStringBuilder")), Cond.methodLink RJ5 204 ⟨"java/lang/AbstractStringBuilder", "appendNull", "()Ljava/lang/AbstractStringBuilder;"⟩, Cond.sameMethod "java/lang/AbstractStringBuilder" "java/lang/AbstractStringBuilder" "appendNull" "()Ljava/lang/AbstractStringBuilder;", Cond.selects RJ4 ⟨"java/lang/AbstractStringBuilder", "appendNull", "()Ljava/lang/AbstractStringBuilder;"⟩ yJ5_appendNull_278bc, Cond.instanceMethod yJ5_appendNull_278bc]
def wsX4_lineChar_r8 : List Cond := [Cond.code yJ5_appendNull_278bc cJ5_appendNull_278bc 3 (some (.object "java/lang/AbstractStringBuilder")), Cond.methodLink RJ5 226 yJ2_putCharsAt_cd4e5, Cond.static yJ2_putCharsAt_cd4e5, Cond.code yJ2_putCharsAt_cd4e5 cJ2_putCharsAt_cd4e5 7 (some .int), Cond.methodLink RJ2 96 yJ2_checkBoundsBeginEnd_d044e, Cond.static yJ2_checkBoundsBeginEnd_d044e, Cond.code yJ2_checkBoundsBeginEnd_d044e cJ2_checkBoundsBeginEnd_d044e 3 none, Cond.methodLink RJ2 241 yJ0_checkBoundsBeginEnd_23922, Cond.static yJ0_checkBoundsBeginEnd_23922, Cond.code yJ0_checkBoundsBeginEnd_23922 cJ0_checkBoundsBeginEnd_23922 3 none, Cond.methodLink RJ0 1062 yJ3_checkFromToIndex_8c36e, Cond.static yJ3_checkFromToIndex_8c36e, Cond.code yJ3_checkFromToIndex_8c36e cJ3_checkFromToIndex_8c36e 4 (some .int), Cond.methodLink RJ5 32 yJ0_length_8abf5, Cond.instanceMethod yJ0_length_8abf5, Cond.selects RJ0 yJ0_length_8abf5 yJ0_length_8abf5, Cond.code yJ0_length_8abf5 cJ0_length_8abf5 1 (some .int), Cond.fieldLink RJ0 9 "java/lang/String" "value" "[B", Cond.methodLink RJ0 335 yJ0_coder_7d493, Cond.instanceMethod yJ0_coder_7d493, Cond.selects RJ0 yJ0_coder_7d493 yJ0_coder_7d493, Cond.code yJ0_coder_7d493 cJ0_coder_7d493 1 (some .byte), Cond.fieldLink RJ0 38 "java/lang/String" "COMPACT_STRINGS" "Z", Cond.fieldLink RJ0 15 "java/lang/String" "coder" "B"]
def wsX4_lineChar_r9 : List Cond := [Cond.methodLink RJ5 208 ⟨"java/lang/AbstractStringBuilder", "putStringAt", "(ILjava/lang/String;)V"⟩, Cond.sameMethod "java/lang/AbstractStringBuilder" "java/lang/AbstractStringBuilder" "putStringAt" "(ILjava/lang/String;)V", Cond.selects RJ4 ⟨"java/lang/AbstractStringBuilder", "putStringAt", "(ILjava/lang/String;)V"⟩ yJ5_putStringAt_47b60, Cond.instanceMethod yJ5_putStringAt_47b60, Cond.code yJ5_putStringAt_47b60 cJ5_putStringAt_47b60 3 none, Cond.methodLink RJ5 397 ⟨"java/lang/AbstractStringBuilder", "inflateIfNeededFor", "(Ljava/lang/String;)V"⟩, Cond.sameMethod "java/lang/AbstractStringBuilder" "java/lang/AbstractStringBuilder" "inflateIfNeededFor" "(Ljava/lang/String;)V", Cond.selects RJ4 ⟨"java/lang/AbstractStringBuilder", "inflateIfNeededFor", "(Ljava/lang/String;)V"⟩ yJ5_inflateIfNeededFor_a7421, Cond.instanceMethod yJ5_inflateIfNeededFor_a7421, Cond.code yJ5_inflateIfNeededFor_a7421 cJ5_inflateIfNeededFor_a7421 2 none, Cond.methodLink RJ5 40 yJ0_coder_7d493, Cond.methodLink RJ5 399 yJ0_getBytes_840e7, Cond.instanceMethod yJ0_getBytes_840e7, Cond.selects RJ0 yJ0_getBytes_840e7 yJ0_getBytes_840e7, Cond.code yJ0_getBytes_840e7 cJ0_getBytes_840e7 4 none, Cond.methodLink RJ0 212 arraycopyName, Cond.methodLink RJ0 106 yJ1_inflate_0e8fd, Cond.methodLink RX4 230 yX4_appendRuns, Cond.static yX4_appendRuns, Cond.code yX4_appendRuns cX4_appendRuns 4 none, Cond.instanceMethod yX1_beginsRun, Cond.initialized RX1, Cond.selects RX1 yX1_beginsRun yX1_beginsRun, Cond.code yX1_beginsRun cX1_beginsRun 3 (some .boolean)]
def wsX4_lineChar_r10 : List Cond := [Cond.methodLink RX1 64 yX1_covers, Cond.instanceMethod yX1_covers, Cond.selects RX1 yX1_covers yX1_covers, Cond.code yX1_covers cX1_covers 3 (some .boolean), Cond.fieldLink RX1 18 "StreetIndex$Track" "rows" "[I", Cond.instanceMethod yX1_endOfRun, Cond.selects RX1 yX1_endOfRun yX1_endOfRun, Cond.code yX1_endOfRun cX1_endOfRun 4 (some .int), Cond.methodLink RX4 253 yX4_appendRun, Cond.static yX4_appendRun, Cond.code yX4_appendRun cX4_appendRun 4 none, Cond.methodLink RX4 257 yJ4_append_bf812, Cond.instanceMethod yJ4_append_bf812, Cond.selects RJ4 yJ4_append_bf812 yJ4_append_bf812, Cond.code yJ4_append_bf812 cJ4_append_bf812 2 (some (.object "java/lang/StringBuilder")), Cond.methodLink RJ4 53 yJ5_append_c97b9, Cond.sameMethod "java/lang/AbstractStringBuilder" "java/lang/AbstractStringBuilder" "append" "(I)Ljava/lang/AbstractStringBuilder;", Cond.instanceMethod yJ5_append_c97b9, Cond.code yJ5_append_c97b9 cJ5_append_c97b9 4 (some (.object "java/lang/AbstractStringBuilder")), Cond.methodLink RJ5 245 yJ6_stringSize_0f7a4, Cond.static yJ6_stringSize_0f7a4, Cond.initialized RJ6, Cond.code yJ6_stringSize_0f7a4 cJ6_stringSize_0f7a4 4 (some .int), Cond.methodLink RJ5 248 yJ6_getChars_ba4f3]
def wsX4_lineChar_r11 : List Cond := [Cond.static yJ6_getChars_ba4f3, Cond.code yJ6_getChars_ba4f3 cJ6_getChars_ba4f3 7 (some .int), Cond.fieldLink RJ6 83 "java/lang/Integer" "DigitOnes" "[B", Cond.fieldLink RJ6 87 "java/lang/Integer" "DigitTens" "[B", Cond.methodLink RJ5 251 yJ2_getChars_46870, Cond.static yJ2_getChars_46870, Cond.code yJ2_getChars_46870 cJ2_getChars_46870 5 (some .int), Cond.methodLink RJ2 393 yJ2_getChars_ba4f3, Cond.static yJ2_getChars_ba4f3, Cond.code yJ2_getChars_ba4f3 cJ2_getChars_ba4f3 7 (some .int), Cond.fieldLink RJ2 403 "java/lang/Integer" "DigitOnes" "[B", Cond.fieldLink RJ2 407 "java/lang/Integer" "DigitTens" "[B", Cond.methodLink RX4 114 yJ4_length_8abf5, Cond.instanceMethod yJ4_length_8abf5, Cond.selects RJ4 yJ4_length_8abf5 yJ4_length_8abf5, Cond.code yJ4_length_8abf5 cJ4_length_8abf5 1 (some .int), Cond.methodLink RJ4 343 yJ5_length_8abf5, Cond.sameMethod "java/lang/AbstractStringBuilder" "java/lang/AbstractStringBuilder" "length" "()I", Cond.instanceMethod yJ5_length_8abf5, Cond.code yJ5_length_8abf5 cJ5_length_8abf5 1 (some .int), Cond.methodLink RX4 121 yJ4_charAt_5068e, Cond.instanceMethod yJ4_charAt_5068e, Cond.selects RJ4 yJ4_charAt_5068e yJ4_charAt_5068e, Cond.code yJ4_charAt_5068e cJ4_charAt_5068e 2 (some .char)]
def wsX4_lineChar_r12 : List Cond := [Cond.methodLink RJ4 329 yJ5_charAt_5068e, Cond.sameMethod "java/lang/AbstractStringBuilder" "java/lang/AbstractStringBuilder" "charAt" "(I)C", Cond.instanceMethod yJ5_charAt_5068e, Cond.code yJ5_charAt_5068e cJ5_charAt_5068e 5 (some .char), Cond.methodLink RJ5 138 Lib.Math.min.name, Cond.methodLink RJ5 144 yJ0_checkIndex_df160, Cond.methodLink RJ5 148 yJ2_getChar_3b067, Cond.static yJ2_getChar_3b067, Cond.code yJ2_getChar_3b067 cJ2_getChar_3b067 2 (some .char)]
def wsX4_lineChar : List Cond := .code yX4_lineChar cX4_lineChar 4 (some .char) :: ((wsX4_lineChar_r1 ++ (wsX4_lineChar_r2 ++ (wsX4_lineChar_r3 ++ (wsX4_lineChar_r4 ++ (wsX4_lineChar_r5 ++ (wsX4_lineChar_r6 ++ (wsX4_lineChar_r7 ++ (wsX4_lineChar_r8 ++ (wsX4_lineChar_r9 ++ (wsX4_lineChar_r10 ++ (wsX4_lineChar_r11 ++ wsX4_lineChar_r12))))))))))) ++ wsX40 ++ wsJ40 ++ wsX00 ++ wsX10 ++ (vx_atS RX4 97 "java/lang/IndexOutOfBoundsException" ["java/lang/RuntimeException", "java/lang/Exception"]).filter goodWord)
def wsX4_trackLength : List Cond := .code yX4_trackLength cX4_trackLength 2 (some .int) :: ([.fieldLink RX4 15 "StreetIndex" "plan" "[LStreetIndex$Street;", .methodLink RX4 51 yX4_checkStreet, .instanceMethod yX4_checkStreet, .selects RX4 yX4_checkStreet yX4_checkStreet, .initialized RX4, .code yX4_checkStreet cX4_checkStreet 2 none, .classLink RX4 93 "java/lang/IndexOutOfBoundsException", .initialized "java/lang/IndexOutOfBoundsException", .fieldLink RX4 37 "StreetIndex" "streetCount" "I"] ++ wsX40 ++ wsX00 ++ wsX10 ++ (vx_atS RX4 97 "java/lang/IndexOutOfBoundsException" ["java/lang/RuntimeException", "java/lang/Exception"]).filter goodWord)
def wsX4_squares : List Cond := .code yX4_squares cX4_squares 2 (some .int) :: ([.fieldLink RX4 15 "StreetIndex" "plan" "[LStreetIndex$Street;", .methodLink RX4 51 yX4_checkStreet, .instanceMethod yX4_checkStreet, .selects RX4 yX4_checkStreet yX4_checkStreet, .initialized RX4, .code yX4_checkStreet cX4_checkStreet 2 none, .classLink RX4 93 "java/lang/IndexOutOfBoundsException", .initialized "java/lang/IndexOutOfBoundsException", .fieldLink RX4 37 "StreetIndex" "streetCount" "I", .instanceMethod yX1_countSquares, .initialized RX1, .selects RX1 yX1_countSquares yX1_countSquares, .code yX1_countSquares cX1_countSquares 3 (some .int), .fieldLink RX1 18 "StreetIndex$Track" "rows" "[I", .methodLink RX1 59 yJ6_bitCount_0f7a4, .static yJ6_bitCount_0f7a4, .initialized RJ6, .code yJ6_bitCount_0f7a4 cJ6_bitCount_0f7a4 1 (some .int), .constant RJ6 265 (1431655765), .constant RJ6 266 (858993459), .constant RJ6 267 (252645135)] ++ wsX40 ++ wsX00 ++ wsX10 ++ (vx_atS RX4 97 "java/lang/IndexOutOfBoundsException" ["java/lang/RuntimeException", "java/lang/Exception"]).filter goodWord)
def wsX4_runs : List Cond := .code yX4_runs cX4_runs 2 (some .int) :: ([.fieldLink RX4 15 "StreetIndex" "plan" "[LStreetIndex$Street;", .methodLink RX4 51 yX4_checkStreet, .instanceMethod yX4_checkStreet, .selects RX4 yX4_checkStreet yX4_checkStreet, .initialized RX4, .code yX4_checkStreet cX4_checkStreet 2 none, .classLink RX4 93 "java/lang/IndexOutOfBoundsException", .initialized "java/lang/IndexOutOfBoundsException", .fieldLink RX4 37 "StreetIndex" "streetCount" "I", .instanceMethod yX1_countRuns, .initialized RX1, .selects RX1 yX1_countRuns yX1_countRuns, .code yX1_countRuns cX1_countRuns 3 (some .int), .fieldLink RX1 18 "StreetIndex$Track" "rows" "[I", .methodLink RX1 59 yJ6_bitCount_0f7a4, .static yJ6_bitCount_0f7a4, .initialized RJ6, .code yJ6_bitCount_0f7a4 cJ6_bitCount_0f7a4 1 (some .int), .constant RJ6 265 (1431655765), .constant RJ6 266 (858993459), .constant RJ6 267 (252645135)] ++ wsX40 ++ wsX00 ++ wsX10 ++ (vx_atS RX4 97 "java/lang/IndexOutOfBoundsException" ["java/lang/RuntimeException", "java/lang/Exception"]).filter goodWord)
def wsX4_isOn : List Cond := .code yX4_isOn cX4_isOn 4 (some .boolean) :: ([.fieldLink RX4 15 "StreetIndex" "plan" "[LStreetIndex$Street;", .methodLink RX4 51 yX4_checkStreet, .instanceMethod yX4_checkStreet, .selects RX4 yX4_checkStreet yX4_checkStreet, .initialized RX4, .code yX4_checkStreet cX4_checkStreet 2 none, .classLink RX4 93 "java/lang/IndexOutOfBoundsException", .initialized "java/lang/IndexOutOfBoundsException", .fieldLink RX4 37 "StreetIndex" "streetCount" "I", .methodLink RX4 55 yX4_checkSquare, .static yX4_checkSquare, .code yX4_checkSquare cX4_checkSquare 2 none, .instanceMethod yX1_covers, .initialized RX1, .selects RX1 yX1_covers yX1_covers, .code yX1_covers cX1_covers 3 (some .boolean), .fieldLink RX1 18 "StreetIndex$Track" "rows" "[I"] ++ wsX40 ++ wsX00 ++ wsX10 ++ (vx_atS RX4 97 "java/lang/IndexOutOfBoundsException" ["java/lang/RuntimeException", "java/lang/Exception"]).filter goodWord)
def wsX4_isOnTrack : List Cond := .code yX4_isOnTrack cX4_isOnTrack 4 (some .boolean) :: ([.fieldLink RX4 15 "StreetIndex" "plan" "[LStreetIndex$Street;", .methodLink RX4 51 yX4_checkStreet, .instanceMethod yX4_checkStreet, .selects RX4 yX4_checkStreet yX4_checkStreet, .initialized RX4, .code yX4_checkStreet cX4_checkStreet 2 none, .classLink RX4 93 "java/lang/IndexOutOfBoundsException", .initialized "java/lang/IndexOutOfBoundsException", .fieldLink RX4 37 "StreetIndex" "streetCount" "I", .methodLink RX4 55 yX4_checkSquare, .static yX4_checkSquare, .code yX4_checkSquare cX4_checkSquare 2 none, .methodLink RX4 134 yX4_squareOf, .static yX4_squareOf, .code yX4_squareOf cX4_squareOf 2 (some .int), .instanceMethod yX1_comesTo, .initialized RX1, .selects RX1 yX1_comesTo yX1_comesTo, .code yX1_comesTo cX1_comesTo 3 (some .boolean), .fieldLink RX1 21 "StreetIndex$Track" "length" "I", .fieldLink RX1 9 "StreetIndex$Track" "path" "[I"] ++ wsX40 ++ wsX00 ++ wsX10 ++ (vx_atS RX4 97 "java/lang/IndexOutOfBoundsException" ["java/lang/RuntimeException", "java/lang/Exception"]).filter goodWord)
def wsX4_streetsOf : List Cond := .code yX4_streetsOf cX4_streetsOf 5 (some .int) :: ([.fieldLink RX4 37 "StreetIndex" "streetCount" "I", .fieldLink RX4 15 "StreetIndex" "plan" "[LStreetIndex$Street;", .methodLink RX4 55 yX4_checkSquare, .static yX4_checkSquare, .initialized RX4, .code yX4_checkSquare cX4_checkSquare 2 none, .classLink RX4 93 "java/lang/IndexOutOfBoundsException", .initialized "java/lang/IndexOutOfBoundsException", .instanceMethod yX1_covers, .initialized RX1, .selects RX1 yX1_covers yX1_covers, .code yX1_covers cX1_covers 3 (some .boolean), .fieldLink RX1 18 "StreetIndex$Track" "rows" "[I"] ++ wsX40 ++ wsX00 ++ wsX10 ++ (vx_atS RX4 97 "java/lang/IndexOutOfBoundsException" ["java/lang/RuntimeException", "java/lang/Exception"]).filter goodWord)
def wsX4_distance_r1 : List Cond := [Cond.fieldLink RX4 15 "StreetIndex" "plan" "[LStreetIndex$Street;", Cond.methodLink RX4 51 yX4_checkStreet, Cond.instanceMethod yX4_checkStreet, Cond.selects RX4 yX4_checkStreet yX4_checkStreet, Cond.initialized RX4, Cond.code yX4_checkStreet cX4_checkStreet 2 none, Cond.classLink RX4 93 "java/lang/IndexOutOfBoundsException", Cond.initialized "java/lang/IndexOutOfBoundsException", Cond.fieldLink RX4 37 "StreetIndex" "streetCount" "I", Cond.methodLink RX4 55 yX4_checkSquare, Cond.static yX4_checkSquare, Cond.code yX4_checkSquare cX4_checkSquare 2 none, Cond.instanceMethod yX1_nearestTo, Cond.initialized RX1, Cond.selects RX1 yX1_nearestTo yX1_nearestTo, Cond.code yX1_nearestTo cX1_nearestTo 6 (some .int), Cond.methodLink RX1 64 yX1_covers, Cond.instanceMethod yX1_covers, Cond.selects RX1 yX1_covers yX1_covers, Cond.code yX1_covers cX1_covers 3 (some .boolean), Cond.fieldLink RX1 18 "StreetIndex$Track" "rows" "[I", Cond.static yX4_apart, Cond.code yX4_apart cX4_apart 3 (some .int), Cond.methodLink RX4 168 Lib.Math.abs.name]
def wsX4_distance_r2 : List Cond := [Cond.static Lib.Math.abs.name, Cond.initialized "java/lang/Math", Cond.code Lib.Math.abs.name Lib.Math.abs.code 1 (some .int), Cond.methodLink RX4 173 Lib.Math.max.name, Cond.static Lib.Math.max.name, Cond.code Lib.Math.max.name Lib.Math.max.code 2 (some .int), Cond.methodLink RX4 144 yX4_apart]
def wsX4_distance : List Cond := .code yX4_distance cX4_distance 5 (some .int) :: ((wsX4_distance_r1 ++ wsX4_distance_r2) ++ wsX40 ++ wsX00 ++ wsX10 ++ (vx_atS RX4 97 "java/lang/IndexOutOfBoundsException" ["java/lang/RuntimeException", "java/lang/Exception"]).filter goodWord)
def wsX4_nearest_r1 : List Cond := [Cond.fieldLink RX4 15 "StreetIndex" "plan" "[LStreetIndex$Street;", Cond.methodLink RX4 51 yX4_checkStreet, Cond.instanceMethod yX4_checkStreet, Cond.selects RX4 yX4_checkStreet yX4_checkStreet, Cond.initialized RX4, Cond.code yX4_checkStreet cX4_checkStreet 2 none, Cond.classLink RX4 93 "java/lang/IndexOutOfBoundsException", Cond.initialized "java/lang/IndexOutOfBoundsException", Cond.fieldLink RX4 37 "StreetIndex" "streetCount" "I", Cond.methodLink RX4 55 yX4_checkSquare, Cond.static yX4_checkSquare, Cond.code yX4_checkSquare cX4_checkSquare 2 none, Cond.instanceMethod yX1_nearestTo, Cond.initialized RX1, Cond.selects RX1 yX1_nearestTo yX1_nearestTo, Cond.code yX1_nearestTo cX1_nearestTo 6 (some .int), Cond.methodLink RX1 64 yX1_covers, Cond.instanceMethod yX1_covers, Cond.selects RX1 yX1_covers yX1_covers, Cond.code yX1_covers cX1_covers 3 (some .boolean), Cond.fieldLink RX1 18 "StreetIndex$Track" "rows" "[I", Cond.static yX4_apart, Cond.code yX4_apart cX4_apart 3 (some .int), Cond.methodLink RX4 168 Lib.Math.abs.name]
def wsX4_nearest_r2 : List Cond := [Cond.static Lib.Math.abs.name, Cond.initialized "java/lang/Math", Cond.code Lib.Math.abs.name Lib.Math.abs.code 1 (some .int), Cond.methodLink RX4 173 Lib.Math.max.name, Cond.static Lib.Math.max.name, Cond.code Lib.Math.max.name Lib.Math.max.code 2 (some .int)]
def wsX4_nearest : List Cond := .code yX4_nearest cX4_nearest 4 (some .int) :: ((wsX4_nearest_r1 ++ wsX4_nearest_r2) ++ wsX40 ++ wsX00 ++ wsX10 ++ (vx_atS RX4 97 "java/lang/IndexOutOfBoundsException" ["java/lang/RuntimeException", "java/lang/Exception"]).filter goodWord)
def wsX4_walk_r1 : List Cond := [Cond.fieldLink RX4 28 "StreetIndex" "walks" "LStreetIndex$Walks;", Cond.fieldLink RX4 15 "StreetIndex" "plan" "[LStreetIndex$Street;", Cond.fieldLink RX4 37 "StreetIndex" "streetCount" "I", Cond.methodLink RX4 55 yX4_checkSquare, Cond.static yX4_checkSquare, Cond.initialized RX4, Cond.code yX4_checkSquare cX4_checkSquare 2 none, Cond.classLink RX4 93 "java/lang/IndexOutOfBoundsException", Cond.initialized "java/lang/IndexOutOfBoundsException", Cond.methodLink RX4 134 yX4_squareOf, Cond.static yX4_squareOf, Cond.code yX4_squareOf cX4_squareOf 2 (some .int), Cond.instanceMethod yX2_spread, Cond.initialized RX2, Cond.selects RX2 yX2_spread yX2_spread, Cond.code yX2_spread cX2_spread 6 (some .int), Cond.fieldLink RX2 15 "StreetIndex$Walks" "steps" "[I", Cond.fieldLink RX2 18 "StreetIndex$Walks" "reached" "[I", Cond.methodLink RX2 21 yX2_findExits, Cond.instanceMethod yX2_findExits, Cond.selects RX2 yX2_findExits yX2_findExits, Cond.code yX2_findExits cX2_findExits 4 none, Cond.fieldLink RX2 9 "StreetIndex$Walks" "exits" "[I", Cond.methodLink RX2 25 yJ7_fill_53178]
def wsX4_walk_r2 : List Cond := [Cond.static yJ7_fill_53178, Cond.initialized RJ7, Cond.code yJ7_fill_53178 cJ7_fill_53178 4 none, Cond.methodLink RX2 49 yX2_addExits, Cond.instanceMethod yX2_addExits, Cond.selects RX2 yX2_addExits yX2_addExits, Cond.code yX2_addExits cX2_addExits 6 none, Cond.methodLink RX2 31 yX2_stepFrom, Cond.instanceMethod yX2_stepFrom, Cond.selects RX2 yX2_stepFrom yX2_stepFrom, Cond.code yX2_stepFrom cX2_stepFrom 6 (some .int), Cond.methodLink RX2 35 yX2_isNew, Cond.instanceMethod yX2_isNew, Cond.selects RX2 yX2_isNew yX2_isNew, Cond.code yX2_isNew cX2_isNew 2 (some .boolean), Cond.instanceMethod yX2_stepsOf, Cond.selects RX2 yX2_stepsOf yX2_stepsOf, Cond.code yX2_stepsOf cX2_stepsOf 2 (some .int)]
def wsX4_walk : List Cond := .code yX4_walk cX4_walk 5 (some .int) :: ((wsX4_walk_r1 ++ wsX4_walk_r2) ++ wsX40 ++ wsX20 ++ wsX00 ++ wsX10 ++ (vx_atS RX4 97 "java/lang/IndexOutOfBoundsException" ["java/lang/RuntimeException", "java/lang/Exception"]).filter goodWord)
def wsX4_walkByRounds_r1 : List Cond := [Cond.fieldLink RX4 28 "StreetIndex" "walks" "LStreetIndex$Walks;", Cond.fieldLink RX4 15 "StreetIndex" "plan" "[LStreetIndex$Street;", Cond.fieldLink RX4 37 "StreetIndex" "streetCount" "I", Cond.methodLink RX4 55 yX4_checkSquare, Cond.static yX4_checkSquare, Cond.initialized RX4, Cond.code yX4_checkSquare cX4_checkSquare 2 none, Cond.classLink RX4 93 "java/lang/IndexOutOfBoundsException", Cond.initialized "java/lang/IndexOutOfBoundsException", Cond.methodLink RX4 134 yX4_squareOf, Cond.static yX4_squareOf, Cond.code yX4_squareOf cX4_squareOf 2 (some .int), Cond.instanceMethod yX2_tellBackwards, Cond.initialized RX2, Cond.selects RX2 yX2_tellBackwards yX2_tellBackwards, Cond.code yX2_tellBackwards cX2_tellBackwards 7 none, Cond.fieldLink RX2 15 "StreetIndex$Walks" "steps" "[I", Cond.methodLink RX2 25 yJ7_fill_53178, Cond.static yJ7_fill_53178, Cond.initialized RJ7, Cond.code yJ7_fill_53178 cJ7_fill_53178 4 none, Cond.methodLink RX2 62 yX2_tellAlong, Cond.instanceMethod yX2_tellAlong, Cond.selects RX2 yX2_tellAlong yX2_tellAlong]
def wsX4_walkByRounds_r2 : List Cond := [Cond.code yX2_tellAlong cX2_tellAlong 5 (some .boolean), Cond.methodLink RX2 66 yX2_tell, Cond.instanceMethod yX2_tell, Cond.selects RX2 yX2_tell yX2_tell, Cond.code yX2_tell cX2_tell 3 (some .boolean), Cond.instanceMethod yX2_stepsOf, Cond.selects RX2 yX2_stepsOf yX2_stepsOf, Cond.code yX2_stepsOf cX2_stepsOf 2 (some .int)]
def wsX4_walkByRounds : List Cond := .code yX4_walkByRounds cX4_walkByRounds 5 (some .int) :: ((wsX4_walkByRounds_r1 ++ wsX4_walkByRounds_r2) ++ wsX40 ++ wsX20 ++ wsX00 ++ wsX10 ++ (vx_atS RX4 97 "java/lang/IndexOutOfBoundsException" ["java/lang/RuntimeException", "java/lang/Exception"]).filter goodWord)
def wsX4_reachable_r1 : List Cond := [Cond.fieldLink RX4 28 "StreetIndex" "walks" "LStreetIndex$Walks;", Cond.fieldLink RX4 15 "StreetIndex" "plan" "[LStreetIndex$Street;", Cond.fieldLink RX4 37 "StreetIndex" "streetCount" "I", Cond.methodLink RX4 55 yX4_checkSquare, Cond.static yX4_checkSquare, Cond.initialized RX4, Cond.code yX4_checkSquare cX4_checkSquare 2 none, Cond.classLink RX4 93 "java/lang/IndexOutOfBoundsException", Cond.initialized "java/lang/IndexOutOfBoundsException", Cond.methodLink RX4 134 yX4_squareOf, Cond.static yX4_squareOf, Cond.code yX4_squareOf cX4_squareOf 2 (some .int), Cond.instanceMethod yX2_spread, Cond.initialized RX2, Cond.selects RX2 yX2_spread yX2_spread, Cond.code yX2_spread cX2_spread 6 (some .int), Cond.fieldLink RX2 15 "StreetIndex$Walks" "steps" "[I", Cond.fieldLink RX2 18 "StreetIndex$Walks" "reached" "[I", Cond.methodLink RX2 21 yX2_findExits, Cond.instanceMethod yX2_findExits, Cond.selects RX2 yX2_findExits yX2_findExits, Cond.code yX2_findExits cX2_findExits 4 none, Cond.fieldLink RX2 9 "StreetIndex$Walks" "exits" "[I", Cond.methodLink RX2 25 yJ7_fill_53178]
def wsX4_reachable_r2 : List Cond := [Cond.static yJ7_fill_53178, Cond.initialized RJ7, Cond.code yJ7_fill_53178 cJ7_fill_53178 4 none, Cond.methodLink RX2 49 yX2_addExits, Cond.instanceMethod yX2_addExits, Cond.selects RX2 yX2_addExits yX2_addExits, Cond.code yX2_addExits cX2_addExits 6 none, Cond.methodLink RX2 31 yX2_stepFrom, Cond.instanceMethod yX2_stepFrom, Cond.selects RX2 yX2_stepFrom yX2_stepFrom, Cond.code yX2_stepFrom cX2_stepFrom 6 (some .int), Cond.methodLink RX2 35 yX2_isNew, Cond.instanceMethod yX2_isNew, Cond.selects RX2 yX2_isNew yX2_isNew, Cond.code yX2_isNew cX2_isNew 2 (some .boolean)]
def wsX4_reachable : List Cond := .code yX4_reachable cX4_reachable 3 (some .int) :: ((wsX4_reachable_r1 ++ wsX4_reachable_r2) ++ wsX40 ++ wsX20 ++ wsX00 ++ wsX10 ++ (vx_atS RX4 97 "java/lang/IndexOutOfBoundsException" ["java/lang/RuntimeException", "java/lang/Exception"]).filter goodWord)
def wsX5_spell : List Cond := .code yX5_spell cX5_spell 9 none :: ([.fieldLink RX5 7 "StreetIndexModel" "letters" "[I"] ++ wsX50)
def wsX5_init : List Cond := .code yX5_init cX5_init 2 none :: ([.methodLink RX5 1 objectInit, .instanceMethod objectInit, .code objectInit ⟨#[0xb1]⟩ 1 none, .arrayClass .int, .fieldLink RX5 7 "StreetIndexModel" "letters" "[I", .fieldLink RX5 13 "StreetIndexModel" "kinds" "[I", .fieldLink RX5 16 "StreetIndexModel" "names" "[I", .fieldLink RX5 19 "StreetIndexModel" "sizes" "[I", .fieldLink RX5 22 "StreetIndexModel" "points" "[I", .fieldLink RX5 25 "StreetIndexModel" "many" "[I", .arrayClass .boolean, .fieldLink RX5 28 "StreetIndexModel" "oneWay" "[Z", .fieldLink RX5 32 "StreetIndexModel" "track" "[I", .fieldLink RX5 35 "StreetIndexModel" "on" "[Z", .fieldLink RX5 38 "StreetIndexModel" "key" "[I", .fieldLink RX5 41 "StreetIndexModel" "key2" "[I", .fieldLink RX5 44 "StreetIndexModel" "line" "[I", .fieldLink RX5 47 "StreetIndexModel" "steps" "[I", .methodLink RX5 50 yX5_spell, .instanceMethod yX5_spell, .selects RX5 yX5_spell yX5_spell, .initialized RX5, .code yX5_spell cX5_spell 9 none] ++ wsX50)
def wsX5_thrown : List Cond := .code yX5_thrown cX5_thrown 1 (some .int) :: ([.fieldLink RX5 54 "StreetIndexModel" "last" "I"] ++ wsX50)
def wsX5_in : List Cond := .code yX5_in cX5_in 3 (some .boolean) :: ([])
def wsX5_goes : List Cond := .code yX5_goes cX5_goes 4 (some .boolean) :: ([.fieldLink RX5 54 "StreetIndexModel" "last" "I"] ++ wsX50)
def wsX5_isStreet : List Cond := .code yX5_isStreet cX5_isStreet 2 (some .boolean) :: ([.fieldLink RX5 58 "StreetIndexModel" "streets" "I", .methodLink RX5 61 yX5_in, .static yX5_in, .initialized RX5, .code yX5_in cX5_in 3 (some .boolean)] ++ wsX50)
def wsX5_isSquare : List Cond := .code yX5_isSquare cX5_isSquare 2 (some .boolean) :: ([.methodLink RX5 61 yX5_in, .static yX5_in, .initialized RX5, .code yX5_in cX5_in 3 (some .boolean)])
def wsX5_isName : List Cond := .code yX5_isName cX5_isName 4 (some .boolean) :: ([.methodLink RX5 61 yX5_in, .static yX5_in, .initialized RX5, .code yX5_in cX5_in 3 (some .boolean)])
def wsX5_gives : List Cond := .code yX5_gives cX5_gives 5 none :: ([.fieldLink RX5 19 "StreetIndexModel" "sizes" "[I", .fieldLink RX5 16 "StreetIndexModel" "names" "[I"] ++ wsX50)
def wsX5_compareWords : List Cond := .code yX5_compareWords cX5_compareWords 5 (some .int) :: ([.fieldLink RX5 7 "StreetIndexModel" "letters" "[I"] ++ wsX50)
def wsX5_keyOf : List Cond := .code yX5_keyOf cX5_keyOf 6 (some .int) :: ([.fieldLink RX5 19 "StreetIndexModel" "sizes" "[I", .fieldLink RX5 13 "StreetIndexModel" "kinds" "[I", .fieldLink RX5 16 "StreetIndexModel" "names" "[I"] ++ wsX50)
def wsX5_compareOf : List Cond := .code yX5_compareOf cX5_compareOf 7 (some .int) :: ([.fieldLink RX5 38 "StreetIndexModel" "key" "[I", .fieldLink RX5 41 "StreetIndexModel" "key2" "[I", .methodLink RX5 65 yX5_keyOf, .instanceMethod yX5_keyOf, .selects RX5 yX5_keyOf yX5_keyOf, .initialized RX5, .code yX5_keyOf cX5_keyOf 6 (some .int), .fieldLink RX5 19 "StreetIndexModel" "sizes" "[I", .fieldLink RX5 13 "StreetIndexModel" "kinds" "[I", .fieldLink RX5 16 "StreetIndexModel" "names" "[I", .methodLink RX5 69 yX5_compareWords, .instanceMethod yX5_compareWords, .selects RX5 yX5_compareWords yX5_compareWords, .code yX5_compareWords cX5_compareWords 5 (some .int), .fieldLink RX5 7 "StreetIndexModel" "letters" "[I"] ++ wsX50)
def wsX5_isAhead : List Cond := .code yX5_isAhead cX5_isAhead 5 (some .boolean) :: ([.fieldLink RX5 19 "StreetIndexModel" "sizes" "[I", .fieldLink RX5 16 "StreetIndexModel" "names" "[I", .methodLink RX5 73 yX5_compareOf, .instanceMethod yX5_compareOf, .selects RX5 yX5_compareOf yX5_compareOf, .initialized RX5, .code yX5_compareOf cX5_compareOf 7 (some .int), .fieldLink RX5 38 "StreetIndexModel" "key" "[I", .fieldLink RX5 41 "StreetIndexModel" "key2" "[I", .methodLink RX5 65 yX5_keyOf, .instanceMethod yX5_keyOf, .selects RX5 yX5_keyOf yX5_keyOf, .code yX5_keyOf cX5_keyOf 6 (some .int), .fieldLink RX5 13 "StreetIndexModel" "kinds" "[I", .methodLink RX5 69 yX5_compareWords, .instanceMethod yX5_compareWords, .selects RX5 yX5_compareWords yX5_compareWords, .code yX5_compareWords cX5_compareWords 5 (some .int), .fieldLink RX5 7 "StreetIndexModel" "letters" "[I"] ++ wsX50)
def wsX5_countAhead : List Cond := .code yX5_countAhead cX5_countAhead 4 (some .int) :: ([.fieldLink RX5 58 "StreetIndexModel" "streets" "I", .methodLink RX5 76 yX5_isAhead, .instanceMethod yX5_isAhead, .selects RX5 yX5_isAhead yX5_isAhead, .initialized RX5, .code yX5_isAhead cX5_isAhead 5 (some .boolean), .fieldLink RX5 19 "StreetIndexModel" "sizes" "[I", .fieldLink RX5 16 "StreetIndexModel" "names" "[I", .methodLink RX5 73 yX5_compareOf, .instanceMethod yX5_compareOf, .selects RX5 yX5_compareOf yX5_compareOf, .code yX5_compareOf cX5_compareOf 7 (some .int), .fieldLink RX5 38 "StreetIndexModel" "key" "[I", .fieldLink RX5 41 "StreetIndexModel" "key2" "[I", .methodLink RX5 65 yX5_keyOf, .instanceMethod yX5_keyOf, .selects RX5 yX5_keyOf yX5_keyOf, .code yX5_keyOf cX5_keyOf 6 (some .int), .fieldLink RX5 13 "StreetIndexModel" "kinds" "[I", .methodLink RX5 69 yX5_compareWords, .instanceMethod yX5_compareWords, .selects RX5 yX5_compareWords yX5_compareWords, .code yX5_compareWords cX5_compareWords 5 (some .int), .fieldLink RX5 7 "StreetIndexModel" "letters" "[I"] ++ wsX50)
def wsX5_way : List Cond := .code yX5_way cX5_way 2 (some .int) :: ([])
def wsX5_tracks : List Cond := .code yX5_tracks cX5_tracks 5 none :: ([.fieldLink RX5 80 "StreetIndexModel" "length" "I", .fieldLink RX5 35 "StreetIndexModel" "on" "[Z", .fieldLink RX5 25 "StreetIndexModel" "many" "[I", .fieldLink RX5 22 "StreetIndexModel" "points" "[I", .fieldLink RX5 32 "StreetIndexModel" "track" "[I", .methodLink RX5 83 yX5_way, .static yX5_way, .initialized RX5, .code yX5_way cX5_way 2 (some .int)] ++ wsX50)
def wsX5_tracked : List Cond := .code yX5_tracked cX5_tracked 2 (some .int) :: ([.fieldLink RX5 80 "StreetIndexModel" "length" "I", .methodLink RX5 86 yX5_tracks, .instanceMethod yX5_tracks, .selects RX5 yX5_tracks yX5_tracks, .initialized RX5, .code yX5_tracks cX5_tracks 5 none, .fieldLink RX5 35 "StreetIndexModel" "on" "[Z", .fieldLink RX5 25 "StreetIndexModel" "many" "[I", .fieldLink RX5 22 "StreetIndexModel" "points" "[I", .fieldLink RX5 32 "StreetIndexModel" "track" "[I", .methodLink RX5 83 yX5_way, .static yX5_way, .code yX5_way cX5_way 2 (some .int)] ++ wsX50)
def wsX5_beginsRun : List Cond := .code yX5_beginsRun cX5_beginsRun 2 (some .boolean) :: ([.fieldLink RX5 35 "StreetIndexModel" "on" "[Z"] ++ wsX50)
def wsX5_addStreet : List Cond := .code yX5_addStreet cX5_addStreet 3 (some .int) :: ([.fieldLink RX5 58 "StreetIndexModel" "streets" "I", .fieldLink RX5 54 "StreetIndexModel" "last" "I", .methodLink RX5 90 yX5_isName, .static yX5_isName, .initialized RX5, .code yX5_isName cX5_isName 4 (some .boolean), .methodLink RX5 61 yX5_in, .static yX5_in, .code yX5_in cX5_in 3 (some .boolean), .methodLink RX5 93 yX5_gives, .instanceMethod yX5_gives, .selects RX5 yX5_gives yX5_gives, .code yX5_gives cX5_gives 5 none, .fieldLink RX5 19 "StreetIndexModel" "sizes" "[I", .fieldLink RX5 16 "StreetIndexModel" "names" "[I"] ++ wsX50)
def wsX5_addPoint_r1 : List Cond := [Cond.fieldLink RX5 25 "StreetIndexModel" "many" "[I", Cond.fieldLink RX5 22 "StreetIndexModel" "points" "[I", Cond.methodLink RX5 97 yX5_isStreet, Cond.instanceMethod yX5_isStreet, Cond.selects RX5 yX5_isStreet yX5_isStreet, Cond.initialized RX5, Cond.code yX5_isStreet cX5_isStreet 2 (some .boolean), Cond.fieldLink RX5 58 "StreetIndexModel" "streets" "I", Cond.methodLink RX5 61 yX5_in, Cond.static yX5_in, Cond.code yX5_in cX5_in 3 (some .boolean), Cond.methodLink RX5 101 yX5_isSquare, Cond.static yX5_isSquare, Cond.code yX5_isSquare cX5_isSquare 2 (some .boolean), Cond.methodLink RX5 104 yX5_goes, Cond.instanceMethod yX5_goes, Cond.selects RX5 yX5_goes yX5_goes, Cond.code yX5_goes cX5_goes 4 (some .boolean), Cond.fieldLink RX5 54 "StreetIndexModel" "last" "I", Cond.methodLink RX5 108 yX5_tracked, Cond.instanceMethod yX5_tracked, Cond.selects RX5 yX5_tracked yX5_tracked, Cond.code yX5_tracked cX5_tracked 2 (some .int), Cond.fieldLink RX5 80 "StreetIndexModel" "length" "I"]
def wsX5_addPoint_r2 : List Cond := [Cond.methodLink RX5 86 yX5_tracks, Cond.instanceMethod yX5_tracks, Cond.selects RX5 yX5_tracks yX5_tracks, Cond.code yX5_tracks cX5_tracks 5 none, Cond.fieldLink RX5 35 "StreetIndexModel" "on" "[Z", Cond.fieldLink RX5 32 "StreetIndexModel" "track" "[I", Cond.methodLink RX5 83 yX5_way, Cond.static yX5_way, Cond.code yX5_way cX5_way 2 (some .int)]
def wsX5_addPoint : List Cond := .code yX5_addPoint cX5_addPoint 10 (some .int) :: ((wsX5_addPoint_r1 ++ wsX5_addPoint_r2) ++ wsX50)
def wsX5_dropPoint_r1 : List Cond := [Cond.fieldLink RX5 25 "StreetIndexModel" "many" "[I", Cond.fieldLink RX5 54 "StreetIndexModel" "last" "I", Cond.methodLink RX5 97 yX5_isStreet, Cond.instanceMethod yX5_isStreet, Cond.selects RX5 yX5_isStreet yX5_isStreet, Cond.initialized RX5, Cond.code yX5_isStreet cX5_isStreet 2 (some .boolean), Cond.fieldLink RX5 58 "StreetIndexModel" "streets" "I", Cond.methodLink RX5 61 yX5_in, Cond.static yX5_in, Cond.code yX5_in cX5_in 3 (some .boolean), Cond.methodLink RX5 108 yX5_tracked, Cond.instanceMethod yX5_tracked, Cond.selects RX5 yX5_tracked yX5_tracked, Cond.code yX5_tracked cX5_tracked 2 (some .int), Cond.fieldLink RX5 80 "StreetIndexModel" "length" "I", Cond.methodLink RX5 86 yX5_tracks, Cond.instanceMethod yX5_tracks, Cond.selects RX5 yX5_tracks yX5_tracks, Cond.code yX5_tracks cX5_tracks 5 none, Cond.fieldLink RX5 35 "StreetIndexModel" "on" "[Z", Cond.fieldLink RX5 22 "StreetIndexModel" "points" "[I", Cond.fieldLink RX5 32 "StreetIndexModel" "track" "[I", Cond.methodLink RX5 83 yX5_way]
def wsX5_dropPoint_r2 : List Cond := [Cond.static yX5_way, Cond.code yX5_way cX5_way 2 (some .int)]
def wsX5_dropPoint : List Cond := .code yX5_dropPoint cX5_dropPoint 3 (some .int) :: ((wsX5_dropPoint_r1 ++ wsX5_dropPoint_r2) ++ wsX50)
def wsX5_setOneWay : List Cond := .code yX5_setOneWay cX5_setOneWay 4 (some .boolean) :: ([.fieldLink RX5 28 "StreetIndexModel" "oneWay" "[Z", .methodLink RX5 97 yX5_isStreet, .instanceMethod yX5_isStreet, .selects RX5 yX5_isStreet yX5_isStreet, .initialized RX5, .code yX5_isStreet cX5_isStreet 2 (some .boolean), .fieldLink RX5 58 "StreetIndexModel" "streets" "I", .methodLink RX5 61 yX5_in, .static yX5_in, .code yX5_in cX5_in 3 (some .boolean), .methodLink RX5 104 yX5_goes, .instanceMethod yX5_goes, .selects RX5 yX5_goes yX5_goes, .code yX5_goes cX5_goes 4 (some .boolean), .fieldLink RX5 54 "StreetIndexModel" "last" "I"] ++ wsX50)
def wsX5_rename : List Cond := .code yX5_rename cX5_rename 4 none :: ([.methodLink RX5 97 yX5_isStreet, .instanceMethod yX5_isStreet, .selects RX5 yX5_isStreet yX5_isStreet, .initialized RX5, .code yX5_isStreet cX5_isStreet 2 (some .boolean), .fieldLink RX5 58 "StreetIndexModel" "streets" "I", .methodLink RX5 61 yX5_in, .static yX5_in, .code yX5_in cX5_in 3 (some .boolean), .methodLink RX5 90 yX5_isName, .static yX5_isName, .code yX5_isName cX5_isName 4 (some .boolean), .methodLink RX5 104 yX5_goes, .instanceMethod yX5_goes, .selects RX5 yX5_goes yX5_goes, .code yX5_goes cX5_goes 4 (some .boolean), .fieldLink RX5 54 "StreetIndexModel" "last" "I", .methodLink RX5 93 yX5_gives, .instanceMethod yX5_gives, .selects RX5 yX5_gives yX5_gives, .code yX5_gives cX5_gives 5 none, .fieldLink RX5 19 "StreetIndexModel" "sizes" "[I", .fieldLink RX5 16 "StreetIndexModel" "names" "[I"] ++ wsX50)
def wsX5_setKind : List Cond := .code yX5_setKind cX5_setKind 4 (some .int) :: ([.fieldLink RX5 13 "StreetIndexModel" "kinds" "[I", .methodLink RX5 61 yX5_in, .static yX5_in, .initialized RX5, .code yX5_in cX5_in 3 (some .boolean), .methodLink RX5 104 yX5_goes, .instanceMethod yX5_goes, .selects RX5 yX5_goes yX5_goes, .code yX5_goes cX5_goes 4 (some .boolean), .fieldLink RX5 54 "StreetIndexModel" "last" "I"] ++ wsX50)
def wsX5_streets : List Cond := .code yX5_streets cX5_streets 1 (some .int) :: ([.fieldLink RX5 54 "StreetIndexModel" "last" "I", .fieldLink RX5 58 "StreetIndexModel" "streets" "I"] ++ wsX50)
def wsX5_streetAt_r1 : List Cond := [Cond.fieldLink RX5 58 "StreetIndexModel" "streets" "I", Cond.methodLink RX5 61 yX5_in, Cond.static yX5_in, Cond.initialized RX5, Cond.code yX5_in cX5_in 3 (some .boolean), Cond.methodLink RX5 104 yX5_goes, Cond.instanceMethod yX5_goes, Cond.selects RX5 yX5_goes yX5_goes, Cond.code yX5_goes cX5_goes 4 (some .boolean), Cond.fieldLink RX5 54 "StreetIndexModel" "last" "I", Cond.methodLink RX5 112 yX5_countAhead, Cond.instanceMethod yX5_countAhead, Cond.selects RX5 yX5_countAhead yX5_countAhead, Cond.code yX5_countAhead cX5_countAhead 4 (some .int), Cond.methodLink RX5 76 yX5_isAhead, Cond.instanceMethod yX5_isAhead, Cond.selects RX5 yX5_isAhead yX5_isAhead, Cond.code yX5_isAhead cX5_isAhead 5 (some .boolean), Cond.fieldLink RX5 19 "StreetIndexModel" "sizes" "[I", Cond.fieldLink RX5 16 "StreetIndexModel" "names" "[I", Cond.methodLink RX5 73 yX5_compareOf, Cond.instanceMethod yX5_compareOf, Cond.selects RX5 yX5_compareOf yX5_compareOf, Cond.code yX5_compareOf cX5_compareOf 7 (some .int)]
def wsX5_streetAt_r2 : List Cond := [Cond.fieldLink RX5 38 "StreetIndexModel" "key" "[I", Cond.fieldLink RX5 41 "StreetIndexModel" "key2" "[I", Cond.methodLink RX5 65 yX5_keyOf, Cond.instanceMethod yX5_keyOf, Cond.selects RX5 yX5_keyOf yX5_keyOf, Cond.code yX5_keyOf cX5_keyOf 6 (some .int), Cond.fieldLink RX5 13 "StreetIndexModel" "kinds" "[I", Cond.methodLink RX5 69 yX5_compareWords, Cond.instanceMethod yX5_compareWords, Cond.selects RX5 yX5_compareWords yX5_compareWords, Cond.code yX5_compareWords cX5_compareWords 5 (some .int), Cond.fieldLink RX5 7 "StreetIndexModel" "letters" "[I"]
def wsX5_streetAt : List Cond := .code yX5_streetAt cX5_streetAt 3 (some .int) :: ((wsX5_streetAt_r1 ++ wsX5_streetAt_r2) ++ wsX50)
def wsX5_placeOf_r1 : List Cond := [Cond.methodLink RX5 97 yX5_isStreet, Cond.instanceMethod yX5_isStreet, Cond.selects RX5 yX5_isStreet yX5_isStreet, Cond.initialized RX5, Cond.code yX5_isStreet cX5_isStreet 2 (some .boolean), Cond.fieldLink RX5 58 "StreetIndexModel" "streets" "I", Cond.methodLink RX5 61 yX5_in, Cond.static yX5_in, Cond.code yX5_in cX5_in 3 (some .boolean), Cond.methodLink RX5 104 yX5_goes, Cond.instanceMethod yX5_goes, Cond.selects RX5 yX5_goes yX5_goes, Cond.code yX5_goes cX5_goes 4 (some .boolean), Cond.fieldLink RX5 54 "StreetIndexModel" "last" "I", Cond.methodLink RX5 112 yX5_countAhead, Cond.instanceMethod yX5_countAhead, Cond.selects RX5 yX5_countAhead yX5_countAhead, Cond.code yX5_countAhead cX5_countAhead 4 (some .int), Cond.methodLink RX5 76 yX5_isAhead, Cond.instanceMethod yX5_isAhead, Cond.selects RX5 yX5_isAhead yX5_isAhead, Cond.code yX5_isAhead cX5_isAhead 5 (some .boolean), Cond.fieldLink RX5 19 "StreetIndexModel" "sizes" "[I", Cond.fieldLink RX5 16 "StreetIndexModel" "names" "[I"]
def wsX5_placeOf_r2 : List Cond := [Cond.methodLink RX5 73 yX5_compareOf, Cond.instanceMethod yX5_compareOf, Cond.selects RX5 yX5_compareOf yX5_compareOf, Cond.code yX5_compareOf cX5_compareOf 7 (some .int), Cond.fieldLink RX5 38 "StreetIndexModel" "key" "[I", Cond.fieldLink RX5 41 "StreetIndexModel" "key2" "[I", Cond.methodLink RX5 65 yX5_keyOf, Cond.instanceMethod yX5_keyOf, Cond.selects RX5 yX5_keyOf yX5_keyOf, Cond.code yX5_keyOf cX5_keyOf 6 (some .int), Cond.fieldLink RX5 13 "StreetIndexModel" "kinds" "[I", Cond.methodLink RX5 69 yX5_compareWords, Cond.instanceMethod yX5_compareWords, Cond.selects RX5 yX5_compareWords yX5_compareWords, Cond.code yX5_compareWords cX5_compareWords 5 (some .int), Cond.fieldLink RX5 7 "StreetIndexModel" "letters" "[I"]
def wsX5_placeOf : List Cond := .code yX5_placeOf cX5_placeOf 2 (some .int) :: ((wsX5_placeOf_r1 ++ wsX5_placeOf_r2) ++ wsX50)
def wsX5_compareKeys_r1 : List Cond := [Cond.methodLink RX5 97 yX5_isStreet, Cond.instanceMethod yX5_isStreet, Cond.selects RX5 yX5_isStreet yX5_isStreet, Cond.initialized RX5, Cond.code yX5_isStreet cX5_isStreet 2 (some .boolean), Cond.fieldLink RX5 58 "StreetIndexModel" "streets" "I", Cond.methodLink RX5 61 yX5_in, Cond.static yX5_in, Cond.code yX5_in cX5_in 3 (some .boolean), Cond.methodLink RX5 104 yX5_goes, Cond.instanceMethod yX5_goes, Cond.selects RX5 yX5_goes yX5_goes, Cond.code yX5_goes cX5_goes 4 (some .boolean), Cond.fieldLink RX5 54 "StreetIndexModel" "last" "I", Cond.methodLink RX5 73 yX5_compareOf, Cond.instanceMethod yX5_compareOf, Cond.selects RX5 yX5_compareOf yX5_compareOf, Cond.code yX5_compareOf cX5_compareOf 7 (some .int), Cond.fieldLink RX5 38 "StreetIndexModel" "key" "[I", Cond.fieldLink RX5 41 "StreetIndexModel" "key2" "[I", Cond.methodLink RX5 65 yX5_keyOf, Cond.instanceMethod yX5_keyOf, Cond.selects RX5 yX5_keyOf yX5_keyOf, Cond.code yX5_keyOf cX5_keyOf 6 (some .int)]
def wsX5_compareKeys_r2 : List Cond := [Cond.fieldLink RX5 19 "StreetIndexModel" "sizes" "[I", Cond.fieldLink RX5 13 "StreetIndexModel" "kinds" "[I", Cond.fieldLink RX5 16 "StreetIndexModel" "names" "[I", Cond.methodLink RX5 69 yX5_compareWords, Cond.instanceMethod yX5_compareWords, Cond.selects RX5 yX5_compareWords yX5_compareWords, Cond.code yX5_compareWords cX5_compareWords 5 (some .int), Cond.fieldLink RX5 7 "StreetIndexModel" "letters" "[I"]
def wsX5_compareKeys : List Cond := .code yX5_compareKeys cX5_compareKeys 3 (some .int) :: ((wsX5_compareKeys_r1 ++ wsX5_compareKeys_r2) ++ wsX50)
def wsX5_sign : List Cond := .code yX5_sign cX5_sign 2 none :: ([.fieldLink RX5 44 "StreetIndexModel" "line" "[I", .fieldLink RX5 115 "StreetIndexModel" "signs" "I"] ++ wsX50)
def wsX5_writes : List Cond := .code yX5_writes cX5_writes 8 none :: ([.fieldLink RX5 19 "StreetIndexModel" "sizes" "[I", .fieldLink RX5 16 "StreetIndexModel" "names" "[I", .fieldLink RX5 13 "StreetIndexModel" "kinds" "[I", .fieldLink RX5 7 "StreetIndexModel" "letters" "[I", .methodLink RX5 118 yX5_sign, .instanceMethod yX5_sign, .selects RX5 yX5_sign yX5_sign, .initialized RX5, .code yX5_sign cX5_sign 2 none, .fieldLink RX5 44 "StreetIndexModel" "line" "[I", .fieldLink RX5 115 "StreetIndexModel" "signs" "I"] ++ wsX50)
def wsX5_number : List Cond := .code yX5_number cX5_number 2 none :: ([.methodLink RX5 118 yX5_sign, .instanceMethod yX5_sign, .selects RX5 yX5_sign yX5_sign, .initialized RX5, .code yX5_sign cX5_sign 2 none, .fieldLink RX5 44 "StreetIndexModel" "line" "[I", .fieldLink RX5 115 "StreetIndexModel" "signs" "I"] ++ wsX50)
def wsX5_writeLine_r1 : List Cond := [Cond.fieldLink RX5 115 "StreetIndexModel" "signs" "I", Cond.fieldLink RX5 19 "StreetIndexModel" "sizes" "[I", Cond.fieldLink RX5 13 "StreetIndexModel" "kinds" "[I", Cond.fieldLink RX5 16 "StreetIndexModel" "names" "[I", Cond.fieldLink RX5 80 "StreetIndexModel" "length" "I", Cond.fieldLink RX5 35 "StreetIndexModel" "on" "[Z", Cond.methodLink RX5 121 yX5_writes, Cond.instanceMethod yX5_writes, Cond.selects RX5 yX5_writes yX5_writes, Cond.initialized RX5, Cond.code yX5_writes cX5_writes 8 none, Cond.fieldLink RX5 7 "StreetIndexModel" "letters" "[I", Cond.methodLink RX5 118 yX5_sign, Cond.instanceMethod yX5_sign, Cond.selects RX5 yX5_sign yX5_sign, Cond.code yX5_sign cX5_sign 2 none, Cond.fieldLink RX5 44 "StreetIndexModel" "line" "[I", Cond.methodLink RX5 86 yX5_tracks, Cond.instanceMethod yX5_tracks, Cond.selects RX5 yX5_tracks yX5_tracks, Cond.code yX5_tracks cX5_tracks 5 none, Cond.fieldLink RX5 25 "StreetIndexModel" "many" "[I", Cond.fieldLink RX5 22 "StreetIndexModel" "points" "[I", Cond.fieldLink RX5 32 "StreetIndexModel" "track" "[I"]
def wsX5_writeLine_r2 : List Cond := [Cond.methodLink RX5 83 yX5_way, Cond.static yX5_way, Cond.code yX5_way cX5_way 2 (some .int), Cond.methodLink RX5 125 yX5_beginsRun, Cond.instanceMethod yX5_beginsRun, Cond.selects RX5 yX5_beginsRun yX5_beginsRun, Cond.code yX5_beginsRun cX5_beginsRun 2 (some .boolean), Cond.methodLink RX5 128 yX5_number, Cond.instanceMethod yX5_number, Cond.selects RX5 yX5_number yX5_number, Cond.code yX5_number cX5_number 2 none]
def wsX5_writeLine : List Cond := .code yX5_writeLine cX5_writeLine 6 none :: ((wsX5_writeLine_r1 ++ wsX5_writeLine_r2) ++ wsX50)
def wsX5_lineLength_r1 : List Cond := [Cond.fieldLink RX5 115 "StreetIndexModel" "signs" "I", Cond.methodLink RX5 97 yX5_isStreet, Cond.instanceMethod yX5_isStreet, Cond.selects RX5 yX5_isStreet yX5_isStreet, Cond.initialized RX5, Cond.code yX5_isStreet cX5_isStreet 2 (some .boolean), Cond.fieldLink RX5 58 "StreetIndexModel" "streets" "I", Cond.methodLink RX5 61 yX5_in, Cond.static yX5_in, Cond.code yX5_in cX5_in 3 (some .boolean), Cond.methodLink RX5 104 yX5_goes, Cond.instanceMethod yX5_goes, Cond.selects RX5 yX5_goes yX5_goes, Cond.code yX5_goes cX5_goes 4 (some .boolean), Cond.fieldLink RX5 54 "StreetIndexModel" "last" "I", Cond.methodLink RX5 131 yX5_writeLine, Cond.instanceMethod yX5_writeLine, Cond.selects RX5 yX5_writeLine yX5_writeLine, Cond.code yX5_writeLine cX5_writeLine 6 none, Cond.fieldLink RX5 19 "StreetIndexModel" "sizes" "[I", Cond.fieldLink RX5 13 "StreetIndexModel" "kinds" "[I", Cond.fieldLink RX5 16 "StreetIndexModel" "names" "[I", Cond.fieldLink RX5 80 "StreetIndexModel" "length" "I", Cond.fieldLink RX5 35 "StreetIndexModel" "on" "[Z"]
def wsX5_lineLength_r2 : List Cond := [Cond.methodLink RX5 121 yX5_writes, Cond.instanceMethod yX5_writes, Cond.selects RX5 yX5_writes yX5_writes, Cond.code yX5_writes cX5_writes 8 none, Cond.fieldLink RX5 7 "StreetIndexModel" "letters" "[I", Cond.methodLink RX5 118 yX5_sign, Cond.instanceMethod yX5_sign, Cond.selects RX5 yX5_sign yX5_sign, Cond.code yX5_sign cX5_sign 2 none, Cond.fieldLink RX5 44 "StreetIndexModel" "line" "[I", Cond.methodLink RX5 86 yX5_tracks, Cond.instanceMethod yX5_tracks, Cond.selects RX5 yX5_tracks yX5_tracks, Cond.code yX5_tracks cX5_tracks 5 none, Cond.fieldLink RX5 25 "StreetIndexModel" "many" "[I", Cond.fieldLink RX5 22 "StreetIndexModel" "points" "[I", Cond.fieldLink RX5 32 "StreetIndexModel" "track" "[I", Cond.methodLink RX5 83 yX5_way, Cond.static yX5_way, Cond.code yX5_way cX5_way 2 (some .int), Cond.methodLink RX5 125 yX5_beginsRun, Cond.instanceMethod yX5_beginsRun, Cond.selects RX5 yX5_beginsRun yX5_beginsRun, Cond.code yX5_beginsRun cX5_beginsRun 2 (some .boolean)]
def wsX5_lineLength_r3 : List Cond := [Cond.methodLink RX5 128 yX5_number, Cond.instanceMethod yX5_number, Cond.selects RX5 yX5_number yX5_number, Cond.code yX5_number cX5_number 2 none]
def wsX5_lineLength : List Cond := .code yX5_lineLength cX5_lineLength 2 (some .int) :: ((wsX5_lineLength_r1 ++ (wsX5_lineLength_r2 ++ wsX5_lineLength_r3)) ++ wsX50)
def wsX5_lineChar_r1 : List Cond := [Cond.fieldLink RX5 115 "StreetIndexModel" "signs" "I", Cond.fieldLink RX5 54 "StreetIndexModel" "last" "I", Cond.fieldLink RX5 44 "StreetIndexModel" "line" "[I", Cond.methodLink RX5 97 yX5_isStreet, Cond.instanceMethod yX5_isStreet, Cond.selects RX5 yX5_isStreet yX5_isStreet, Cond.initialized RX5, Cond.code yX5_isStreet cX5_isStreet 2 (some .boolean), Cond.fieldLink RX5 58 "StreetIndexModel" "streets" "I", Cond.methodLink RX5 61 yX5_in, Cond.static yX5_in, Cond.code yX5_in cX5_in 3 (some .boolean), Cond.methodLink RX5 104 yX5_goes, Cond.instanceMethod yX5_goes, Cond.selects RX5 yX5_goes yX5_goes, Cond.code yX5_goes cX5_goes 4 (some .boolean), Cond.methodLink RX5 131 yX5_writeLine, Cond.instanceMethod yX5_writeLine, Cond.selects RX5 yX5_writeLine yX5_writeLine, Cond.code yX5_writeLine cX5_writeLine 6 none, Cond.fieldLink RX5 19 "StreetIndexModel" "sizes" "[I", Cond.fieldLink RX5 13 "StreetIndexModel" "kinds" "[I", Cond.fieldLink RX5 16 "StreetIndexModel" "names" "[I", Cond.fieldLink RX5 80 "StreetIndexModel" "length" "I"]
def wsX5_lineChar_r2 : List Cond := [Cond.fieldLink RX5 35 "StreetIndexModel" "on" "[Z", Cond.methodLink RX5 121 yX5_writes, Cond.instanceMethod yX5_writes, Cond.selects RX5 yX5_writes yX5_writes, Cond.code yX5_writes cX5_writes 8 none, Cond.fieldLink RX5 7 "StreetIndexModel" "letters" "[I", Cond.methodLink RX5 118 yX5_sign, Cond.instanceMethod yX5_sign, Cond.selects RX5 yX5_sign yX5_sign, Cond.code yX5_sign cX5_sign 2 none, Cond.methodLink RX5 86 yX5_tracks, Cond.instanceMethod yX5_tracks, Cond.selects RX5 yX5_tracks yX5_tracks, Cond.code yX5_tracks cX5_tracks 5 none, Cond.fieldLink RX5 25 "StreetIndexModel" "many" "[I", Cond.fieldLink RX5 22 "StreetIndexModel" "points" "[I", Cond.fieldLink RX5 32 "StreetIndexModel" "track" "[I", Cond.methodLink RX5 83 yX5_way, Cond.static yX5_way, Cond.code yX5_way cX5_way 2 (some .int), Cond.methodLink RX5 125 yX5_beginsRun, Cond.instanceMethod yX5_beginsRun, Cond.selects RX5 yX5_beginsRun yX5_beginsRun, Cond.code yX5_beginsRun cX5_beginsRun 2 (some .boolean)]
def wsX5_lineChar_r3 : List Cond := [Cond.methodLink RX5 128 yX5_number, Cond.instanceMethod yX5_number, Cond.selects RX5 yX5_number yX5_number, Cond.code yX5_number cX5_number 2 none]
def wsX5_lineChar : List Cond := .code yX5_lineChar cX5_lineChar 3 (some .char) :: ((wsX5_lineChar_r1 ++ (wsX5_lineChar_r2 ++ wsX5_lineChar_r3)) ++ wsX50)
def wsX5_trackLength_r1 : List Cond := [Cond.methodLink RX5 97 yX5_isStreet, Cond.instanceMethod yX5_isStreet, Cond.selects RX5 yX5_isStreet yX5_isStreet, Cond.initialized RX5, Cond.code yX5_isStreet cX5_isStreet 2 (some .boolean), Cond.fieldLink RX5 58 "StreetIndexModel" "streets" "I", Cond.methodLink RX5 61 yX5_in, Cond.static yX5_in, Cond.code yX5_in cX5_in 3 (some .boolean), Cond.methodLink RX5 104 yX5_goes, Cond.instanceMethod yX5_goes, Cond.selects RX5 yX5_goes yX5_goes, Cond.code yX5_goes cX5_goes 4 (some .boolean), Cond.fieldLink RX5 54 "StreetIndexModel" "last" "I", Cond.methodLink RX5 108 yX5_tracked, Cond.instanceMethod yX5_tracked, Cond.selects RX5 yX5_tracked yX5_tracked, Cond.code yX5_tracked cX5_tracked 2 (some .int), Cond.fieldLink RX5 80 "StreetIndexModel" "length" "I", Cond.methodLink RX5 86 yX5_tracks, Cond.instanceMethod yX5_tracks, Cond.selects RX5 yX5_tracks yX5_tracks, Cond.code yX5_tracks cX5_tracks 5 none, Cond.fieldLink RX5 35 "StreetIndexModel" "on" "[Z"]
def wsX5_trackLength_r2 : List Cond := [Cond.fieldLink RX5 25 "StreetIndexModel" "many" "[I", Cond.fieldLink RX5 22 "StreetIndexModel" "points" "[I", Cond.fieldLink RX5 32 "StreetIndexModel" "track" "[I", Cond.methodLink RX5 83 yX5_way, Cond.static yX5_way, Cond.code yX5_way cX5_way 2 (some .int)]
def wsX5_trackLength : List Cond := .code yX5_trackLength cX5_trackLength 2 (some .int) :: ((wsX5_trackLength_r1 ++ wsX5_trackLength_r2) ++ wsX50)
def wsX5_squares_r1 : List Cond := [Cond.fieldLink RX5 35 "StreetIndexModel" "on" "[Z", Cond.methodLink RX5 97 yX5_isStreet, Cond.instanceMethod yX5_isStreet, Cond.selects RX5 yX5_isStreet yX5_isStreet, Cond.initialized RX5, Cond.code yX5_isStreet cX5_isStreet 2 (some .boolean), Cond.fieldLink RX5 58 "StreetIndexModel" "streets" "I", Cond.methodLink RX5 61 yX5_in, Cond.static yX5_in, Cond.code yX5_in cX5_in 3 (some .boolean), Cond.methodLink RX5 104 yX5_goes, Cond.instanceMethod yX5_goes, Cond.selects RX5 yX5_goes yX5_goes, Cond.code yX5_goes cX5_goes 4 (some .boolean), Cond.fieldLink RX5 54 "StreetIndexModel" "last" "I", Cond.methodLink RX5 86 yX5_tracks, Cond.instanceMethod yX5_tracks, Cond.selects RX5 yX5_tracks yX5_tracks, Cond.code yX5_tracks cX5_tracks 5 none, Cond.fieldLink RX5 80 "StreetIndexModel" "length" "I", Cond.fieldLink RX5 25 "StreetIndexModel" "many" "[I", Cond.fieldLink RX5 22 "StreetIndexModel" "points" "[I", Cond.fieldLink RX5 32 "StreetIndexModel" "track" "[I", Cond.methodLink RX5 83 yX5_way]
def wsX5_squares_r2 : List Cond := [Cond.static yX5_way, Cond.code yX5_way cX5_way 2 (some .int)]
def wsX5_squares : List Cond := .code yX5_squares cX5_squares 4 (some .int) :: ((wsX5_squares_r1 ++ wsX5_squares_r2) ++ wsX50)
def wsX5_runs_r1 : List Cond := [Cond.methodLink RX5 97 yX5_isStreet, Cond.instanceMethod yX5_isStreet, Cond.selects RX5 yX5_isStreet yX5_isStreet, Cond.initialized RX5, Cond.code yX5_isStreet cX5_isStreet 2 (some .boolean), Cond.fieldLink RX5 58 "StreetIndexModel" "streets" "I", Cond.methodLink RX5 61 yX5_in, Cond.static yX5_in, Cond.code yX5_in cX5_in 3 (some .boolean), Cond.methodLink RX5 104 yX5_goes, Cond.instanceMethod yX5_goes, Cond.selects RX5 yX5_goes yX5_goes, Cond.code yX5_goes cX5_goes 4 (some .boolean), Cond.fieldLink RX5 54 "StreetIndexModel" "last" "I", Cond.methodLink RX5 86 yX5_tracks, Cond.instanceMethod yX5_tracks, Cond.selects RX5 yX5_tracks yX5_tracks, Cond.code yX5_tracks cX5_tracks 5 none, Cond.fieldLink RX5 80 "StreetIndexModel" "length" "I", Cond.fieldLink RX5 35 "StreetIndexModel" "on" "[Z", Cond.fieldLink RX5 25 "StreetIndexModel" "many" "[I", Cond.fieldLink RX5 22 "StreetIndexModel" "points" "[I", Cond.fieldLink RX5 32 "StreetIndexModel" "track" "[I", Cond.methodLink RX5 83 yX5_way]
def wsX5_runs_r2 : List Cond := [Cond.static yX5_way, Cond.code yX5_way cX5_way 2 (some .int), Cond.methodLink RX5 125 yX5_beginsRun, Cond.instanceMethod yX5_beginsRun, Cond.selects RX5 yX5_beginsRun yX5_beginsRun, Cond.code yX5_beginsRun cX5_beginsRun 2 (some .boolean)]
def wsX5_runs : List Cond := .code yX5_runs cX5_runs 4 (some .int) :: ((wsX5_runs_r1 ++ wsX5_runs_r2) ++ wsX50)
def wsX5_isOn_r1 : List Cond := [Cond.fieldLink RX5 35 "StreetIndexModel" "on" "[Z", Cond.methodLink RX5 97 yX5_isStreet, Cond.instanceMethod yX5_isStreet, Cond.selects RX5 yX5_isStreet yX5_isStreet, Cond.initialized RX5, Cond.code yX5_isStreet cX5_isStreet 2 (some .boolean), Cond.fieldLink RX5 58 "StreetIndexModel" "streets" "I", Cond.methodLink RX5 61 yX5_in, Cond.static yX5_in, Cond.code yX5_in cX5_in 3 (some .boolean), Cond.methodLink RX5 101 yX5_isSquare, Cond.static yX5_isSquare, Cond.code yX5_isSquare cX5_isSquare 2 (some .boolean), Cond.methodLink RX5 104 yX5_goes, Cond.instanceMethod yX5_goes, Cond.selects RX5 yX5_goes yX5_goes, Cond.code yX5_goes cX5_goes 4 (some .boolean), Cond.fieldLink RX5 54 "StreetIndexModel" "last" "I", Cond.methodLink RX5 86 yX5_tracks, Cond.instanceMethod yX5_tracks, Cond.selects RX5 yX5_tracks yX5_tracks, Cond.code yX5_tracks cX5_tracks 5 none, Cond.fieldLink RX5 80 "StreetIndexModel" "length" "I", Cond.fieldLink RX5 25 "StreetIndexModel" "many" "[I"]
def wsX5_isOn_r2 : List Cond := [Cond.fieldLink RX5 22 "StreetIndexModel" "points" "[I", Cond.fieldLink RX5 32 "StreetIndexModel" "track" "[I", Cond.methodLink RX5 83 yX5_way, Cond.static yX5_way, Cond.code yX5_way cX5_way 2 (some .int)]
def wsX5_isOn : List Cond := .code yX5_isOn cX5_isOn 4 (some .boolean) :: ((wsX5_isOn_r1 ++ wsX5_isOn_r2) ++ wsX50)
def wsX5_isOnTrack_r1 : List Cond := [Cond.methodLink RX5 134 yX5_isOn, Cond.instanceMethod yX5_isOn, Cond.selects RX5 yX5_isOn yX5_isOn, Cond.initialized RX5, Cond.code yX5_isOn cX5_isOn 4 (some .boolean), Cond.fieldLink RX5 35 "StreetIndexModel" "on" "[Z", Cond.methodLink RX5 97 yX5_isStreet, Cond.instanceMethod yX5_isStreet, Cond.selects RX5 yX5_isStreet yX5_isStreet, Cond.code yX5_isStreet cX5_isStreet 2 (some .boolean), Cond.fieldLink RX5 58 "StreetIndexModel" "streets" "I", Cond.methodLink RX5 61 yX5_in, Cond.static yX5_in, Cond.code yX5_in cX5_in 3 (some .boolean), Cond.methodLink RX5 101 yX5_isSquare, Cond.static yX5_isSquare, Cond.code yX5_isSquare cX5_isSquare 2 (some .boolean), Cond.methodLink RX5 104 yX5_goes, Cond.instanceMethod yX5_goes, Cond.selects RX5 yX5_goes yX5_goes, Cond.code yX5_goes cX5_goes 4 (some .boolean), Cond.fieldLink RX5 54 "StreetIndexModel" "last" "I", Cond.methodLink RX5 86 yX5_tracks, Cond.instanceMethod yX5_tracks]
def wsX5_isOnTrack_r2 : List Cond := [Cond.selects RX5 yX5_tracks yX5_tracks, Cond.code yX5_tracks cX5_tracks 5 none, Cond.fieldLink RX5 80 "StreetIndexModel" "length" "I", Cond.fieldLink RX5 25 "StreetIndexModel" "many" "[I", Cond.fieldLink RX5 22 "StreetIndexModel" "points" "[I", Cond.fieldLink RX5 32 "StreetIndexModel" "track" "[I", Cond.methodLink RX5 83 yX5_way, Cond.static yX5_way, Cond.code yX5_way cX5_way 2 (some .int)]
def wsX5_isOnTrack : List Cond := .code yX5_isOnTrack cX5_isOnTrack 4 (some .boolean) :: ((wsX5_isOnTrack_r1 ++ wsX5_isOnTrack_r2) ++ wsX50)
def wsX5_streetsOf_r1 : List Cond := [Cond.fieldLink RX5 58 "StreetIndexModel" "streets" "I", Cond.fieldLink RX5 35 "StreetIndexModel" "on" "[Z", Cond.methodLink RX5 101 yX5_isSquare, Cond.static yX5_isSquare, Cond.initialized RX5, Cond.code yX5_isSquare cX5_isSquare 2 (some .boolean), Cond.methodLink RX5 61 yX5_in, Cond.static yX5_in, Cond.code yX5_in cX5_in 3 (some .boolean), Cond.methodLink RX5 104 yX5_goes, Cond.instanceMethod yX5_goes, Cond.selects RX5 yX5_goes yX5_goes, Cond.code yX5_goes cX5_goes 4 (some .boolean), Cond.fieldLink RX5 54 "StreetIndexModel" "last" "I", Cond.methodLink RX5 86 yX5_tracks, Cond.instanceMethod yX5_tracks, Cond.selects RX5 yX5_tracks yX5_tracks, Cond.code yX5_tracks cX5_tracks 5 none, Cond.fieldLink RX5 80 "StreetIndexModel" "length" "I", Cond.fieldLink RX5 25 "StreetIndexModel" "many" "[I", Cond.fieldLink RX5 22 "StreetIndexModel" "points" "[I", Cond.fieldLink RX5 32 "StreetIndexModel" "track" "[I", Cond.methodLink RX5 83 yX5_way, Cond.static yX5_way]
def wsX5_streetsOf_r2 : List Cond := [Cond.code yX5_way cX5_way 2 (some .int)]
def wsX5_streetsOf : List Cond := .code yX5_streetsOf cX5_streetsOf 6 (some .int) :: ((wsX5_streetsOf_r1 ++ wsX5_streetsOf_r2) ++ wsX50)
def wsX5_apart : List Cond := .code yX5_apart cX5_apart 2 (some .int) :: ([])
def wsX5_farFrom : List Cond := .code yX5_farFrom cX5_farFrom 5 (some .int) :: ([.methodLink RX5 137 yX5_apart, .static yX5_apart, .initialized RX5, .code yX5_apart cX5_apart 2 (some .int)])
def wsX5_nearestOf : List Cond := .code yX5_nearestOf cX5_nearestOf 6 (some .int) :: ([.fieldLink RX5 35 "StreetIndexModel" "on" "[Z", .methodLink RX5 86 yX5_tracks, .instanceMethod yX5_tracks, .selects RX5 yX5_tracks yX5_tracks, .initialized RX5, .code yX5_tracks cX5_tracks 5 none, .fieldLink RX5 80 "StreetIndexModel" "length" "I", .fieldLink RX5 25 "StreetIndexModel" "many" "[I", .fieldLink RX5 22 "StreetIndexModel" "points" "[I", .fieldLink RX5 32 "StreetIndexModel" "track" "[I", .methodLink RX5 83 yX5_way, .static yX5_way, .code yX5_way cX5_way 2 (some .int), .methodLink RX5 140 yX5_farFrom, .static yX5_farFrom, .code yX5_farFrom cX5_farFrom 5 (some .int), .methodLink RX5 137 yX5_apart, .static yX5_apart, .code yX5_apart cX5_apart 2 (some .int)] ++ wsX50)
def wsX5_distance_r1 : List Cond := [Cond.methodLink RX5 97 yX5_isStreet, Cond.instanceMethod yX5_isStreet, Cond.selects RX5 yX5_isStreet yX5_isStreet, Cond.initialized RX5, Cond.code yX5_isStreet cX5_isStreet 2 (some .boolean), Cond.fieldLink RX5 58 "StreetIndexModel" "streets" "I", Cond.methodLink RX5 61 yX5_in, Cond.static yX5_in, Cond.code yX5_in cX5_in 3 (some .boolean), Cond.methodLink RX5 101 yX5_isSquare, Cond.static yX5_isSquare, Cond.code yX5_isSquare cX5_isSquare 2 (some .boolean), Cond.methodLink RX5 104 yX5_goes, Cond.instanceMethod yX5_goes, Cond.selects RX5 yX5_goes yX5_goes, Cond.code yX5_goes cX5_goes 4 (some .boolean), Cond.fieldLink RX5 54 "StreetIndexModel" "last" "I", Cond.methodLink RX5 144 yX5_nearestOf, Cond.instanceMethod yX5_nearestOf, Cond.selects RX5 yX5_nearestOf yX5_nearestOf, Cond.code yX5_nearestOf cX5_nearestOf 6 (some .int), Cond.fieldLink RX5 35 "StreetIndexModel" "on" "[Z", Cond.methodLink RX5 86 yX5_tracks, Cond.instanceMethod yX5_tracks]
def wsX5_distance_r2 : List Cond := [Cond.selects RX5 yX5_tracks yX5_tracks, Cond.code yX5_tracks cX5_tracks 5 none, Cond.fieldLink RX5 80 "StreetIndexModel" "length" "I", Cond.fieldLink RX5 25 "StreetIndexModel" "many" "[I", Cond.fieldLink RX5 22 "StreetIndexModel" "points" "[I", Cond.fieldLink RX5 32 "StreetIndexModel" "track" "[I", Cond.methodLink RX5 83 yX5_way, Cond.static yX5_way, Cond.code yX5_way cX5_way 2 (some .int), Cond.methodLink RX5 140 yX5_farFrom, Cond.static yX5_farFrom, Cond.code yX5_farFrom cX5_farFrom 5 (some .int), Cond.methodLink RX5 137 yX5_apart, Cond.static yX5_apart, Cond.code yX5_apart cX5_apart 2 (some .int)]
def wsX5_distance : List Cond := .code yX5_distance cX5_distance 5 (some .int) :: ((wsX5_distance_r1 ++ wsX5_distance_r2) ++ wsX50)
def wsX5_nearest_r1 : List Cond := [Cond.methodLink RX5 97 yX5_isStreet, Cond.instanceMethod yX5_isStreet, Cond.selects RX5 yX5_isStreet yX5_isStreet, Cond.initialized RX5, Cond.code yX5_isStreet cX5_isStreet 2 (some .boolean), Cond.fieldLink RX5 58 "StreetIndexModel" "streets" "I", Cond.methodLink RX5 61 yX5_in, Cond.static yX5_in, Cond.code yX5_in cX5_in 3 (some .boolean), Cond.methodLink RX5 101 yX5_isSquare, Cond.static yX5_isSquare, Cond.code yX5_isSquare cX5_isSquare 2 (some .boolean), Cond.methodLink RX5 104 yX5_goes, Cond.instanceMethod yX5_goes, Cond.selects RX5 yX5_goes yX5_goes, Cond.code yX5_goes cX5_goes 4 (some .boolean), Cond.fieldLink RX5 54 "StreetIndexModel" "last" "I", Cond.methodLink RX5 144 yX5_nearestOf, Cond.instanceMethod yX5_nearestOf, Cond.selects RX5 yX5_nearestOf yX5_nearestOf, Cond.code yX5_nearestOf cX5_nearestOf 6 (some .int), Cond.fieldLink RX5 35 "StreetIndexModel" "on" "[Z", Cond.methodLink RX5 86 yX5_tracks, Cond.instanceMethod yX5_tracks]
def wsX5_nearest_r2 : List Cond := [Cond.selects RX5 yX5_tracks yX5_tracks, Cond.code yX5_tracks cX5_tracks 5 none, Cond.fieldLink RX5 80 "StreetIndexModel" "length" "I", Cond.fieldLink RX5 25 "StreetIndexModel" "many" "[I", Cond.fieldLink RX5 22 "StreetIndexModel" "points" "[I", Cond.fieldLink RX5 32 "StreetIndexModel" "track" "[I", Cond.methodLink RX5 83 yX5_way, Cond.static yX5_way, Cond.code yX5_way cX5_way 2 (some .int), Cond.methodLink RX5 140 yX5_farFrom, Cond.static yX5_farFrom, Cond.code yX5_farFrom cX5_farFrom 5 (some .int), Cond.methodLink RX5 137 yX5_apart, Cond.static yX5_apart, Cond.code yX5_apart cX5_apart 2 (some .int)]
def wsX5_nearest : List Cond := .code yX5_nearest cX5_nearest 4 (some .int) :: ((wsX5_nearest_r1 ++ wsX5_nearest_r2) ++ wsX50)
def wsX5_passes : List Cond := .code yX5_passes cX5_passes 4 (some .boolean) :: ([.fieldLink RX5 47 "StreetIndexModel" "steps" "[I"] ++ wsX50)
def wsX5_walks : List Cond := .code yX5_walks cX5_walks 5 none :: ([.fieldLink RX5 47 "StreetIndexModel" "steps" "[I", .constant RX5 147 (99999), .fieldLink RX5 58 "StreetIndexModel" "streets" "I", .fieldLink RX5 80 "StreetIndexModel" "length" "I", .fieldLink RX5 32 "StreetIndexModel" "track" "[I", .fieldLink RX5 28 "StreetIndexModel" "oneWay" "[Z", .methodLink RX5 86 yX5_tracks, .instanceMethod yX5_tracks, .selects RX5 yX5_tracks yX5_tracks, .initialized RX5, .code yX5_tracks cX5_tracks 5 none, .fieldLink RX5 35 "StreetIndexModel" "on" "[Z", .fieldLink RX5 25 "StreetIndexModel" "many" "[I", .fieldLink RX5 22 "StreetIndexModel" "points" "[I", .methodLink RX5 83 yX5_way, .static yX5_way, .code yX5_way cX5_way 2 (some .int), .methodLink RX5 148 yX5_passes, .instanceMethod yX5_passes, .selects RX5 yX5_passes yX5_passes, .code yX5_passes cX5_passes 4 (some .boolean)] ++ wsX50)
def wsX5_walk_r1 : List Cond := [Cond.fieldLink RX5 47 "StreetIndexModel" "steps" "[I", Cond.constant RX5 147 (99999), Cond.methodLink RX5 101 yX5_isSquare, Cond.static yX5_isSquare, Cond.initialized RX5, Cond.code yX5_isSquare cX5_isSquare 2 (some .boolean), Cond.methodLink RX5 61 yX5_in, Cond.static yX5_in, Cond.code yX5_in cX5_in 3 (some .boolean), Cond.methodLink RX5 104 yX5_goes, Cond.instanceMethod yX5_goes, Cond.selects RX5 yX5_goes yX5_goes, Cond.code yX5_goes cX5_goes 4 (some .boolean), Cond.fieldLink RX5 54 "StreetIndexModel" "last" "I", Cond.methodLink RX5 151 yX5_walks, Cond.instanceMethod yX5_walks, Cond.selects RX5 yX5_walks yX5_walks, Cond.code yX5_walks cX5_walks 5 none, Cond.fieldLink RX5 58 "StreetIndexModel" "streets" "I", Cond.fieldLink RX5 80 "StreetIndexModel" "length" "I", Cond.fieldLink RX5 32 "StreetIndexModel" "track" "[I", Cond.fieldLink RX5 28 "StreetIndexModel" "oneWay" "[Z", Cond.methodLink RX5 86 yX5_tracks, Cond.instanceMethod yX5_tracks]
def wsX5_walk_r2 : List Cond := [Cond.selects RX5 yX5_tracks yX5_tracks, Cond.code yX5_tracks cX5_tracks 5 none, Cond.fieldLink RX5 35 "StreetIndexModel" "on" "[Z", Cond.fieldLink RX5 25 "StreetIndexModel" "many" "[I", Cond.fieldLink RX5 22 "StreetIndexModel" "points" "[I", Cond.methodLink RX5 83 yX5_way, Cond.static yX5_way, Cond.code yX5_way cX5_way 2 (some .int), Cond.methodLink RX5 148 yX5_passes, Cond.instanceMethod yX5_passes, Cond.selects RX5 yX5_passes yX5_passes, Cond.code yX5_passes cX5_passes 4 (some .boolean)]
def wsX5_walk : List Cond := .code yX5_walk cX5_walk 6 (some .int) :: ((wsX5_walk_r1 ++ wsX5_walk_r2) ++ wsX50)
def wsX5_walkByRounds_r1 : List Cond := [Cond.methodLink RX5 154 yX5_walk, Cond.instanceMethod yX5_walk, Cond.selects RX5 yX5_walk yX5_walk, Cond.initialized RX5, Cond.code yX5_walk cX5_walk 6 (some .int), Cond.fieldLink RX5 47 "StreetIndexModel" "steps" "[I", Cond.constant RX5 147 (99999), Cond.methodLink RX5 101 yX5_isSquare, Cond.static yX5_isSquare, Cond.code yX5_isSquare cX5_isSquare 2 (some .boolean), Cond.methodLink RX5 61 yX5_in, Cond.static yX5_in, Cond.code yX5_in cX5_in 3 (some .boolean), Cond.methodLink RX5 104 yX5_goes, Cond.instanceMethod yX5_goes, Cond.selects RX5 yX5_goes yX5_goes, Cond.code yX5_goes cX5_goes 4 (some .boolean), Cond.fieldLink RX5 54 "StreetIndexModel" "last" "I", Cond.methodLink RX5 151 yX5_walks, Cond.instanceMethod yX5_walks, Cond.selects RX5 yX5_walks yX5_walks, Cond.code yX5_walks cX5_walks 5 none, Cond.fieldLink RX5 58 "StreetIndexModel" "streets" "I", Cond.fieldLink RX5 80 "StreetIndexModel" "length" "I"]
def wsX5_walkByRounds_r2 : List Cond := [Cond.fieldLink RX5 32 "StreetIndexModel" "track" "[I", Cond.fieldLink RX5 28 "StreetIndexModel" "oneWay" "[Z", Cond.methodLink RX5 86 yX5_tracks, Cond.instanceMethod yX5_tracks, Cond.selects RX5 yX5_tracks yX5_tracks, Cond.code yX5_tracks cX5_tracks 5 none, Cond.fieldLink RX5 35 "StreetIndexModel" "on" "[Z", Cond.fieldLink RX5 25 "StreetIndexModel" "many" "[I", Cond.fieldLink RX5 22 "StreetIndexModel" "points" "[I", Cond.methodLink RX5 83 yX5_way, Cond.static yX5_way, Cond.code yX5_way cX5_way 2 (some .int), Cond.methodLink RX5 148 yX5_passes, Cond.instanceMethod yX5_passes, Cond.selects RX5 yX5_passes yX5_passes, Cond.code yX5_passes cX5_passes 4 (some .boolean)]
def wsX5_walkByRounds : List Cond := .code yX5_walkByRounds cX5_walkByRounds 5 (some .int) :: ((wsX5_walkByRounds_r1 ++ wsX5_walkByRounds_r2) ++ wsX50)
def wsX5_reachable_r1 : List Cond := [Cond.fieldLink RX5 47 "StreetIndexModel" "steps" "[I", Cond.constant RX5 147 (99999), Cond.methodLink RX5 101 yX5_isSquare, Cond.static yX5_isSquare, Cond.initialized RX5, Cond.code yX5_isSquare cX5_isSquare 2 (some .boolean), Cond.methodLink RX5 61 yX5_in, Cond.static yX5_in, Cond.code yX5_in cX5_in 3 (some .boolean), Cond.methodLink RX5 104 yX5_goes, Cond.instanceMethod yX5_goes, Cond.selects RX5 yX5_goes yX5_goes, Cond.code yX5_goes cX5_goes 4 (some .boolean), Cond.fieldLink RX5 54 "StreetIndexModel" "last" "I", Cond.methodLink RX5 151 yX5_walks, Cond.instanceMethod yX5_walks, Cond.selects RX5 yX5_walks yX5_walks, Cond.code yX5_walks cX5_walks 5 none, Cond.fieldLink RX5 58 "StreetIndexModel" "streets" "I", Cond.fieldLink RX5 80 "StreetIndexModel" "length" "I", Cond.fieldLink RX5 32 "StreetIndexModel" "track" "[I", Cond.fieldLink RX5 28 "StreetIndexModel" "oneWay" "[Z", Cond.methodLink RX5 86 yX5_tracks, Cond.instanceMethod yX5_tracks]
def wsX5_reachable_r2 : List Cond := [Cond.selects RX5 yX5_tracks yX5_tracks, Cond.code yX5_tracks cX5_tracks 5 none, Cond.fieldLink RX5 35 "StreetIndexModel" "on" "[Z", Cond.fieldLink RX5 25 "StreetIndexModel" "many" "[I", Cond.fieldLink RX5 22 "StreetIndexModel" "points" "[I", Cond.methodLink RX5 83 yX5_way, Cond.static yX5_way, Cond.code yX5_way cX5_way 2 (some .int), Cond.methodLink RX5 148 yX5_passes, Cond.instanceMethod yX5_passes, Cond.selects RX5 yX5_passes yX5_passes, Cond.code yX5_passes cX5_passes 4 (some .boolean)]
def wsX5_reachable : List Cond := .code yX5_reachable cX5_reachable 5 (some .int) :: ((wsX5_reachable_r1 ++ wsX5_reachable_r2) ++ wsX50)
def wsJ9_abs_0f7a4 : List Cond := .code yJ9_abs_0f7a4 cJ9_abs_0f7a4 1 (some .int) :: ([])
def wsJ9_max_7cf53 : List Cond := .code yJ9_max_7cf53 cJ9_max_7cf53 2 (some .int) :: ([])
def wsJ9_min_7cf53 : List Cond := .code yJ9_min_7cf53 cJ9_min_7cf53 2 (some .int) :: ([])
def wsL_addStreet : List Cond := .codeWith yL_addStreet cL_addStreet 5 (some .int) [(0, 10, 13, 13), (0, 10, 17, 15)] :: ([.classLink RL 13 "java/lang/IllegalArgumentException", .methodLink RL 7 yX4_addStreet, .instanceMethod yX4_addStreet, .selects RX4 yX4_addStreet yX4_addStreet, .initialized RX4, .code yX4_addStreet cX4_addStreet 3 (some .int), .classLink RX4 41 "java/lang/IllegalStateException", .initialized "java/lang/IllegalStateException", .fieldLink RX4 37 "StreetIndex" "streetCount" "I", .fieldLink RX4 15 "StreetIndex" "plan" "[LStreetIndex$Street;", .methodLink RX4 33 yX4_checkName, .static yX4_checkName, .code yX4_checkName cX4_checkName 3 none, .classLink RX4 68 "java/lang/IllegalArgumentException", .initialized "java/lang/IllegalArgumentException", .methodLink RX4 165 yX4_wordOf, .static yX4_wordOf, .code yX4_wordOf cX4_wordOf 2 (some .int), .instanceMethod yX0_takeName, .initialized RX0, .selects RX0 yX0_takeName yX0_takeName, .code yX0_takeName cX0_takeName 4 none, .fieldLink RX0 9 "StreetIndex$Street" "words" "[I", .fieldLink RX0 26 "StreetIndex$Street" "wordCount" "I"] ++ wsX40 ++ wsX00 ++ (vx_atS RX4 45 "java/lang/IllegalStateException" ["java/lang/RuntimeException", "java/lang/Exception"]).filter goodWord ++ (vx_atS RX4 72 "java/lang/IllegalArgumentException" ["java/lang/RuntimeException", "java/lang/Exception"]).filter goodWord)
def wsL_addPoint_r1 : List Cond := [Cond.classLink RL 21 "java/lang/IndexOutOfBoundsException", Cond.methodLink RL 17 yX4_addPoint, Cond.instanceMethod yX4_addPoint, Cond.selects RX4 yX4_addPoint yX4_addPoint, Cond.initialized RX4, Cond.code yX4_addPoint cX4_addPoint 5 (some .int), Cond.classLink RX4 68 "java/lang/IllegalArgumentException", Cond.initialized "java/lang/IllegalArgumentException", Cond.classLink RX4 41 "java/lang/IllegalStateException", Cond.initialized "java/lang/IllegalStateException", Cond.fieldLink RX4 15 "StreetIndex" "plan" "[LStreetIndex$Street;", Cond.methodLink RX4 51 yX4_checkStreet, Cond.instanceMethod yX4_checkStreet, Cond.selects RX4 yX4_checkStreet yX4_checkStreet, Cond.code yX4_checkStreet cX4_checkStreet 2 none, Cond.classLink RX4 93 "java/lang/IndexOutOfBoundsException", Cond.initialized "java/lang/IndexOutOfBoundsException", Cond.fieldLink RX4 37 "StreetIndex" "streetCount" "I", Cond.methodLink RX4 55 yX4_checkSquare, Cond.static yX4_checkSquare, Cond.code yX4_checkSquare cX4_checkSquare 2 none, Cond.instanceMethod yX1_canGoTo, Cond.initialized RX1, Cond.selects RX1 yX1_canGoTo yX1_canGoTo]
def wsL_addPoint_r2 : List Cond := [Cond.code yX1_canGoTo cX1_canGoTo 7 (some .boolean), Cond.fieldLink RX1 21 "StreetIndex$Track" "length" "I", Cond.fieldLink RX1 9 "StreetIndex$Track" "path" "[I", Cond.methodLink RX1 25 Lib.Math.abs.name, Cond.static Lib.Math.abs.name, Cond.initialized "java/lang/Math", Cond.code Lib.Math.abs.name Lib.Math.abs.code 1 (some .int), Cond.instanceMethod yX1_goTo, Cond.selects RX1 yX1_goTo yX1_goTo, Cond.code yX1_goTo cX1_goTo 3 none, Cond.fieldLink RX1 15 "StreetIndex$Track" "lengths" "[I", Cond.fieldLink RX1 39 "StreetIndex$Track" "points" "I", Cond.methodLink RX1 31 yX1_addSquare, Cond.instanceMethod yX1_addSquare, Cond.selects RX1 yX1_addSquare yX1_addSquare, Cond.code yX1_addSquare cX1_addSquare 3 none, Cond.fieldLink RX1 18 "StreetIndex$Track" "rows" "[I", Cond.static yX4_squareOf, Cond.code yX4_squareOf cX4_squareOf 2 (some .int), Cond.methodLink RX1 35 yX1_goStraight, Cond.instanceMethod yX1_goStraight, Cond.selects RX1 yX1_goStraight yX1_goStraight, Cond.code yX1_goStraight cX1_goStraight 10 none, Cond.static yX4_sign]
def wsL_addPoint_r3 : List Cond := [Cond.code yX4_sign cX4_sign 1 (some .int), Cond.static yX4_apart, Cond.code yX4_apart cX4_apart 3 (some .int), Cond.methodLink RX4 168 Lib.Math.abs.name, Cond.methodLink RX4 173 Lib.Math.max.name, Cond.static Lib.Math.max.name, Cond.code Lib.Math.max.name Lib.Math.max.code 2 (some .int)]
def wsL_addPoint : List Cond := .codeWith yL_addPoint cL_addPoint 6 (some .int) [(0, 12, 15, 21), (0, 12, 19, 13), (0, 12, 23, 15)] :: ((wsL_addPoint_r1 ++ (wsL_addPoint_r2 ++ wsL_addPoint_r3)) ++ wsX40 ++ wsX00 ++ wsX10 ++ (vx_atS RX4 72 "java/lang/IllegalArgumentException" ["java/lang/RuntimeException", "java/lang/Exception"]).filter goodWord ++ (vx_atS RX4 45 "java/lang/IllegalStateException" ["java/lang/RuntimeException", "java/lang/Exception"]).filter goodWord ++ (vx_atS RX4 97 "java/lang/IndexOutOfBoundsException" ["java/lang/RuntimeException", "java/lang/Exception"]).filter goodWord)
def wsL_dropPoint_r1 : List Cond := [Cond.classLink RL 21 "java/lang/IndexOutOfBoundsException", Cond.methodLink RL 23 yX4_dropPoint, Cond.instanceMethod yX4_dropPoint, Cond.selects RX4 yX4_dropPoint yX4_dropPoint, Cond.initialized RX4, Cond.code yX4_dropPoint cX4_dropPoint 3 (some .int), Cond.classLink RX4 41 "java/lang/IllegalStateException", Cond.initialized "java/lang/IllegalStateException", Cond.fieldLink RX4 15 "StreetIndex" "plan" "[LStreetIndex$Street;", Cond.methodLink RX4 51 yX4_checkStreet, Cond.instanceMethod yX4_checkStreet, Cond.selects RX4 yX4_checkStreet yX4_checkStreet, Cond.code yX4_checkStreet cX4_checkStreet 2 none, Cond.classLink RX4 93 "java/lang/IndexOutOfBoundsException", Cond.initialized "java/lang/IndexOutOfBoundsException", Cond.fieldLink RX4 37 "StreetIndex" "streetCount" "I", Cond.instanceMethod yX1_goBack, Cond.initialized RX1, Cond.selects RX1 yX1_goBack yX1_goBack, Cond.code yX1_goBack cX1_goBack 2 none, Cond.fieldLink RX1 39 "StreetIndex$Track" "points" "I", Cond.fieldLink RX1 15 "StreetIndex$Track" "lengths" "[I", Cond.fieldLink RX1 21 "StreetIndex$Track" "length" "I", Cond.fieldLink RX1 18 "StreetIndex$Track" "rows" "[I"]
def wsL_dropPoint_r2 : List Cond := [Cond.fieldLink RX1 9 "StreetIndex$Track" "path" "[I", Cond.methodLink RX1 53 yJ7_fill_53178, Cond.static yJ7_fill_53178, Cond.initialized RJ7, Cond.code yJ7_fill_53178 cJ7_fill_53178 4 none]
def wsL_dropPoint : List Cond := .codeWith yL_dropPoint cL_dropPoint 4 (some .int) [(0, 9, 12, 21), (0, 9, 15, 15)] :: ((wsL_dropPoint_r1 ++ wsL_dropPoint_r2) ++ wsX40 ++ wsX00 ++ wsX10 ++ (vx_atS RX4 45 "java/lang/IllegalStateException" ["java/lang/RuntimeException", "java/lang/Exception"]).filter goodWord ++ (vx_atS RX4 97 "java/lang/IndexOutOfBoundsException" ["java/lang/RuntimeException", "java/lang/Exception"]).filter goodWord)
def wsL_setOneWay : List Cond := .codeWith yL_setOneWay cL_setOneWay 5 (some .int) [(0, 17, 20, 21)] :: ([.classLink RL 21 "java/lang/IndexOutOfBoundsException", .methodLink RL 27 yX4_setOneWay, .instanceMethod yX4_setOneWay, .selects RX4 yX4_setOneWay yX4_setOneWay, .initialized RX4, .code yX4_setOneWay cX4_setOneWay 4 (some .boolean), .fieldLink RX4 15 "StreetIndex" "plan" "[LStreetIndex$Street;", .methodLink RX4 51 yX4_checkStreet, .instanceMethod yX4_checkStreet, .selects RX4 yX4_checkStreet yX4_checkStreet, .code yX4_checkStreet cX4_checkStreet 2 none, .classLink RX4 93 "java/lang/IndexOutOfBoundsException", .initialized "java/lang/IndexOutOfBoundsException", .fieldLink RX4 37 "StreetIndex" "streetCount" "I"] ++ wsX40 ++ wsX00 ++ (vx_atS RX4 97 "java/lang/IndexOutOfBoundsException" ["java/lang/RuntimeException", "java/lang/Exception"]).filter goodWord)
def wsL_rename_r1 : List Cond := [Cond.classLink RL 21 "java/lang/IndexOutOfBoundsException", Cond.methodLink RL 31 yX4_rename, Cond.instanceMethod yX4_rename, Cond.selects RX4 yX4_rename yX4_rename, Cond.initialized RX4, Cond.code yX4_rename cX4_rename 4 none, Cond.fieldLink RX4 15 "StreetIndex" "plan" "[LStreetIndex$Street;", Cond.methodLink RX4 51 yX4_checkStreet, Cond.instanceMethod yX4_checkStreet, Cond.selects RX4 yX4_checkStreet yX4_checkStreet, Cond.code yX4_checkStreet cX4_checkStreet 2 none, Cond.classLink RX4 93 "java/lang/IndexOutOfBoundsException", Cond.initialized "java/lang/IndexOutOfBoundsException", Cond.fieldLink RX4 37 "StreetIndex" "streetCount" "I", Cond.methodLink RX4 33 yX4_checkName, Cond.static yX4_checkName, Cond.code yX4_checkName cX4_checkName 3 none, Cond.classLink RX4 68 "java/lang/IllegalArgumentException", Cond.initialized "java/lang/IllegalArgumentException", Cond.methodLink RX4 165 yX4_wordOf, Cond.static yX4_wordOf, Cond.code yX4_wordOf cX4_wordOf 2 (some .int), Cond.instanceMethod yX0_takeName, Cond.initialized RX0]
def wsL_rename_r2 : List Cond := [Cond.selects RX0 yX0_takeName yX0_takeName, Cond.code yX0_takeName cX0_takeName 4 none, Cond.fieldLink RX0 9 "StreetIndex$Street" "words" "[I", Cond.fieldLink RX0 26 "StreetIndex$Street" "wordCount" "I"]
def wsL_rename : List Cond := .codeWith yL_rename cL_rename 5 (some .int) [(0, 7, 10, 21), (0, 7, 14, 13)] :: ((wsL_rename_r1 ++ wsL_rename_r2) ++ wsX40 ++ wsX00 ++ (vx_atS RX4 97 "java/lang/IndexOutOfBoundsException" ["java/lang/RuntimeException", "java/lang/Exception"]).filter goodWord ++ (vx_atS RX4 72 "java/lang/IllegalArgumentException" ["java/lang/RuntimeException", "java/lang/Exception"]).filter goodWord)
def wsL_setKind : List Cond := .codeWith yL_setKind cL_setKind 5 (some .int) [(0, 10, 13, 21), (0, 10, 17, 13)] :: ([.classLink RL 21 "java/lang/IndexOutOfBoundsException", .methodLink RL 35 yX4_setKind, .instanceMethod yX4_setKind, .selects RX4 yX4_setKind yX4_setKind, .initialized RX4, .code yX4_setKind cX4_setKind 4 (some .int), .classLink RX4 93 "java/lang/IndexOutOfBoundsException", .initialized "java/lang/IndexOutOfBoundsException", .classLink RX4 68 "java/lang/IllegalArgumentException", .initialized "java/lang/IllegalArgumentException", .fieldLink RX4 9 "StreetIndex" "kinds" "[I"] ++ wsX40 ++ (vx_atS RX4 97 "java/lang/IndexOutOfBoundsException" ["java/lang/RuntimeException", "java/lang/Exception"]).filter goodWord ++ (vx_atS RX4 72 "java/lang/IllegalArgumentException" ["java/lang/RuntimeException", "java/lang/Exception"]).filter goodWord)
def wsL_streetAt_r1 : List Cond := [Cond.classLink RL 21 "java/lang/IndexOutOfBoundsException", Cond.methodLink RL 38 yX4_streetAt, Cond.instanceMethod yX4_streetAt, Cond.selects RX4 yX4_streetAt yX4_streetAt, Cond.initialized RX4, Cond.code yX4_streetAt cX4_streetAt 3 (some .int), Cond.classLink RX4 93 "java/lang/IndexOutOfBoundsException", Cond.initialized "java/lang/IndexOutOfBoundsException", Cond.fieldLink RX4 37 "StreetIndex" "streetCount" "I", Cond.methodLink RX4 102 yX4_countAhead, Cond.instanceMethod yX4_countAhead, Cond.selects RX4 yX4_countAhead yX4_countAhead, Cond.code yX4_countAhead cX4_countAhead 4 (some .int), Cond.methodLink RX4 176 yX4_indexOrder, Cond.instanceMethod yX4_indexOrder, Cond.selects RX4 yX4_indexOrder yX4_indexOrder, Cond.code yX4_indexOrder cX4_indexOrder 4 (some .int), Cond.fieldLink RX4 15 "StreetIndex" "plan" "[LStreetIndex$Street;", Cond.methodLink RX4 106 yX4_keyOrder, Cond.instanceMethod yX4_keyOrder, Cond.selects RX4 yX4_keyOrder yX4_keyOrder, Cond.code yX4_keyOrder cX4_keyOrder 5 (some .int), Cond.fieldLink RX4 9 "StreetIndex" "kinds" "[I", Cond.fieldLink RX4 19 "StreetIndex" "oneKey" "[I"]
def wsL_streetAt_r2 : List Cond := [Cond.fieldLink RX4 22 "StreetIndex" "otherKey" "[I", Cond.instanceMethod yX0_putKey, Cond.initialized RX0, Cond.selects RX0 yX0_putKey yX0_putKey, Cond.code yX0_putKey cX0_putKey 5 (some .int), Cond.methodLink RX0 30 yX0_putWordsOf, Cond.instanceMethod yX0_putWordsOf, Cond.selects RX0 yX0_putWordsOf yX0_putWordsOf, Cond.code yX0_putWordsOf cX0_putWordsOf 7 (some .int), Cond.fieldLink RX0 26 "StreetIndex$Street" "wordCount" "I", Cond.fieldLink RX0 9 "StreetIndex$Street" "words" "[I", Cond.methodLink RX4 190 yX4_wordsOrder, Cond.static yX4_wordsOrder, Cond.code yX4_wordsOrder cX4_wordsOrder 7 (some .int), Cond.methodLink RX4 200 Lib.Math.min.name, Cond.static Lib.Math.min.name, Cond.initialized "java/lang/Math", Cond.code Lib.Math.min.name Lib.Math.min.code 2 (some .int), Cond.methodLink RX4 213 yX4_lettersOrder, Cond.static yX4_lettersOrder, Cond.code yX4_lettersOrder cX4_lettersOrder 4 (some .int), Cond.methodLink RX4 217 yJ0_length_8abf5, Cond.instanceMethod yJ0_length_8abf5, Cond.selects RJ0 yJ0_length_8abf5 yJ0_length_8abf5]
def wsL_streetAt_r3 : List Cond := [Cond.initialized RJ0, Cond.code yJ0_length_8abf5 cJ0_length_8abf5 1 (some .int), Cond.fieldLink RJ0 9 "java/lang/String" "value" "[B", Cond.methodLink RJ0 335 yJ0_coder_7d493, Cond.instanceMethod yJ0_coder_7d493, Cond.selects RJ0 yJ0_coder_7d493 yJ0_coder_7d493, Cond.code yJ0_coder_7d493 cJ0_coder_7d493 1 (some .byte), Cond.fieldLink RJ0 38 "java/lang/String" "COMPACT_STRINGS" "Z", Cond.fieldLink RJ0 15 "java/lang/String" "coder" "B", Cond.methodLink RX4 220 yJ0_charAt_5068e, Cond.instanceMethod yJ0_charAt_5068e, Cond.selects RJ0 yJ0_charAt_5068e yJ0_charAt_5068e, Cond.code yJ0_charAt_5068e cJ0_charAt_5068e 2 (some .char), Cond.methodLink RJ0 492 yJ0_isLatin1_aae02, Cond.instanceMethod yJ0_isLatin1_aae02, Cond.selects RJ0 yJ0_isLatin1_aae02 yJ0_isLatin1_aae02, Cond.code yJ0_isLatin1_aae02 cJ0_isLatin1_aae02 1 (some .boolean), Cond.methodLink RJ0 495 yJ1_charAt_3b067, Cond.static yJ1_charAt_3b067, Cond.initialized RJ1, Cond.code yJ1_charAt_3b067 cJ1_charAt_3b067 2 (some .char), Cond.methodLink RJ1 9 yJ0_checkIndex_df160, Cond.static yJ0_checkIndex_df160, Cond.code yJ0_checkIndex_df160 cJ0_checkIndex_df160 2 none]
def wsL_streetAt_r4 : List Cond := [Cond.fieldLink RJ0 1053 "jdk/internal/util/Preconditions" "SIOOBE_FORMATTER" "Ljava/util/function/BiFunction;", Cond.methodLink RJ0 1059 yJ3_checkIndex_8e157, Cond.static yJ3_checkIndex_8e157, Cond.initialized RJ3, Cond.code yJ3_checkIndex_8e157 cJ3_checkIndex_8e157 3 (some .int), Cond.methodLink RJ0 498 yJ2_charAt_3b067, Cond.static yJ2_charAt_3b067, Cond.initialized RJ2, Cond.code yJ2_charAt_3b067 cJ2_charAt_3b067 2 (some .char), Cond.methodLink RJ2 67 yJ2_checkIndex_2214a, Cond.static yJ2_checkIndex_2214a, Cond.code yJ2_checkIndex_2214a cJ2_checkIndex_2214a 2 none, Cond.methodLink RJ2 48 yJ2_length_9d52b, Cond.static yJ2_length_9d52b, Cond.code yJ2_length_9d52b cJ2_length_9d52b 1 (some .int), Cond.methodLink RJ2 414 yJ0_checkIndex_df160, Cond.methodLink RJ2 71 yJ2_getChar_3b067, Cond.static yJ2_getChar_3b067, Cond.code yJ2_getChar_3b067 cJ2_getChar_3b067 2 (some .char), Cond.fieldLink RJ2 44 "java/lang/StringUTF16" "$assertionsDisabled" "Z", Cond.fieldLink RJ2 59 "java/lang/StringUTF16" "HI_BYTE_SHIFT" "I", Cond.fieldLink RJ2 63 "java/lang/StringUTF16" "LO_BYTE_SHIFT" "I", Cond.methodLink RX4 183 yX4_sign, Cond.static yX4_sign]
def wsL_streetAt_r5 : List Cond := [Cond.code yX4_sign cX4_sign 1 (some .int), Cond.methodLink RX4 179 yX4_nameOrder, Cond.static yX4_nameOrder, Cond.code yX4_nameOrder cX4_nameOrder 2 (some .int)]
def wsL_streetAt : List Cond := .codeWith yL_streetAt cL_streetAt 4 (some .int) [(0, 9, 12, 21)] :: ((wsL_streetAt_r1 ++ (wsL_streetAt_r2 ++ (wsL_streetAt_r3 ++ (wsL_streetAt_r4 ++ wsL_streetAt_r5)))) ++ wsX40 ++ wsX00 ++ (vx_atS RX4 97 "java/lang/IndexOutOfBoundsException" ["java/lang/RuntimeException", "java/lang/Exception"]).filter goodWord)
def wsL_placeOf_r1 : List Cond := [Cond.classLink RL 21 "java/lang/IndexOutOfBoundsException", Cond.methodLink RL 41 yX4_placeOf, Cond.instanceMethod yX4_placeOf, Cond.selects RX4 yX4_placeOf yX4_placeOf, Cond.initialized RX4, Cond.code yX4_placeOf cX4_placeOf 2 (some .int), Cond.methodLink RX4 51 yX4_checkStreet, Cond.instanceMethod yX4_checkStreet, Cond.selects RX4 yX4_checkStreet yX4_checkStreet, Cond.code yX4_checkStreet cX4_checkStreet 2 none, Cond.classLink RX4 93 "java/lang/IndexOutOfBoundsException", Cond.initialized "java/lang/IndexOutOfBoundsException", Cond.fieldLink RX4 37 "StreetIndex" "streetCount" "I", Cond.methodLink RX4 102 yX4_countAhead, Cond.instanceMethod yX4_countAhead, Cond.selects RX4 yX4_countAhead yX4_countAhead, Cond.code yX4_countAhead cX4_countAhead 4 (some .int), Cond.methodLink RX4 176 yX4_indexOrder, Cond.instanceMethod yX4_indexOrder, Cond.selects RX4 yX4_indexOrder yX4_indexOrder, Cond.code yX4_indexOrder cX4_indexOrder 4 (some .int), Cond.fieldLink RX4 15 "StreetIndex" "plan" "[LStreetIndex$Street;", Cond.methodLink RX4 106 yX4_keyOrder, Cond.instanceMethod yX4_keyOrder]
def wsL_placeOf_r2 : List Cond := [Cond.selects RX4 yX4_keyOrder yX4_keyOrder, Cond.code yX4_keyOrder cX4_keyOrder 5 (some .int), Cond.fieldLink RX4 9 "StreetIndex" "kinds" "[I", Cond.fieldLink RX4 19 "StreetIndex" "oneKey" "[I", Cond.fieldLink RX4 22 "StreetIndex" "otherKey" "[I", Cond.instanceMethod yX0_putKey, Cond.initialized RX0, Cond.selects RX0 yX0_putKey yX0_putKey, Cond.code yX0_putKey cX0_putKey 5 (some .int), Cond.methodLink RX0 30 yX0_putWordsOf, Cond.instanceMethod yX0_putWordsOf, Cond.selects RX0 yX0_putWordsOf yX0_putWordsOf, Cond.code yX0_putWordsOf cX0_putWordsOf 7 (some .int), Cond.fieldLink RX0 26 "StreetIndex$Street" "wordCount" "I", Cond.fieldLink RX0 9 "StreetIndex$Street" "words" "[I", Cond.methodLink RX4 190 yX4_wordsOrder, Cond.static yX4_wordsOrder, Cond.code yX4_wordsOrder cX4_wordsOrder 7 (some .int), Cond.methodLink RX4 200 Lib.Math.min.name, Cond.static Lib.Math.min.name, Cond.initialized "java/lang/Math", Cond.code Lib.Math.min.name Lib.Math.min.code 2 (some .int), Cond.methodLink RX4 213 yX4_lettersOrder, Cond.static yX4_lettersOrder]
def wsL_placeOf_r3 : List Cond := [Cond.code yX4_lettersOrder cX4_lettersOrder 4 (some .int), Cond.methodLink RX4 217 yJ0_length_8abf5, Cond.instanceMethod yJ0_length_8abf5, Cond.selects RJ0 yJ0_length_8abf5 yJ0_length_8abf5, Cond.initialized RJ0, Cond.code yJ0_length_8abf5 cJ0_length_8abf5 1 (some .int), Cond.fieldLink RJ0 9 "java/lang/String" "value" "[B", Cond.methodLink RJ0 335 yJ0_coder_7d493, Cond.instanceMethod yJ0_coder_7d493, Cond.selects RJ0 yJ0_coder_7d493 yJ0_coder_7d493, Cond.code yJ0_coder_7d493 cJ0_coder_7d493 1 (some .byte), Cond.fieldLink RJ0 38 "java/lang/String" "COMPACT_STRINGS" "Z", Cond.fieldLink RJ0 15 "java/lang/String" "coder" "B", Cond.methodLink RX4 220 yJ0_charAt_5068e, Cond.instanceMethod yJ0_charAt_5068e, Cond.selects RJ0 yJ0_charAt_5068e yJ0_charAt_5068e, Cond.code yJ0_charAt_5068e cJ0_charAt_5068e 2 (some .char), Cond.methodLink RJ0 492 yJ0_isLatin1_aae02, Cond.instanceMethod yJ0_isLatin1_aae02, Cond.selects RJ0 yJ0_isLatin1_aae02 yJ0_isLatin1_aae02, Cond.code yJ0_isLatin1_aae02 cJ0_isLatin1_aae02 1 (some .boolean), Cond.methodLink RJ0 495 yJ1_charAt_3b067, Cond.static yJ1_charAt_3b067, Cond.initialized RJ1]
def wsL_placeOf_r4 : List Cond := [Cond.code yJ1_charAt_3b067 cJ1_charAt_3b067 2 (some .char), Cond.methodLink RJ1 9 yJ0_checkIndex_df160, Cond.static yJ0_checkIndex_df160, Cond.code yJ0_checkIndex_df160 cJ0_checkIndex_df160 2 none, Cond.fieldLink RJ0 1053 "jdk/internal/util/Preconditions" "SIOOBE_FORMATTER" "Ljava/util/function/BiFunction;", Cond.methodLink RJ0 1059 yJ3_checkIndex_8e157, Cond.static yJ3_checkIndex_8e157, Cond.initialized RJ3, Cond.code yJ3_checkIndex_8e157 cJ3_checkIndex_8e157 3 (some .int), Cond.methodLink RJ0 498 yJ2_charAt_3b067, Cond.static yJ2_charAt_3b067, Cond.initialized RJ2, Cond.code yJ2_charAt_3b067 cJ2_charAt_3b067 2 (some .char), Cond.methodLink RJ2 67 yJ2_checkIndex_2214a, Cond.static yJ2_checkIndex_2214a, Cond.code yJ2_checkIndex_2214a cJ2_checkIndex_2214a 2 none, Cond.methodLink RJ2 48 yJ2_length_9d52b, Cond.static yJ2_length_9d52b, Cond.code yJ2_length_9d52b cJ2_length_9d52b 1 (some .int), Cond.methodLink RJ2 414 yJ0_checkIndex_df160, Cond.methodLink RJ2 71 yJ2_getChar_3b067, Cond.static yJ2_getChar_3b067, Cond.code yJ2_getChar_3b067 cJ2_getChar_3b067 2 (some .char), Cond.fieldLink RJ2 44 "java/lang/StringUTF16" "$assertionsDisabled" "Z"]
def wsL_placeOf_r5 : List Cond := [Cond.fieldLink RJ2 59 "java/lang/StringUTF16" "HI_BYTE_SHIFT" "I", Cond.fieldLink RJ2 63 "java/lang/StringUTF16" "LO_BYTE_SHIFT" "I", Cond.methodLink RX4 183 yX4_sign, Cond.static yX4_sign, Cond.code yX4_sign cX4_sign 1 (some .int), Cond.methodLink RX4 179 yX4_nameOrder, Cond.static yX4_nameOrder, Cond.code yX4_nameOrder cX4_nameOrder 2 (some .int)]
def wsL_placeOf : List Cond := .codeWith yL_placeOf cL_placeOf 4 (some .int) [(0, 9, 12, 21)] :: ((wsL_placeOf_r1 ++ (wsL_placeOf_r2 ++ (wsL_placeOf_r3 ++ (wsL_placeOf_r4 ++ wsL_placeOf_r5)))) ++ wsX40 ++ wsX00 ++ (vx_atS RX4 97 "java/lang/IndexOutOfBoundsException" ["java/lang/RuntimeException", "java/lang/Exception"]).filter goodWord)
def wsL_compareKeys_r1 : List Cond := [Cond.classLink RL 21 "java/lang/IndexOutOfBoundsException", Cond.methodLink RL 44 yX4_compareKeys, Cond.instanceMethod yX4_compareKeys, Cond.selects RX4 yX4_compareKeys yX4_compareKeys, Cond.initialized RX4, Cond.code yX4_compareKeys cX4_compareKeys 3 (some .int), Cond.methodLink RX4 51 yX4_checkStreet, Cond.instanceMethod yX4_checkStreet, Cond.selects RX4 yX4_checkStreet yX4_checkStreet, Cond.code yX4_checkStreet cX4_checkStreet 2 none, Cond.classLink RX4 93 "java/lang/IndexOutOfBoundsException", Cond.initialized "java/lang/IndexOutOfBoundsException", Cond.fieldLink RX4 37 "StreetIndex" "streetCount" "I", Cond.methodLink RX4 106 yX4_keyOrder, Cond.instanceMethod yX4_keyOrder, Cond.selects RX4 yX4_keyOrder yX4_keyOrder, Cond.code yX4_keyOrder cX4_keyOrder 5 (some .int), Cond.fieldLink RX4 15 "StreetIndex" "plan" "[LStreetIndex$Street;", Cond.fieldLink RX4 9 "StreetIndex" "kinds" "[I", Cond.fieldLink RX4 19 "StreetIndex" "oneKey" "[I", Cond.fieldLink RX4 22 "StreetIndex" "otherKey" "[I", Cond.instanceMethod yX0_putKey, Cond.initialized RX0, Cond.selects RX0 yX0_putKey yX0_putKey]
def wsL_compareKeys_r2 : List Cond := [Cond.code yX0_putKey cX0_putKey 5 (some .int), Cond.methodLink RX0 30 yX0_putWordsOf, Cond.instanceMethod yX0_putWordsOf, Cond.selects RX0 yX0_putWordsOf yX0_putWordsOf, Cond.code yX0_putWordsOf cX0_putWordsOf 7 (some .int), Cond.fieldLink RX0 26 "StreetIndex$Street" "wordCount" "I", Cond.fieldLink RX0 9 "StreetIndex$Street" "words" "[I", Cond.methodLink RX4 190 yX4_wordsOrder, Cond.static yX4_wordsOrder, Cond.code yX4_wordsOrder cX4_wordsOrder 7 (some .int), Cond.methodLink RX4 200 Lib.Math.min.name, Cond.static Lib.Math.min.name, Cond.initialized "java/lang/Math", Cond.code Lib.Math.min.name Lib.Math.min.code 2 (some .int), Cond.methodLink RX4 213 yX4_lettersOrder, Cond.static yX4_lettersOrder, Cond.code yX4_lettersOrder cX4_lettersOrder 4 (some .int), Cond.methodLink RX4 217 yJ0_length_8abf5, Cond.instanceMethod yJ0_length_8abf5, Cond.selects RJ0 yJ0_length_8abf5 yJ0_length_8abf5, Cond.initialized RJ0, Cond.code yJ0_length_8abf5 cJ0_length_8abf5 1 (some .int), Cond.fieldLink RJ0 9 "java/lang/String" "value" "[B", Cond.methodLink RJ0 335 yJ0_coder_7d493]
def wsL_compareKeys_r3 : List Cond := [Cond.instanceMethod yJ0_coder_7d493, Cond.selects RJ0 yJ0_coder_7d493 yJ0_coder_7d493, Cond.code yJ0_coder_7d493 cJ0_coder_7d493 1 (some .byte), Cond.fieldLink RJ0 38 "java/lang/String" "COMPACT_STRINGS" "Z", Cond.fieldLink RJ0 15 "java/lang/String" "coder" "B", Cond.methodLink RX4 220 yJ0_charAt_5068e, Cond.instanceMethod yJ0_charAt_5068e, Cond.selects RJ0 yJ0_charAt_5068e yJ0_charAt_5068e, Cond.code yJ0_charAt_5068e cJ0_charAt_5068e 2 (some .char), Cond.methodLink RJ0 492 yJ0_isLatin1_aae02, Cond.instanceMethod yJ0_isLatin1_aae02, Cond.selects RJ0 yJ0_isLatin1_aae02 yJ0_isLatin1_aae02, Cond.code yJ0_isLatin1_aae02 cJ0_isLatin1_aae02 1 (some .boolean), Cond.methodLink RJ0 495 yJ1_charAt_3b067, Cond.static yJ1_charAt_3b067, Cond.initialized RJ1, Cond.code yJ1_charAt_3b067 cJ1_charAt_3b067 2 (some .char), Cond.methodLink RJ1 9 yJ0_checkIndex_df160, Cond.static yJ0_checkIndex_df160, Cond.code yJ0_checkIndex_df160 cJ0_checkIndex_df160 2 none, Cond.fieldLink RJ0 1053 "jdk/internal/util/Preconditions" "SIOOBE_FORMATTER" "Ljava/util/function/BiFunction;", Cond.methodLink RJ0 1059 yJ3_checkIndex_8e157, Cond.static yJ3_checkIndex_8e157, Cond.initialized RJ3]
def wsL_compareKeys_r4 : List Cond := [Cond.code yJ3_checkIndex_8e157 cJ3_checkIndex_8e157 3 (some .int), Cond.methodLink RJ0 498 yJ2_charAt_3b067, Cond.static yJ2_charAt_3b067, Cond.initialized RJ2, Cond.code yJ2_charAt_3b067 cJ2_charAt_3b067 2 (some .char), Cond.methodLink RJ2 67 yJ2_checkIndex_2214a, Cond.static yJ2_checkIndex_2214a, Cond.code yJ2_checkIndex_2214a cJ2_checkIndex_2214a 2 none, Cond.methodLink RJ2 48 yJ2_length_9d52b, Cond.static yJ2_length_9d52b, Cond.code yJ2_length_9d52b cJ2_length_9d52b 1 (some .int), Cond.methodLink RJ2 414 yJ0_checkIndex_df160, Cond.methodLink RJ2 71 yJ2_getChar_3b067, Cond.static yJ2_getChar_3b067, Cond.code yJ2_getChar_3b067 cJ2_getChar_3b067 2 (some .char), Cond.fieldLink RJ2 44 "java/lang/StringUTF16" "$assertionsDisabled" "Z", Cond.fieldLink RJ2 59 "java/lang/StringUTF16" "HI_BYTE_SHIFT" "I", Cond.fieldLink RJ2 63 "java/lang/StringUTF16" "LO_BYTE_SHIFT" "I", Cond.methodLink RX4 183 yX4_sign, Cond.static yX4_sign, Cond.code yX4_sign cX4_sign 1 (some .int)]
def wsL_compareKeys : List Cond := .codeWith yL_compareKeys cL_compareKeys 5 (some .int) [(0, 10, 13, 21)] :: ((wsL_compareKeys_r1 ++ (wsL_compareKeys_r2 ++ (wsL_compareKeys_r3 ++ wsL_compareKeys_r4))) ++ wsX40 ++ wsX00 ++ (vx_atS RX4 97 "java/lang/IndexOutOfBoundsException" ["java/lang/RuntimeException", "java/lang/Exception"]).filter goodWord)
def wsL_lineLength_r1 : List Cond := [Cond.classLink RL 21 "java/lang/IndexOutOfBoundsException", Cond.methodLink RL 47 yX4_lineLength, Cond.instanceMethod yX4_lineLength, Cond.selects RX4 yX4_lineLength yX4_lineLength, Cond.initialized RX4, Cond.code yX4_lineLength cX4_lineLength 2 (some .int), Cond.fieldLink RX4 15 "StreetIndex" "plan" "[LStreetIndex$Street;", Cond.methodLink RX4 51 yX4_checkStreet, Cond.instanceMethod yX4_checkStreet, Cond.selects RX4 yX4_checkStreet yX4_checkStreet, Cond.code yX4_checkStreet cX4_checkStreet 2 none, Cond.classLink RX4 93 "java/lang/IndexOutOfBoundsException", Cond.initialized "java/lang/IndexOutOfBoundsException", Cond.fieldLink RX4 37 "StreetIndex" "streetCount" "I", Cond.methodLink RX4 110 yX4_lineOf, Cond.instanceMethod yX4_lineOf, Cond.selects RX4 yX4_lineOf yX4_lineOf, Cond.code yX4_lineOf cX4_lineOf 3 (some (.object "java/lang/StringBuilder")), Cond.classLink RX4 115 RJ4, Cond.instantiable RJ4 4, Cond.initialized RJ4, Cond.methodLink RX4 221 yJ4_init_da8c8, Cond.instanceMethod yJ4_init_da8c8, Cond.code yJ4_init_da8c8 cJ4_init_da8c8 1 none]
def wsL_lineLength_r2 : List Cond := [Cond.methodLink RJ4 1 yJ5_init_d00df, Cond.instanceMethod yJ5_init_d00df, Cond.initialized RJ5, Cond.code yJ5_init_d00df cJ5_init_d00df 2 none, Cond.methodLink RJ5 3 objectInit, Cond.instanceMethod objectInit, Cond.code objectInit ⟨#[0xb1]⟩ 1 none, Cond.fieldLink RJ5 18 "java/lang/String" "COMPACT_STRINGS" "Z", Cond.arrayClass .byte, Cond.fieldLink RJ5 15 "java/lang/AbstractStringBuilder" "value" "[B", Cond.fieldLink RJ5 22 "java/lang/AbstractStringBuilder" "coder" "B", Cond.methodLink RJ5 26 yJ2_newBytesFor_77867, Cond.static yJ2_newBytesFor_77867, Cond.initialized RJ2, Cond.code yJ2_newBytesFor_77867 cJ2_newBytesFor_77867 1 (some (.array .byte)), Cond.methodLink RJ2 11 yJ2_newBytesLength_0f7a4, Cond.static yJ2_newBytesLength_0f7a4, Cond.code yJ2_newBytesLength_0f7a4 cJ2_newBytesLength_0f7a4 1 (some .int), Cond.constant RJ2 20 (1073741823), Cond.methodLink RX4 222 yX4_appendName, Cond.instanceMethod yX4_appendName, Cond.selects RX4 yX4_appendName yX4_appendName, Cond.code yX4_appendName cX4_appendName 5 none, Cond.fieldLink RX4 9 "StreetIndex" "kinds" "[I"]
def wsL_lineLength_r3 : List Cond := [Cond.instanceMethod yX0_countMoved, Cond.initialized RX0, Cond.selects RX0 yX0_countMoved yX0_countMoved, Cond.code yX0_countMoved cX0_countMoved 4 (some .int), Cond.fieldLink RX0 26 "StreetIndex$Street" "wordCount" "I", Cond.fieldLink RX0 9 "StreetIndex$Street" "words" "[I", Cond.methodLink RX4 238 yX4_appendWords, Cond.instanceMethod yX4_appendWords, Cond.selects RX4 yX4_appendWords yX4_appendWords, Cond.code yX4_appendWords cX4_appendWords 7 none, Cond.methodLink RX4 226 yJ4_append_cf468, Cond.instanceMethod yJ4_append_cf468, Cond.selects RJ4 yJ4_append_cf468 yJ4_append_cf468, Cond.code yJ4_append_cf468 cJ4_append_cf468 2 (some (.object "java/lang/StringBuilder")), Cond.methodLink RJ4 50 yJ5_append_3fe6f, Cond.sameMethod "java/lang/AbstractStringBuilder" "java/lang/AbstractStringBuilder" "append" "(C)Ljava/lang/AbstractStringBuilder;", Cond.superclass RJ4 RJ5, Cond.instanceMethod yJ5_append_3fe6f, Cond.code yJ5_append_3fe6f cJ5_append_3fe6f 2 (some (.object "java/lang/AbstractStringBuilder")), Cond.fieldLink RJ5 79 "java/lang/AbstractStringBuilder" "count" "I", Cond.methodLink RJ5 100 ⟨"java/lang/AbstractStringBuilder", "ensureCapacityInternal", "(I)V"⟩, Cond.sameMethod "java/lang/AbstractStringBuilder" "java/lang/AbstractStringBuilder" "ensureCapacityInternal" "(I)V", Cond.selects RJ4 ⟨"java/lang/AbstractStringBuilder", "ensureCapacityInternal", "(I)V"⟩ yJ5_ensureCapacityInternal_d00df, Cond.instanceMethod yJ5_ensureCapacityInternal_d00df]
def wsL_lineLength_r4 : List Cond := [Cond.code yJ5_ensureCapacityInternal_d00df cJ5_ensureCapacityInternal_d00df 3 none, Cond.methodLink RJ5 104 ⟨"java/lang/AbstractStringBuilder", "newCapacity", "(I)I"⟩, Cond.sameMethod "java/lang/AbstractStringBuilder" "java/lang/AbstractStringBuilder" "newCapacity" "(I)I", Cond.selects RJ4 ⟨"java/lang/AbstractStringBuilder", "newCapacity", "(I)I"⟩ yJ5_newCapacity_0f7a4, Cond.instanceMethod yJ5_newCapacity_0f7a4, Cond.code yJ5_newCapacity_0f7a4 cJ5_newCapacity_0f7a4 6 (some .int), Cond.constant RJ5 39 (2147483647), Cond.methodLink RJ5 114 yJ8_newLength_cabcc, Cond.static yJ8_newLength_cabcc, Cond.initialized RJ8, Cond.code yJ8_newLength_cabcc cJ8_newLength_cabcc 4 (some .int), Cond.methodLink RJ8 194 Lib.Math.max.name, Cond.static Lib.Math.max.name, Cond.initialized "java/lang/Math", Cond.code Lib.Math.max.name Lib.Math.max.code 2 (some .int), Cond.constant RJ8 200 (2147483639), Cond.methodLink RJ8 201 yJ8_hugeLength_7cf53, Cond.static yJ8_hugeLength_7cf53, Cond.code yJ8_hugeLength_7cf53 cJ8_hugeLength_7cf53 3 (some .int), Cond.methodLink RJ5 108 yJ7_copyOf_9075b, Cond.static yJ7_copyOf_9075b, Cond.initialized RJ7, Cond.code yJ7_copyOf_9075b cJ7_copyOf_9075b 3 (some (.array .byte)), Cond.methodLink RJ7 310 ⟨"[B", "clone", "()Ljava/lang/Object;"⟩]
def wsL_lineLength_r5 : List Cond := [Cond.sameMethod "[B" "java/lang/Object" "clone" "()Ljava/lang/Object;", Cond.native ⟨"java/lang/Object", "clone", "()Ljava/lang/Object;"⟩, Cond.instanceMethod ⟨"java/lang/Object", "clone", "()Ljava/lang/Object;"⟩, Cond.selects "[B" ⟨"[B", "clone", "()Ljava/lang/Object;"⟩ ⟨"java/lang/Object", "clone", "()Ljava/lang/Object;"⟩, Cond.classLink RJ7 311 "[B", Cond.methodLink RJ7 304 Lib.Math.min.name, Cond.static Lib.Math.min.name, Cond.code Lib.Math.min.name Lib.Math.min.code 2 (some .int), Cond.methodLink RJ7 150 arraycopyName, Cond.native arraycopyName, Cond.static arraycopyName, Cond.initialized "java/lang/System", Cond.methodLink RJ5 83 ⟨"java/lang/AbstractStringBuilder", "isLatin1", "()Z"⟩, Cond.sameMethod "java/lang/AbstractStringBuilder" "java/lang/AbstractStringBuilder" "isLatin1" "()Z", Cond.selects RJ4 ⟨"java/lang/AbstractStringBuilder", "isLatin1", "()Z"⟩ yJ5_isLatin1_aae02, Cond.instanceMethod yJ5_isLatin1_aae02, Cond.code yJ5_isLatin1_aae02 cJ5_isLatin1_aae02 1 (some .boolean), Cond.methodLink RJ5 191 yJ1_canEncode_fc78d, Cond.static yJ1_canEncode_fc78d, Cond.initialized RJ1, Cond.code yJ1_canEncode_fc78d cJ1_canEncode_fc78d 1 (some .boolean), Cond.methodLink RJ5 195 ⟨"java/lang/AbstractStringBuilder", "inflate", "()V"⟩, Cond.sameMethod "java/lang/AbstractStringBuilder" "java/lang/AbstractStringBuilder" "inflate" "()V", Cond.selects RJ4 ⟨"java/lang/AbstractStringBuilder", "inflate", "()V"⟩ yJ5_inflate_da8c8]
def wsL_lineLength_r6 : List Cond := [Cond.instanceMethod yJ5_inflate_da8c8, Cond.code yJ5_inflate_da8c8 cJ5_inflate_da8c8 2 none, Cond.methodLink RJ5 125 yJ1_inflate_0e8fd, Cond.static yJ1_inflate_0e8fd, Cond.code yJ1_inflate_0e8fd cJ1_inflate_0e8fd 5 none, Cond.methodLink RJ1 240 yJ2_inflate_0e8fd, Cond.static yJ2_inflate_0e8fd, Cond.code yJ2_inflate_0e8fd cJ2_inflate_0e8fd 6 none, Cond.methodLink RJ2 173 yJ2_checkBoundsOffCount_d044e, Cond.static yJ2_checkBoundsOffCount_d044e, Cond.code yJ2_checkBoundsOffCount_d044e cJ2_checkBoundsOffCount_d044e 3 none, Cond.methodLink RJ2 48 yJ2_length_9d52b, Cond.static yJ2_length_9d52b, Cond.code yJ2_length_9d52b cJ2_length_9d52b 1 (some .int), Cond.methodLink RJ2 419 yJ0_checkBoundsOffCount_cabcc, Cond.static yJ0_checkBoundsOffCount_cabcc, Cond.initialized RJ0, Cond.code yJ0_checkBoundsOffCount_cabcc cJ0_checkBoundsOffCount_cabcc 3 (some .int), Cond.fieldLink RJ0 1053 "jdk/internal/util/Preconditions" "SIOOBE_FORMATTER" "Ljava/util/function/BiFunction;", Cond.methodLink RJ0 1065 yJ3_checkFromIndexSize_8c36e, Cond.static yJ3_checkFromIndexSize_8c36e, Cond.initialized RJ3, Cond.code yJ3_checkFromIndexSize_8c36e cJ3_checkFromIndexSize_8c36e 4 (some .int), Cond.methodLink RJ2 111 yJ2_putChar_b72d1]
def wsL_lineLength_r7 : List Cond := [Cond.static yJ2_putChar_b72d1, Cond.code yJ2_putChar_b72d1 cJ2_putChar_b72d1 3 none, Cond.fieldLink RJ2 44 "java/lang/StringUTF16" "$assertionsDisabled" "Z", Cond.fieldLink RJ2 59 "java/lang/StringUTF16" "HI_BYTE_SHIFT" "I", Cond.fieldLink RJ2 63 "java/lang/StringUTF16" "LO_BYTE_SHIFT" "I", Cond.methodLink RJ5 197 yJ2_putCharSB_b72d1, Cond.static yJ2_putCharSB_b72d1, Cond.code yJ2_putCharSB_b72d1 cJ2_putCharSB_b72d1 3 none, Cond.methodLink RJ2 67 yJ2_checkIndex_2214a, Cond.static yJ2_checkIndex_2214a, Cond.code yJ2_checkIndex_2214a cJ2_checkIndex_2214a 2 none, Cond.methodLink RJ2 414 yJ0_checkIndex_df160, Cond.static yJ0_checkIndex_df160, Cond.code yJ0_checkIndex_df160 cJ0_checkIndex_df160 2 none, Cond.methodLink RJ0 1059 yJ3_checkIndex_8e157, Cond.static yJ3_checkIndex_8e157, Cond.code yJ3_checkIndex_8e157 cJ3_checkIndex_8e157 3 (some .int), Cond.methodLink RX4 244 yJ4_append_15ec4, Cond.instanceMethod yJ4_append_15ec4, Cond.selects RJ4 yJ4_append_15ec4 yJ4_append_15ec4, Cond.code yJ4_append_15ec4 cJ4_append_15ec4 2 (some (.object "java/lang/StringBuilder")), Cond.methodLink RJ4 29 yJ5_append_cf1ce, Cond.sameMethod "java/lang/AbstractStringBuilder" "java/lang/AbstractStringBuilder" "append" "(Ljava/lang/String;)Ljava/lang/AbstractStringBuilder;", Cond.instanceMethod yJ5_append_cf1ce]
def wsL_lineLength_r8 : List Cond := [Cond.code yJ5_append_cf1ce cJ5_append_cf1ce 3 (some (.object "java/lang/AbstractStringBuilder")), Cond.methodLink RJ5 204 ⟨"java/lang/AbstractStringBuilder", "appendNull", "()Ljava/lang/AbstractStringBuilder;"⟩, Cond.sameMethod "java/lang/AbstractStringBuilder" "java/lang/AbstractStringBuilder" "appendNull" "()Ljava/lang/AbstractStringBuilder;", Cond.selects RJ4 ⟨"java/lang/AbstractStringBuilder", "appendNull", "()Ljava/lang/AbstractStringBuilder;"⟩ yJ5_appendNull_278bc, Cond.instanceMethod yJ5_appendNull_278bc, Cond.code yJ5_appendNull_278bc cJ5_appendNull_278bc 3 (some (.object "java/lang/AbstractStringBuilder")), Cond.methodLink RJ5 226 yJ2_putCharsAt_cd4e5, Cond.static yJ2_putCharsAt_cd4e5, Cond.code yJ2_putCharsAt_cd4e5 cJ2_putCharsAt_cd4e5 7 (some .int), Cond.methodLink RJ2 96 yJ2_checkBoundsBeginEnd_d044e, Cond.static yJ2_checkBoundsBeginEnd_d044e, Cond.code yJ2_checkBoundsBeginEnd_d044e cJ2_checkBoundsBeginEnd_d044e 3 none, Cond.methodLink RJ2 241 yJ0_checkBoundsBeginEnd_23922, Cond.static yJ0_checkBoundsBeginEnd_23922, Cond.code yJ0_checkBoundsBeginEnd_23922 cJ0_checkBoundsBeginEnd_23922 3 none, Cond.methodLink RJ0 1062 yJ3_checkFromToIndex_8c36e, Cond.static yJ3_checkFromToIndex_8c36e, Cond.code yJ3_checkFromToIndex_8c36e cJ3_checkFromToIndex_8c36e 4 (some .int), Cond.methodLink RJ5 32 yJ0_length_8abf5, Cond.instanceMethod yJ0_length_8abf5, Cond.selects RJ0 yJ0_length_8abf5 yJ0_length_8abf5, Cond.code yJ0_length_8abf5 cJ0_length_8abf5 1 (some .int), Cond.fieldLink RJ0 9 "java/lang/String" "value" "[B", Cond.methodLink RJ0 335 yJ0_coder_7d493]
def wsL_lineLength_r9 : List Cond := [Cond.instanceMethod yJ0_coder_7d493, Cond.selects RJ0 yJ0_coder_7d493 yJ0_coder_7d493, Cond.code yJ0_coder_7d493 cJ0_coder_7d493 1 (some .byte), Cond.fieldLink RJ0 38 "java/lang/String" "COMPACT_STRINGS" "Z", Cond.fieldLink RJ0 15 "java/lang/String" "coder" "B", Cond.methodLink RJ5 208 ⟨"java/lang/AbstractStringBuilder", "putStringAt", "(ILjava/lang/String;)V"⟩, Cond.sameMethod "java/lang/AbstractStringBuilder" "java/lang/AbstractStringBuilder" "putStringAt" "(ILjava/lang/String;)V", Cond.selects RJ4 ⟨"java/lang/AbstractStringBuilder", "putStringAt", "(ILjava/lang/String;)V"⟩ yJ5_putStringAt_47b60, Cond.instanceMethod yJ5_putStringAt_47b60, Cond.code yJ5_putStringAt_47b60 cJ5_putStringAt_47b60 3 none, Cond.methodLink RJ5 397 ⟨"java/lang/AbstractStringBuilder", "inflateIfNeededFor", "(Ljava/lang/String;)V"⟩, Cond.sameMethod "java/lang/AbstractStringBuilder" "java/lang/AbstractStringBuilder" "inflateIfNeededFor" "(Ljava/lang/String;)V", Cond.selects RJ4 ⟨"java/lang/AbstractStringBuilder", "inflateIfNeededFor", "(Ljava/lang/String;)V"⟩ yJ5_inflateIfNeededFor_a7421, Cond.instanceMethod yJ5_inflateIfNeededFor_a7421, Cond.code yJ5_inflateIfNeededFor_a7421 cJ5_inflateIfNeededFor_a7421 2 none, Cond.methodLink RJ5 40 yJ0_coder_7d493, Cond.methodLink RJ5 399 yJ0_getBytes_840e7, Cond.instanceMethod yJ0_getBytes_840e7, Cond.selects RJ0 yJ0_getBytes_840e7 yJ0_getBytes_840e7, Cond.code yJ0_getBytes_840e7 cJ0_getBytes_840e7 4 none, Cond.methodLink RJ0 212 arraycopyName, Cond.methodLink RJ0 106 yJ1_inflate_0e8fd, Cond.methodLink RX4 230 yX4_appendRuns, Cond.static yX4_appendRuns]
def wsL_lineLength_r10 : List Cond := [Cond.code yX4_appendRuns cX4_appendRuns 4 none, Cond.instanceMethod yX1_beginsRun, Cond.initialized RX1, Cond.selects RX1 yX1_beginsRun yX1_beginsRun, Cond.code yX1_beginsRun cX1_beginsRun 3 (some .boolean), Cond.methodLink RX1 64 yX1_covers, Cond.instanceMethod yX1_covers, Cond.selects RX1 yX1_covers yX1_covers, Cond.code yX1_covers cX1_covers 3 (some .boolean), Cond.fieldLink RX1 18 "StreetIndex$Track" "rows" "[I", Cond.instanceMethod yX1_endOfRun, Cond.selects RX1 yX1_endOfRun yX1_endOfRun, Cond.code yX1_endOfRun cX1_endOfRun 4 (some .int), Cond.methodLink RX4 253 yX4_appendRun, Cond.static yX4_appendRun, Cond.code yX4_appendRun cX4_appendRun 4 none, Cond.methodLink RX4 257 yJ4_append_bf812, Cond.instanceMethod yJ4_append_bf812, Cond.selects RJ4 yJ4_append_bf812 yJ4_append_bf812, Cond.code yJ4_append_bf812 cJ4_append_bf812 2 (some (.object "java/lang/StringBuilder")), Cond.methodLink RJ4 53 yJ5_append_c97b9, Cond.sameMethod "java/lang/AbstractStringBuilder" "java/lang/AbstractStringBuilder" "append" "(I)Ljava/lang/AbstractStringBuilder;", Cond.instanceMethod yJ5_append_c97b9, Cond.code yJ5_append_c97b9 cJ5_append_c97b9 4 (some (.object "java/lang/AbstractStringBuilder"))]
def wsL_lineLength_r11 : List Cond := [Cond.methodLink RJ5 245 yJ6_stringSize_0f7a4, Cond.static yJ6_stringSize_0f7a4, Cond.initialized RJ6, Cond.code yJ6_stringSize_0f7a4 cJ6_stringSize_0f7a4 4 (some .int), Cond.methodLink RJ5 248 yJ6_getChars_ba4f3, Cond.static yJ6_getChars_ba4f3, Cond.code yJ6_getChars_ba4f3 cJ6_getChars_ba4f3 7 (some .int), Cond.fieldLink RJ6 83 "java/lang/Integer" "DigitOnes" "[B", Cond.fieldLink RJ6 87 "java/lang/Integer" "DigitTens" "[B", Cond.methodLink RJ5 251 yJ2_getChars_46870, Cond.static yJ2_getChars_46870, Cond.code yJ2_getChars_46870 cJ2_getChars_46870 5 (some .int), Cond.methodLink RJ2 393 yJ2_getChars_ba4f3, Cond.static yJ2_getChars_ba4f3, Cond.code yJ2_getChars_ba4f3 cJ2_getChars_ba4f3 7 (some .int), Cond.fieldLink RJ2 403 "java/lang/Integer" "DigitOnes" "[B", Cond.fieldLink RJ2 407 "java/lang/Integer" "DigitTens" "[B", Cond.methodLink RX4 114 yJ4_length_8abf5, Cond.instanceMethod yJ4_length_8abf5, Cond.selects RJ4 yJ4_length_8abf5 yJ4_length_8abf5, Cond.code yJ4_length_8abf5 cJ4_length_8abf5 1 (some .int), Cond.methodLink RJ4 343 yJ5_length_8abf5, Cond.sameMethod "java/lang/AbstractStringBuilder" "java/lang/AbstractStringBuilder" "length" "()I", Cond.instanceMethod yJ5_length_8abf5]
def wsL_lineLength_r12 : List Cond := [Cond.code yJ5_length_8abf5 cJ5_length_8abf5 1 (some .int)]
def wsL_lineLength : List Cond := .codeWith yL_lineLength cL_lineLength 4 (some .int) [(0, 9, 12, 21)] :: ((wsL_lineLength_r1 ++ (wsL_lineLength_r2 ++ (wsL_lineLength_r3 ++ (wsL_lineLength_r4 ++ (wsL_lineLength_r5 ++ (wsL_lineLength_r6 ++ (wsL_lineLength_r7 ++ (wsL_lineLength_r8 ++ (wsL_lineLength_r9 ++ (wsL_lineLength_r10 ++ (wsL_lineLength_r11 ++ wsL_lineLength_r12))))))))))) ++ wsX40 ++ wsJ40 ++ wsX00 ++ wsX10 ++ (vx_atS RX4 97 "java/lang/IndexOutOfBoundsException" ["java/lang/RuntimeException", "java/lang/Exception"]).filter goodWord)
def wsL_lineChar_r1 : List Cond := [Cond.classLink RL 21 "java/lang/IndexOutOfBoundsException", Cond.methodLink RL 50 yX4_lineChar, Cond.instanceMethod yX4_lineChar, Cond.selects RX4 yX4_lineChar yX4_lineChar, Cond.initialized RX4, Cond.code yX4_lineChar cX4_lineChar 4 (some .char), Cond.classLink RX4 93 "java/lang/IndexOutOfBoundsException", Cond.initialized "java/lang/IndexOutOfBoundsException", Cond.fieldLink RX4 15 "StreetIndex" "plan" "[LStreetIndex$Street;", Cond.methodLink RX4 51 yX4_checkStreet, Cond.instanceMethod yX4_checkStreet, Cond.selects RX4 yX4_checkStreet yX4_checkStreet, Cond.code yX4_checkStreet cX4_checkStreet 2 none, Cond.fieldLink RX4 37 "StreetIndex" "streetCount" "I", Cond.methodLink RX4 110 yX4_lineOf, Cond.instanceMethod yX4_lineOf, Cond.selects RX4 yX4_lineOf yX4_lineOf, Cond.code yX4_lineOf cX4_lineOf 3 (some (.object "java/lang/StringBuilder")), Cond.classLink RX4 115 RJ4, Cond.instantiable RJ4 4, Cond.initialized RJ4, Cond.methodLink RX4 221 yJ4_init_da8c8, Cond.instanceMethod yJ4_init_da8c8, Cond.code yJ4_init_da8c8 cJ4_init_da8c8 1 none]
def wsL_lineChar_r2 : List Cond := [Cond.methodLink RJ4 1 yJ5_init_d00df, Cond.instanceMethod yJ5_init_d00df, Cond.initialized RJ5, Cond.code yJ5_init_d00df cJ5_init_d00df 2 none, Cond.methodLink RJ5 3 objectInit, Cond.instanceMethod objectInit, Cond.code objectInit ⟨#[0xb1]⟩ 1 none, Cond.fieldLink RJ5 18 "java/lang/String" "COMPACT_STRINGS" "Z", Cond.arrayClass .byte, Cond.fieldLink RJ5 15 "java/lang/AbstractStringBuilder" "value" "[B", Cond.fieldLink RJ5 22 "java/lang/AbstractStringBuilder" "coder" "B", Cond.methodLink RJ5 26 yJ2_newBytesFor_77867, Cond.static yJ2_newBytesFor_77867, Cond.initialized RJ2, Cond.code yJ2_newBytesFor_77867 cJ2_newBytesFor_77867 1 (some (.array .byte)), Cond.methodLink RJ2 11 yJ2_newBytesLength_0f7a4, Cond.static yJ2_newBytesLength_0f7a4, Cond.code yJ2_newBytesLength_0f7a4 cJ2_newBytesLength_0f7a4 1 (some .int), Cond.constant RJ2 20 (1073741823), Cond.methodLink RX4 222 yX4_appendName, Cond.instanceMethod yX4_appendName, Cond.selects RX4 yX4_appendName yX4_appendName, Cond.code yX4_appendName cX4_appendName 5 none, Cond.fieldLink RX4 9 "StreetIndex" "kinds" "[I"]
def wsL_lineChar_r3 : List Cond := [Cond.instanceMethod yX0_countMoved, Cond.initialized RX0, Cond.selects RX0 yX0_countMoved yX0_countMoved, Cond.code yX0_countMoved cX0_countMoved 4 (some .int), Cond.fieldLink RX0 26 "StreetIndex$Street" "wordCount" "I", Cond.fieldLink RX0 9 "StreetIndex$Street" "words" "[I", Cond.methodLink RX4 238 yX4_appendWords, Cond.instanceMethod yX4_appendWords, Cond.selects RX4 yX4_appendWords yX4_appendWords, Cond.code yX4_appendWords cX4_appendWords 7 none, Cond.methodLink RX4 226 yJ4_append_cf468, Cond.instanceMethod yJ4_append_cf468, Cond.selects RJ4 yJ4_append_cf468 yJ4_append_cf468, Cond.code yJ4_append_cf468 cJ4_append_cf468 2 (some (.object "java/lang/StringBuilder")), Cond.methodLink RJ4 50 yJ5_append_3fe6f, Cond.sameMethod "java/lang/AbstractStringBuilder" "java/lang/AbstractStringBuilder" "append" "(C)Ljava/lang/AbstractStringBuilder;", Cond.superclass RJ4 RJ5, Cond.instanceMethod yJ5_append_3fe6f, Cond.code yJ5_append_3fe6f cJ5_append_3fe6f 2 (some (.object "java/lang/AbstractStringBuilder")), Cond.fieldLink RJ5 79 "java/lang/AbstractStringBuilder" "count" "I", Cond.methodLink RJ5 100 ⟨"java/lang/AbstractStringBuilder", "ensureCapacityInternal", "(I)V"⟩, Cond.sameMethod "java/lang/AbstractStringBuilder" "java/lang/AbstractStringBuilder" "ensureCapacityInternal" "(I)V", Cond.selects RJ4 ⟨"java/lang/AbstractStringBuilder", "ensureCapacityInternal", "(I)V"⟩ yJ5_ensureCapacityInternal_d00df, Cond.instanceMethod yJ5_ensureCapacityInternal_d00df]
def wsL_lineChar_r4 : List Cond := [Cond.code yJ5_ensureCapacityInternal_d00df cJ5_ensureCapacityInternal_d00df 3 none, Cond.methodLink RJ5 104 ⟨"java/lang/AbstractStringBuilder", "newCapacity", "(I)I"⟩, Cond.sameMethod "java/lang/AbstractStringBuilder" "java/lang/AbstractStringBuilder" "newCapacity" "(I)I", Cond.selects RJ4 ⟨"java/lang/AbstractStringBuilder", "newCapacity", "(I)I"⟩ yJ5_newCapacity_0f7a4, Cond.instanceMethod yJ5_newCapacity_0f7a4, Cond.code yJ5_newCapacity_0f7a4 cJ5_newCapacity_0f7a4 6 (some .int), Cond.constant RJ5 39 (2147483647), Cond.methodLink RJ5 114 yJ8_newLength_cabcc, Cond.static yJ8_newLength_cabcc, Cond.initialized RJ8, Cond.code yJ8_newLength_cabcc cJ8_newLength_cabcc 4 (some .int), Cond.methodLink RJ8 194 Lib.Math.max.name, Cond.static Lib.Math.max.name, Cond.initialized "java/lang/Math", Cond.code Lib.Math.max.name Lib.Math.max.code 2 (some .int), Cond.constant RJ8 200 (2147483639), Cond.methodLink RJ8 201 yJ8_hugeLength_7cf53, Cond.static yJ8_hugeLength_7cf53, Cond.code yJ8_hugeLength_7cf53 cJ8_hugeLength_7cf53 3 (some .int), Cond.methodLink RJ5 108 yJ7_copyOf_9075b, Cond.static yJ7_copyOf_9075b, Cond.initialized RJ7, Cond.code yJ7_copyOf_9075b cJ7_copyOf_9075b 3 (some (.array .byte)), Cond.methodLink RJ7 310 ⟨"[B", "clone", "()Ljava/lang/Object;"⟩]
def wsL_lineChar_r5 : List Cond := [Cond.sameMethod "[B" "java/lang/Object" "clone" "()Ljava/lang/Object;", Cond.native ⟨"java/lang/Object", "clone", "()Ljava/lang/Object;"⟩, Cond.instanceMethod ⟨"java/lang/Object", "clone", "()Ljava/lang/Object;"⟩, Cond.selects "[B" ⟨"[B", "clone", "()Ljava/lang/Object;"⟩ ⟨"java/lang/Object", "clone", "()Ljava/lang/Object;"⟩, Cond.classLink RJ7 311 "[B", Cond.methodLink RJ7 304 Lib.Math.min.name, Cond.static Lib.Math.min.name, Cond.code Lib.Math.min.name Lib.Math.min.code 2 (some .int), Cond.methodLink RJ7 150 arraycopyName, Cond.native arraycopyName, Cond.static arraycopyName, Cond.initialized "java/lang/System", Cond.methodLink RJ5 83 ⟨"java/lang/AbstractStringBuilder", "isLatin1", "()Z"⟩, Cond.sameMethod "java/lang/AbstractStringBuilder" "java/lang/AbstractStringBuilder" "isLatin1" "()Z", Cond.selects RJ4 ⟨"java/lang/AbstractStringBuilder", "isLatin1", "()Z"⟩ yJ5_isLatin1_aae02, Cond.instanceMethod yJ5_isLatin1_aae02, Cond.code yJ5_isLatin1_aae02 cJ5_isLatin1_aae02 1 (some .boolean), Cond.methodLink RJ5 191 yJ1_canEncode_fc78d, Cond.static yJ1_canEncode_fc78d, Cond.initialized RJ1, Cond.code yJ1_canEncode_fc78d cJ1_canEncode_fc78d 1 (some .boolean), Cond.methodLink RJ5 195 ⟨"java/lang/AbstractStringBuilder", "inflate", "()V"⟩, Cond.sameMethod "java/lang/AbstractStringBuilder" "java/lang/AbstractStringBuilder" "inflate" "()V", Cond.selects RJ4 ⟨"java/lang/AbstractStringBuilder", "inflate", "()V"⟩ yJ5_inflate_da8c8]
def wsL_lineChar_r6 : List Cond := [Cond.instanceMethod yJ5_inflate_da8c8, Cond.code yJ5_inflate_da8c8 cJ5_inflate_da8c8 2 none, Cond.methodLink RJ5 125 yJ1_inflate_0e8fd, Cond.static yJ1_inflate_0e8fd, Cond.code yJ1_inflate_0e8fd cJ1_inflate_0e8fd 5 none, Cond.methodLink RJ1 240 yJ2_inflate_0e8fd, Cond.static yJ2_inflate_0e8fd, Cond.code yJ2_inflate_0e8fd cJ2_inflate_0e8fd 6 none, Cond.methodLink RJ2 173 yJ2_checkBoundsOffCount_d044e, Cond.static yJ2_checkBoundsOffCount_d044e, Cond.code yJ2_checkBoundsOffCount_d044e cJ2_checkBoundsOffCount_d044e 3 none, Cond.methodLink RJ2 48 yJ2_length_9d52b, Cond.static yJ2_length_9d52b, Cond.code yJ2_length_9d52b cJ2_length_9d52b 1 (some .int), Cond.methodLink RJ2 419 yJ0_checkBoundsOffCount_cabcc, Cond.static yJ0_checkBoundsOffCount_cabcc, Cond.initialized RJ0, Cond.code yJ0_checkBoundsOffCount_cabcc cJ0_checkBoundsOffCount_cabcc 3 (some .int), Cond.fieldLink RJ0 1053 "jdk/internal/util/Preconditions" "SIOOBE_FORMATTER" "Ljava/util/function/BiFunction;", Cond.methodLink RJ0 1065 yJ3_checkFromIndexSize_8c36e, Cond.static yJ3_checkFromIndexSize_8c36e, Cond.initialized RJ3, Cond.code yJ3_checkFromIndexSize_8c36e cJ3_checkFromIndexSize_8c36e 4 (some .int), Cond.methodLink RJ2 111 yJ2_putChar_b72d1]
def wsL_lineChar_r7 : List Cond := [Cond.static yJ2_putChar_b72d1, Cond.code yJ2_putChar_b72d1 cJ2_putChar_b72d1 3 none, Cond.fieldLink RJ2 44 "java/lang/StringUTF16" "$assertionsDisabled" "Z", Cond.fieldLink RJ2 59 "java/lang/StringUTF16" "HI_BYTE_SHIFT" "I", Cond.fieldLink RJ2 63 "java/lang/StringUTF16" "LO_BYTE_SHIFT" "I", Cond.methodLink RJ5 197 yJ2_putCharSB_b72d1, Cond.static yJ2_putCharSB_b72d1, Cond.code yJ2_putCharSB_b72d1 cJ2_putCharSB_b72d1 3 none, Cond.methodLink RJ2 67 yJ2_checkIndex_2214a, Cond.static yJ2_checkIndex_2214a, Cond.code yJ2_checkIndex_2214a cJ2_checkIndex_2214a 2 none, Cond.methodLink RJ2 414 yJ0_checkIndex_df160, Cond.static yJ0_checkIndex_df160, Cond.code yJ0_checkIndex_df160 cJ0_checkIndex_df160 2 none, Cond.methodLink RJ0 1059 yJ3_checkIndex_8e157, Cond.static yJ3_checkIndex_8e157, Cond.code yJ3_checkIndex_8e157 cJ3_checkIndex_8e157 3 (some .int), Cond.methodLink RX4 244 yJ4_append_15ec4, Cond.instanceMethod yJ4_append_15ec4, Cond.selects RJ4 yJ4_append_15ec4 yJ4_append_15ec4, Cond.code yJ4_append_15ec4 cJ4_append_15ec4 2 (some (.object "java/lang/StringBuilder")), Cond.methodLink RJ4 29 yJ5_append_cf1ce, Cond.sameMethod "java/lang/AbstractStringBuilder" "java/lang/AbstractStringBuilder" "append" "(Ljava/lang/String;)Ljava/lang/AbstractStringBuilder;", Cond.instanceMethod yJ5_append_cf1ce]
def wsL_lineChar_r8 : List Cond := [Cond.code yJ5_append_cf1ce cJ5_append_cf1ce 3 (some (.object "java/lang/AbstractStringBuilder")), Cond.methodLink RJ5 204 ⟨"java/lang/AbstractStringBuilder", "appendNull", "()Ljava/lang/AbstractStringBuilder;"⟩, Cond.sameMethod "java/lang/AbstractStringBuilder" "java/lang/AbstractStringBuilder" "appendNull" "()Ljava/lang/AbstractStringBuilder;", Cond.selects RJ4 ⟨"java/lang/AbstractStringBuilder", "appendNull", "()Ljava/lang/AbstractStringBuilder;"⟩ yJ5_appendNull_278bc, Cond.instanceMethod yJ5_appendNull_278bc, Cond.code yJ5_appendNull_278bc cJ5_appendNull_278bc 3 (some (.object "java/lang/AbstractStringBuilder")), Cond.methodLink RJ5 226 yJ2_putCharsAt_cd4e5, Cond.static yJ2_putCharsAt_cd4e5, Cond.code yJ2_putCharsAt_cd4e5 cJ2_putCharsAt_cd4e5 7 (some .int), Cond.methodLink RJ2 96 yJ2_checkBoundsBeginEnd_d044e, Cond.static yJ2_checkBoundsBeginEnd_d044e, Cond.code yJ2_checkBoundsBeginEnd_d044e cJ2_checkBoundsBeginEnd_d044e 3 none, Cond.methodLink RJ2 241 yJ0_checkBoundsBeginEnd_23922, Cond.static yJ0_checkBoundsBeginEnd_23922, Cond.code yJ0_checkBoundsBeginEnd_23922 cJ0_checkBoundsBeginEnd_23922 3 none, Cond.methodLink RJ0 1062 yJ3_checkFromToIndex_8c36e, Cond.static yJ3_checkFromToIndex_8c36e, Cond.code yJ3_checkFromToIndex_8c36e cJ3_checkFromToIndex_8c36e 4 (some .int), Cond.methodLink RJ5 32 yJ0_length_8abf5, Cond.instanceMethod yJ0_length_8abf5, Cond.selects RJ0 yJ0_length_8abf5 yJ0_length_8abf5, Cond.code yJ0_length_8abf5 cJ0_length_8abf5 1 (some .int), Cond.fieldLink RJ0 9 "java/lang/String" "value" "[B", Cond.methodLink RJ0 335 yJ0_coder_7d493]
def wsL_lineChar_r9 : List Cond := [Cond.instanceMethod yJ0_coder_7d493, Cond.selects RJ0 yJ0_coder_7d493 yJ0_coder_7d493, Cond.code yJ0_coder_7d493 cJ0_coder_7d493 1 (some .byte), Cond.fieldLink RJ0 38 "java/lang/String" "COMPACT_STRINGS" "Z", Cond.fieldLink RJ0 15 "java/lang/String" "coder" "B", Cond.methodLink RJ5 208 ⟨"java/lang/AbstractStringBuilder", "putStringAt", "(ILjava/lang/String;)V"⟩, Cond.sameMethod "java/lang/AbstractStringBuilder" "java/lang/AbstractStringBuilder" "putStringAt" "(ILjava/lang/String;)V", Cond.selects RJ4 ⟨"java/lang/AbstractStringBuilder", "putStringAt", "(ILjava/lang/String;)V"⟩ yJ5_putStringAt_47b60, Cond.instanceMethod yJ5_putStringAt_47b60, Cond.code yJ5_putStringAt_47b60 cJ5_putStringAt_47b60 3 none, Cond.methodLink RJ5 397 ⟨"java/lang/AbstractStringBuilder", "inflateIfNeededFor", "(Ljava/lang/String;)V"⟩, Cond.sameMethod "java/lang/AbstractStringBuilder" "java/lang/AbstractStringBuilder" "inflateIfNeededFor" "(Ljava/lang/String;)V", Cond.selects RJ4 ⟨"java/lang/AbstractStringBuilder", "inflateIfNeededFor", "(Ljava/lang/String;)V"⟩ yJ5_inflateIfNeededFor_a7421, Cond.instanceMethod yJ5_inflateIfNeededFor_a7421, Cond.code yJ5_inflateIfNeededFor_a7421 cJ5_inflateIfNeededFor_a7421 2 none, Cond.methodLink RJ5 40 yJ0_coder_7d493, Cond.methodLink RJ5 399 yJ0_getBytes_840e7, Cond.instanceMethod yJ0_getBytes_840e7, Cond.selects RJ0 yJ0_getBytes_840e7 yJ0_getBytes_840e7, Cond.code yJ0_getBytes_840e7 cJ0_getBytes_840e7 4 none, Cond.methodLink RJ0 212 arraycopyName, Cond.methodLink RJ0 106 yJ1_inflate_0e8fd, Cond.methodLink RX4 230 yX4_appendRuns, Cond.static yX4_appendRuns]
def wsL_lineChar_r10 : List Cond := [Cond.code yX4_appendRuns cX4_appendRuns 4 none, Cond.instanceMethod yX1_beginsRun, Cond.initialized RX1, Cond.selects RX1 yX1_beginsRun yX1_beginsRun, Cond.code yX1_beginsRun cX1_beginsRun 3 (some .boolean), Cond.methodLink RX1 64 yX1_covers, Cond.instanceMethod yX1_covers, Cond.selects RX1 yX1_covers yX1_covers, Cond.code yX1_covers cX1_covers 3 (some .boolean), Cond.fieldLink RX1 18 "StreetIndex$Track" "rows" "[I", Cond.instanceMethod yX1_endOfRun, Cond.selects RX1 yX1_endOfRun yX1_endOfRun, Cond.code yX1_endOfRun cX1_endOfRun 4 (some .int), Cond.methodLink RX4 253 yX4_appendRun, Cond.static yX4_appendRun, Cond.code yX4_appendRun cX4_appendRun 4 none, Cond.methodLink RX4 257 yJ4_append_bf812, Cond.instanceMethod yJ4_append_bf812, Cond.selects RJ4 yJ4_append_bf812 yJ4_append_bf812, Cond.code yJ4_append_bf812 cJ4_append_bf812 2 (some (.object "java/lang/StringBuilder")), Cond.methodLink RJ4 53 yJ5_append_c97b9, Cond.sameMethod "java/lang/AbstractStringBuilder" "java/lang/AbstractStringBuilder" "append" "(I)Ljava/lang/AbstractStringBuilder;", Cond.instanceMethod yJ5_append_c97b9, Cond.code yJ5_append_c97b9 cJ5_append_c97b9 4 (some (.object "java/lang/AbstractStringBuilder"))]
def wsL_lineChar_r11 : List Cond := [Cond.methodLink RJ5 245 yJ6_stringSize_0f7a4, Cond.static yJ6_stringSize_0f7a4, Cond.initialized RJ6, Cond.code yJ6_stringSize_0f7a4 cJ6_stringSize_0f7a4 4 (some .int), Cond.methodLink RJ5 248 yJ6_getChars_ba4f3, Cond.static yJ6_getChars_ba4f3, Cond.code yJ6_getChars_ba4f3 cJ6_getChars_ba4f3 7 (some .int), Cond.fieldLink RJ6 83 "java/lang/Integer" "DigitOnes" "[B", Cond.fieldLink RJ6 87 "java/lang/Integer" "DigitTens" "[B", Cond.methodLink RJ5 251 yJ2_getChars_46870, Cond.static yJ2_getChars_46870, Cond.code yJ2_getChars_46870 cJ2_getChars_46870 5 (some .int), Cond.methodLink RJ2 393 yJ2_getChars_ba4f3, Cond.static yJ2_getChars_ba4f3, Cond.code yJ2_getChars_ba4f3 cJ2_getChars_ba4f3 7 (some .int), Cond.fieldLink RJ2 403 "java/lang/Integer" "DigitOnes" "[B", Cond.fieldLink RJ2 407 "java/lang/Integer" "DigitTens" "[B", Cond.methodLink RX4 114 yJ4_length_8abf5, Cond.instanceMethod yJ4_length_8abf5, Cond.selects RJ4 yJ4_length_8abf5 yJ4_length_8abf5, Cond.code yJ4_length_8abf5 cJ4_length_8abf5 1 (some .int), Cond.methodLink RJ4 343 yJ5_length_8abf5, Cond.sameMethod "java/lang/AbstractStringBuilder" "java/lang/AbstractStringBuilder" "length" "()I", Cond.instanceMethod yJ5_length_8abf5]
def wsL_lineChar_r12 : List Cond := [Cond.code yJ5_length_8abf5 cJ5_length_8abf5 1 (some .int), Cond.methodLink RX4 121 yJ4_charAt_5068e, Cond.instanceMethod yJ4_charAt_5068e, Cond.selects RJ4 yJ4_charAt_5068e yJ4_charAt_5068e, Cond.code yJ4_charAt_5068e cJ4_charAt_5068e 2 (some .char), Cond.methodLink RJ4 329 yJ5_charAt_5068e, Cond.sameMethod "java/lang/AbstractStringBuilder" "java/lang/AbstractStringBuilder" "charAt" "(I)C", Cond.instanceMethod yJ5_charAt_5068e, Cond.code yJ5_charAt_5068e cJ5_charAt_5068e 5 (some .char), Cond.methodLink RJ5 138 Lib.Math.min.name, Cond.methodLink RJ5 144 yJ0_checkIndex_df160, Cond.methodLink RJ5 148 yJ2_getChar_3b067, Cond.static yJ2_getChar_3b067, Cond.code yJ2_getChar_3b067 cJ2_getChar_3b067 2 (some .char)]
def wsL_lineChar : List Cond := .codeWith yL_lineChar cL_lineChar 5 (some .int) [(0, 10, 13, 21)] :: ((wsL_lineChar_r1 ++ (wsL_lineChar_r2 ++ (wsL_lineChar_r3 ++ (wsL_lineChar_r4 ++ (wsL_lineChar_r5 ++ (wsL_lineChar_r6 ++ (wsL_lineChar_r7 ++ (wsL_lineChar_r8 ++ (wsL_lineChar_r9 ++ (wsL_lineChar_r10 ++ (wsL_lineChar_r11 ++ wsL_lineChar_r12))))))))))) ++ wsX40 ++ wsJ40 ++ wsX00 ++ wsX10 ++ (vx_atS RX4 97 "java/lang/IndexOutOfBoundsException" ["java/lang/RuntimeException", "java/lang/Exception"]).filter goodWord)
def wsL_trackLength : List Cond := .codeWith yL_trackLength cL_trackLength 4 (some .int) [(0, 9, 12, 21)] :: ([.classLink RL 21 "java/lang/IndexOutOfBoundsException", .methodLink RL 54 yX4_trackLength, .instanceMethod yX4_trackLength, .selects RX4 yX4_trackLength yX4_trackLength, .initialized RX4, .code yX4_trackLength cX4_trackLength 2 (some .int), .fieldLink RX4 15 "StreetIndex" "plan" "[LStreetIndex$Street;", .methodLink RX4 51 yX4_checkStreet, .instanceMethod yX4_checkStreet, .selects RX4 yX4_checkStreet yX4_checkStreet, .code yX4_checkStreet cX4_checkStreet 2 none, .classLink RX4 93 "java/lang/IndexOutOfBoundsException", .initialized "java/lang/IndexOutOfBoundsException", .fieldLink RX4 37 "StreetIndex" "streetCount" "I"] ++ wsX40 ++ wsX00 ++ wsX10 ++ (vx_atS RX4 97 "java/lang/IndexOutOfBoundsException" ["java/lang/RuntimeException", "java/lang/Exception"]).filter goodWord)
def wsL_squares_r1 : List Cond := [Cond.classLink RL 21 "java/lang/IndexOutOfBoundsException", Cond.methodLink RL 57 yX4_squares, Cond.instanceMethod yX4_squares, Cond.selects RX4 yX4_squares yX4_squares, Cond.initialized RX4, Cond.code yX4_squares cX4_squares 2 (some .int), Cond.fieldLink RX4 15 "StreetIndex" "plan" "[LStreetIndex$Street;", Cond.methodLink RX4 51 yX4_checkStreet, Cond.instanceMethod yX4_checkStreet, Cond.selects RX4 yX4_checkStreet yX4_checkStreet, Cond.code yX4_checkStreet cX4_checkStreet 2 none, Cond.classLink RX4 93 "java/lang/IndexOutOfBoundsException", Cond.initialized "java/lang/IndexOutOfBoundsException", Cond.fieldLink RX4 37 "StreetIndex" "streetCount" "I", Cond.instanceMethod yX1_countSquares, Cond.initialized RX1, Cond.selects RX1 yX1_countSquares yX1_countSquares, Cond.code yX1_countSquares cX1_countSquares 3 (some .int), Cond.fieldLink RX1 18 "StreetIndex$Track" "rows" "[I", Cond.methodLink RX1 59 yJ6_bitCount_0f7a4, Cond.static yJ6_bitCount_0f7a4, Cond.initialized RJ6, Cond.code yJ6_bitCount_0f7a4 cJ6_bitCount_0f7a4 1 (some .int), Cond.constant RJ6 265 (1431655765)]
def wsL_squares_r2 : List Cond := [Cond.constant RJ6 266 (858993459), Cond.constant RJ6 267 (252645135)]
def wsL_squares : List Cond := .codeWith yL_squares cL_squares 4 (some .int) [(0, 9, 12, 21)] :: ((wsL_squares_r1 ++ wsL_squares_r2) ++ wsX40 ++ wsX00 ++ wsX10 ++ (vx_atS RX4 97 "java/lang/IndexOutOfBoundsException" ["java/lang/RuntimeException", "java/lang/Exception"]).filter goodWord)
def wsL_runs_r1 : List Cond := [Cond.classLink RL 21 "java/lang/IndexOutOfBoundsException", Cond.methodLink RL 60 yX4_runs, Cond.instanceMethod yX4_runs, Cond.selects RX4 yX4_runs yX4_runs, Cond.initialized RX4, Cond.code yX4_runs cX4_runs 2 (some .int), Cond.fieldLink RX4 15 "StreetIndex" "plan" "[LStreetIndex$Street;", Cond.methodLink RX4 51 yX4_checkStreet, Cond.instanceMethod yX4_checkStreet, Cond.selects RX4 yX4_checkStreet yX4_checkStreet, Cond.code yX4_checkStreet cX4_checkStreet 2 none, Cond.classLink RX4 93 "java/lang/IndexOutOfBoundsException", Cond.initialized "java/lang/IndexOutOfBoundsException", Cond.fieldLink RX4 37 "StreetIndex" "streetCount" "I", Cond.instanceMethod yX1_countRuns, Cond.initialized RX1, Cond.selects RX1 yX1_countRuns yX1_countRuns, Cond.code yX1_countRuns cX1_countRuns 3 (some .int), Cond.fieldLink RX1 18 "StreetIndex$Track" "rows" "[I", Cond.methodLink RX1 59 yJ6_bitCount_0f7a4, Cond.static yJ6_bitCount_0f7a4, Cond.initialized RJ6, Cond.code yJ6_bitCount_0f7a4 cJ6_bitCount_0f7a4 1 (some .int), Cond.constant RJ6 265 (1431655765)]
def wsL_runs_r2 : List Cond := [Cond.constant RJ6 266 (858993459), Cond.constant RJ6 267 (252645135)]
def wsL_runs : List Cond := .codeWith yL_runs cL_runs 4 (some .int) [(0, 9, 12, 21)] :: ((wsL_runs_r1 ++ wsL_runs_r2) ++ wsX40 ++ wsX00 ++ wsX10 ++ (vx_atS RX4 97 "java/lang/IndexOutOfBoundsException" ["java/lang/RuntimeException", "java/lang/Exception"]).filter goodWord)
def wsL_isOn : List Cond := .codeWith yL_isOn cL_isOn 6 (some .int) [(0, 19, 22, 21)] :: ([.classLink RL 21 "java/lang/IndexOutOfBoundsException", .methodLink RL 63 yX4_isOn, .instanceMethod yX4_isOn, .selects RX4 yX4_isOn yX4_isOn, .initialized RX4, .code yX4_isOn cX4_isOn 4 (some .boolean), .fieldLink RX4 15 "StreetIndex" "plan" "[LStreetIndex$Street;", .methodLink RX4 51 yX4_checkStreet, .instanceMethod yX4_checkStreet, .selects RX4 yX4_checkStreet yX4_checkStreet, .code yX4_checkStreet cX4_checkStreet 2 none, .classLink RX4 93 "java/lang/IndexOutOfBoundsException", .initialized "java/lang/IndexOutOfBoundsException", .fieldLink RX4 37 "StreetIndex" "streetCount" "I", .methodLink RX4 55 yX4_checkSquare, .static yX4_checkSquare, .code yX4_checkSquare cX4_checkSquare 2 none, .instanceMethod yX1_covers, .initialized RX1, .selects RX1 yX1_covers yX1_covers, .code yX1_covers cX1_covers 3 (some .boolean), .fieldLink RX1 18 "StreetIndex$Track" "rows" "[I"] ++ wsX40 ++ wsX00 ++ wsX10 ++ (vx_atS RX4 97 "java/lang/IndexOutOfBoundsException" ["java/lang/RuntimeException", "java/lang/Exception"]).filter goodWord)
def wsL_isOnTrack_r1 : List Cond := [Cond.classLink RL 21 "java/lang/IndexOutOfBoundsException", Cond.methodLink RL 67 yX4_isOnTrack, Cond.instanceMethod yX4_isOnTrack, Cond.selects RX4 yX4_isOnTrack yX4_isOnTrack, Cond.initialized RX4, Cond.code yX4_isOnTrack cX4_isOnTrack 4 (some .boolean), Cond.fieldLink RX4 15 "StreetIndex" "plan" "[LStreetIndex$Street;", Cond.methodLink RX4 51 yX4_checkStreet, Cond.instanceMethod yX4_checkStreet, Cond.selects RX4 yX4_checkStreet yX4_checkStreet, Cond.code yX4_checkStreet cX4_checkStreet 2 none, Cond.classLink RX4 93 "java/lang/IndexOutOfBoundsException", Cond.initialized "java/lang/IndexOutOfBoundsException", Cond.fieldLink RX4 37 "StreetIndex" "streetCount" "I", Cond.methodLink RX4 55 yX4_checkSquare, Cond.static yX4_checkSquare, Cond.code yX4_checkSquare cX4_checkSquare 2 none, Cond.methodLink RX4 134 yX4_squareOf, Cond.static yX4_squareOf, Cond.code yX4_squareOf cX4_squareOf 2 (some .int), Cond.instanceMethod yX1_comesTo, Cond.initialized RX1, Cond.selects RX1 yX1_comesTo yX1_comesTo, Cond.code yX1_comesTo cX1_comesTo 3 (some .boolean)]
def wsL_isOnTrack_r2 : List Cond := [Cond.fieldLink RX1 21 "StreetIndex$Track" "length" "I", Cond.fieldLink RX1 9 "StreetIndex$Track" "path" "[I"]
def wsL_isOnTrack : List Cond := .codeWith yL_isOnTrack cL_isOnTrack 6 (some .int) [(0, 19, 22, 21)] :: ((wsL_isOnTrack_r1 ++ wsL_isOnTrack_r2) ++ wsX40 ++ wsX00 ++ wsX10 ++ (vx_atS RX4 97 "java/lang/IndexOutOfBoundsException" ["java/lang/RuntimeException", "java/lang/Exception"]).filter goodWord)
def wsL_streetsOf : List Cond := .codeWith yL_streetsOf cL_streetsOf 5 (some .int) [(0, 10, 13, 21)] :: ([.classLink RL 21 "java/lang/IndexOutOfBoundsException", .methodLink RL 70 yX4_streetsOf, .instanceMethod yX4_streetsOf, .selects RX4 yX4_streetsOf yX4_streetsOf, .initialized RX4, .code yX4_streetsOf cX4_streetsOf 5 (some .int), .fieldLink RX4 37 "StreetIndex" "streetCount" "I", .fieldLink RX4 15 "StreetIndex" "plan" "[LStreetIndex$Street;", .methodLink RX4 55 yX4_checkSquare, .static yX4_checkSquare, .code yX4_checkSquare cX4_checkSquare 2 none, .classLink RX4 93 "java/lang/IndexOutOfBoundsException", .initialized "java/lang/IndexOutOfBoundsException", .instanceMethod yX1_covers, .initialized RX1, .selects RX1 yX1_covers yX1_covers, .code yX1_covers cX1_covers 3 (some .boolean), .fieldLink RX1 18 "StreetIndex$Track" "rows" "[I"] ++ wsX40 ++ wsX00 ++ wsX10 ++ (vx_atS RX4 97 "java/lang/IndexOutOfBoundsException" ["java/lang/RuntimeException", "java/lang/Exception"]).filter goodWord)
def wsL_distance_r1 : List Cond := [Cond.classLink RL 21 "java/lang/IndexOutOfBoundsException", Cond.methodLink RL 73 yX4_distance, Cond.instanceMethod yX4_distance, Cond.selects RX4 yX4_distance yX4_distance, Cond.initialized RX4, Cond.code yX4_distance cX4_distance 5 (some .int), Cond.fieldLink RX4 15 "StreetIndex" "plan" "[LStreetIndex$Street;", Cond.methodLink RX4 51 yX4_checkStreet, Cond.instanceMethod yX4_checkStreet, Cond.selects RX4 yX4_checkStreet yX4_checkStreet, Cond.code yX4_checkStreet cX4_checkStreet 2 none, Cond.classLink RX4 93 "java/lang/IndexOutOfBoundsException", Cond.initialized "java/lang/IndexOutOfBoundsException", Cond.fieldLink RX4 37 "StreetIndex" "streetCount" "I", Cond.methodLink RX4 55 yX4_checkSquare, Cond.static yX4_checkSquare, Cond.code yX4_checkSquare cX4_checkSquare 2 none, Cond.instanceMethod yX1_nearestTo, Cond.initialized RX1, Cond.selects RX1 yX1_nearestTo yX1_nearestTo, Cond.code yX1_nearestTo cX1_nearestTo 6 (some .int), Cond.methodLink RX1 64 yX1_covers, Cond.instanceMethod yX1_covers, Cond.selects RX1 yX1_covers yX1_covers]
def wsL_distance_r2 : List Cond := [Cond.code yX1_covers cX1_covers 3 (some .boolean), Cond.fieldLink RX1 18 "StreetIndex$Track" "rows" "[I", Cond.static yX4_apart, Cond.code yX4_apart cX4_apart 3 (some .int), Cond.methodLink RX4 168 Lib.Math.abs.name, Cond.static Lib.Math.abs.name, Cond.initialized "java/lang/Math", Cond.code Lib.Math.abs.name Lib.Math.abs.code 1 (some .int), Cond.methodLink RX4 173 Lib.Math.max.name, Cond.static Lib.Math.max.name, Cond.code Lib.Math.max.name Lib.Math.max.code 2 (some .int), Cond.methodLink RX4 144 yX4_apart]
def wsL_distance : List Cond := .codeWith yL_distance cL_distance 6 (some .int) [(0, 12, 15, 21)] :: ((wsL_distance_r1 ++ wsL_distance_r2) ++ wsX40 ++ wsX00 ++ wsX10 ++ (vx_atS RX4 97 "java/lang/IndexOutOfBoundsException" ["java/lang/RuntimeException", "java/lang/Exception"]).filter goodWord)
def wsL_nearest_r1 : List Cond := [Cond.classLink RL 21 "java/lang/IndexOutOfBoundsException", Cond.methodLink RL 76 yX4_nearest, Cond.instanceMethod yX4_nearest, Cond.selects RX4 yX4_nearest yX4_nearest, Cond.initialized RX4, Cond.code yX4_nearest cX4_nearest 4 (some .int), Cond.fieldLink RX4 15 "StreetIndex" "plan" "[LStreetIndex$Street;", Cond.methodLink RX4 51 yX4_checkStreet, Cond.instanceMethod yX4_checkStreet, Cond.selects RX4 yX4_checkStreet yX4_checkStreet, Cond.code yX4_checkStreet cX4_checkStreet 2 none, Cond.classLink RX4 93 "java/lang/IndexOutOfBoundsException", Cond.initialized "java/lang/IndexOutOfBoundsException", Cond.fieldLink RX4 37 "StreetIndex" "streetCount" "I", Cond.methodLink RX4 55 yX4_checkSquare, Cond.static yX4_checkSquare, Cond.code yX4_checkSquare cX4_checkSquare 2 none, Cond.instanceMethod yX1_nearestTo, Cond.initialized RX1, Cond.selects RX1 yX1_nearestTo yX1_nearestTo, Cond.code yX1_nearestTo cX1_nearestTo 6 (some .int), Cond.methodLink RX1 64 yX1_covers, Cond.instanceMethod yX1_covers, Cond.selects RX1 yX1_covers yX1_covers]
def wsL_nearest_r2 : List Cond := [Cond.code yX1_covers cX1_covers 3 (some .boolean), Cond.fieldLink RX1 18 "StreetIndex$Track" "rows" "[I", Cond.static yX4_apart, Cond.code yX4_apart cX4_apart 3 (some .int), Cond.methodLink RX4 168 Lib.Math.abs.name, Cond.static Lib.Math.abs.name, Cond.initialized "java/lang/Math", Cond.code Lib.Math.abs.name Lib.Math.abs.code 1 (some .int), Cond.methodLink RX4 173 Lib.Math.max.name, Cond.static Lib.Math.max.name, Cond.code Lib.Math.max.name Lib.Math.max.code 2 (some .int)]
def wsL_nearest : List Cond := .codeWith yL_nearest cL_nearest 6 (some .int) [(0, 12, 15, 21)] :: ((wsL_nearest_r1 ++ wsL_nearest_r2) ++ wsX40 ++ wsX00 ++ wsX10 ++ (vx_atS RX4 97 "java/lang/IndexOutOfBoundsException" ["java/lang/RuntimeException", "java/lang/Exception"]).filter goodWord)
def wsL_walk_r1 : List Cond := [Cond.classLink RL 21 "java/lang/IndexOutOfBoundsException", Cond.methodLink RL 79 yX4_walk, Cond.instanceMethod yX4_walk, Cond.selects RX4 yX4_walk yX4_walk, Cond.initialized RX4, Cond.code yX4_walk cX4_walk 5 (some .int), Cond.fieldLink RX4 28 "StreetIndex" "walks" "LStreetIndex$Walks;", Cond.fieldLink RX4 15 "StreetIndex" "plan" "[LStreetIndex$Street;", Cond.fieldLink RX4 37 "StreetIndex" "streetCount" "I", Cond.methodLink RX4 55 yX4_checkSquare, Cond.static yX4_checkSquare, Cond.code yX4_checkSquare cX4_checkSquare 2 none, Cond.classLink RX4 93 "java/lang/IndexOutOfBoundsException", Cond.initialized "java/lang/IndexOutOfBoundsException", Cond.methodLink RX4 134 yX4_squareOf, Cond.static yX4_squareOf, Cond.code yX4_squareOf cX4_squareOf 2 (some .int), Cond.instanceMethod yX2_spread, Cond.initialized RX2, Cond.selects RX2 yX2_spread yX2_spread, Cond.code yX2_spread cX2_spread 6 (some .int), Cond.fieldLink RX2 15 "StreetIndex$Walks" "steps" "[I", Cond.fieldLink RX2 18 "StreetIndex$Walks" "reached" "[I", Cond.methodLink RX2 21 yX2_findExits]
def wsL_walk_r2 : List Cond := [Cond.instanceMethod yX2_findExits, Cond.selects RX2 yX2_findExits yX2_findExits, Cond.code yX2_findExits cX2_findExits 4 none, Cond.fieldLink RX2 9 "StreetIndex$Walks" "exits" "[I", Cond.methodLink RX2 25 yJ7_fill_53178, Cond.static yJ7_fill_53178, Cond.initialized RJ7, Cond.code yJ7_fill_53178 cJ7_fill_53178 4 none, Cond.methodLink RX2 49 yX2_addExits, Cond.instanceMethod yX2_addExits, Cond.selects RX2 yX2_addExits yX2_addExits, Cond.code yX2_addExits cX2_addExits 6 none, Cond.methodLink RX2 31 yX2_stepFrom, Cond.instanceMethod yX2_stepFrom, Cond.selects RX2 yX2_stepFrom yX2_stepFrom, Cond.code yX2_stepFrom cX2_stepFrom 6 (some .int), Cond.methodLink RX2 35 yX2_isNew, Cond.instanceMethod yX2_isNew, Cond.selects RX2 yX2_isNew yX2_isNew, Cond.code yX2_isNew cX2_isNew 2 (some .boolean), Cond.instanceMethod yX2_stepsOf, Cond.selects RX2 yX2_stepsOf yX2_stepsOf, Cond.code yX2_stepsOf cX2_stepsOf 2 (some .int)]
def wsL_walk : List Cond := .codeWith yL_walk cL_walk 7 (some .int) [(0, 14, 17, 21)] :: ((wsL_walk_r1 ++ wsL_walk_r2) ++ wsX40 ++ wsX20 ++ wsX00 ++ wsX10 ++ (vx_atS RX4 97 "java/lang/IndexOutOfBoundsException" ["java/lang/RuntimeException", "java/lang/Exception"]).filter goodWord)
def wsL_walkByRounds_r1 : List Cond := [Cond.classLink RL 21 "java/lang/IndexOutOfBoundsException", Cond.methodLink RL 83 yX4_walkByRounds, Cond.instanceMethod yX4_walkByRounds, Cond.selects RX4 yX4_walkByRounds yX4_walkByRounds, Cond.initialized RX4, Cond.code yX4_walkByRounds cX4_walkByRounds 5 (some .int), Cond.fieldLink RX4 28 "StreetIndex" "walks" "LStreetIndex$Walks;", Cond.fieldLink RX4 15 "StreetIndex" "plan" "[LStreetIndex$Street;", Cond.fieldLink RX4 37 "StreetIndex" "streetCount" "I", Cond.methodLink RX4 55 yX4_checkSquare, Cond.static yX4_checkSquare, Cond.code yX4_checkSquare cX4_checkSquare 2 none, Cond.classLink RX4 93 "java/lang/IndexOutOfBoundsException", Cond.initialized "java/lang/IndexOutOfBoundsException", Cond.methodLink RX4 134 yX4_squareOf, Cond.static yX4_squareOf, Cond.code yX4_squareOf cX4_squareOf 2 (some .int), Cond.instanceMethod yX2_tellBackwards, Cond.initialized RX2, Cond.selects RX2 yX2_tellBackwards yX2_tellBackwards, Cond.code yX2_tellBackwards cX2_tellBackwards 7 none, Cond.fieldLink RX2 15 "StreetIndex$Walks" "steps" "[I", Cond.methodLink RX2 25 yJ7_fill_53178, Cond.static yJ7_fill_53178]
def wsL_walkByRounds_r2 : List Cond := [Cond.initialized RJ7, Cond.code yJ7_fill_53178 cJ7_fill_53178 4 none, Cond.methodLink RX2 62 yX2_tellAlong, Cond.instanceMethod yX2_tellAlong, Cond.selects RX2 yX2_tellAlong yX2_tellAlong, Cond.code yX2_tellAlong cX2_tellAlong 5 (some .boolean), Cond.methodLink RX2 66 yX2_tell, Cond.instanceMethod yX2_tell, Cond.selects RX2 yX2_tell yX2_tell, Cond.code yX2_tell cX2_tell 3 (some .boolean), Cond.instanceMethod yX2_stepsOf, Cond.selects RX2 yX2_stepsOf yX2_stepsOf, Cond.code yX2_stepsOf cX2_stepsOf 2 (some .int)]
def wsL_walkByRounds : List Cond := .codeWith yL_walkByRounds cL_walkByRounds 7 (some .int) [(0, 14, 17, 21)] :: ((wsL_walkByRounds_r1 ++ wsL_walkByRounds_r2) ++ wsX40 ++ wsX20 ++ wsX00 ++ wsX10 ++ (vx_atS RX4 97 "java/lang/IndexOutOfBoundsException" ["java/lang/RuntimeException", "java/lang/Exception"]).filter goodWord)
def wsL_reachable_r1 : List Cond := [Cond.classLink RL 21 "java/lang/IndexOutOfBoundsException", Cond.methodLink RL 86 yX4_reachable, Cond.instanceMethod yX4_reachable, Cond.selects RX4 yX4_reachable yX4_reachable, Cond.initialized RX4, Cond.code yX4_reachable cX4_reachable 3 (some .int), Cond.fieldLink RX4 28 "StreetIndex" "walks" "LStreetIndex$Walks;", Cond.fieldLink RX4 15 "StreetIndex" "plan" "[LStreetIndex$Street;", Cond.fieldLink RX4 37 "StreetIndex" "streetCount" "I", Cond.methodLink RX4 55 yX4_checkSquare, Cond.static yX4_checkSquare, Cond.code yX4_checkSquare cX4_checkSquare 2 none, Cond.classLink RX4 93 "java/lang/IndexOutOfBoundsException", Cond.initialized "java/lang/IndexOutOfBoundsException", Cond.methodLink RX4 134 yX4_squareOf, Cond.static yX4_squareOf, Cond.code yX4_squareOf cX4_squareOf 2 (some .int), Cond.instanceMethod yX2_spread, Cond.initialized RX2, Cond.selects RX2 yX2_spread yX2_spread, Cond.code yX2_spread cX2_spread 6 (some .int), Cond.fieldLink RX2 15 "StreetIndex$Walks" "steps" "[I", Cond.fieldLink RX2 18 "StreetIndex$Walks" "reached" "[I", Cond.methodLink RX2 21 yX2_findExits]
def wsL_reachable_r2 : List Cond := [Cond.instanceMethod yX2_findExits, Cond.selects RX2 yX2_findExits yX2_findExits, Cond.code yX2_findExits cX2_findExits 4 none, Cond.fieldLink RX2 9 "StreetIndex$Walks" "exits" "[I", Cond.methodLink RX2 25 yJ7_fill_53178, Cond.static yJ7_fill_53178, Cond.initialized RJ7, Cond.code yJ7_fill_53178 cJ7_fill_53178 4 none, Cond.methodLink RX2 49 yX2_addExits, Cond.instanceMethod yX2_addExits, Cond.selects RX2 yX2_addExits yX2_addExits, Cond.code yX2_addExits cX2_addExits 6 none, Cond.methodLink RX2 31 yX2_stepFrom, Cond.instanceMethod yX2_stepFrom, Cond.selects RX2 yX2_stepFrom yX2_stepFrom, Cond.code yX2_stepFrom cX2_stepFrom 6 (some .int), Cond.methodLink RX2 35 yX2_isNew, Cond.instanceMethod yX2_isNew, Cond.selects RX2 yX2_isNew yX2_isNew, Cond.code yX2_isNew cX2_isNew 2 (some .boolean)]
def wsL_reachable : List Cond := .codeWith yL_reachable cL_reachable 5 (some .int) [(0, 10, 13, 21)] :: ((wsL_reachable_r1 ++ wsL_reachable_r2) ++ wsX40 ++ wsX20 ++ wsX00 ++ wsX10 ++ (vx_atS RX4 97 "java/lang/IndexOutOfBoundsException" ["java/lang/RuntimeException", "java/lang/Exception"]).filter goodWord)
def wsL_law0_r1 : List Cond := [Cond.classLink RL 8 RX4, Cond.instantiable RX4 6, Cond.initialized RX4, Cond.classLink RL 90 RX5, Cond.instantiable RX5 17, Cond.initialized RX5, Cond.arrayClass .long, Cond.methodLink RL 89 yX4_init, Cond.instanceMethod yX4_init, Cond.code yX4_init cX4_init 2 none, Cond.methodLink RX4 3 objectInit, Cond.instanceMethod objectInit, Cond.code objectInit ⟨#[0xb1]⟩ 1 none, Cond.arrayClass .int, Cond.fieldLink RX4 9 "StreetIndex" "kinds" "[I", Cond.classLink RX4 13 RX0, Cond.fieldLink RX4 15 "StreetIndex" "plan" "[LStreetIndex$Street;", Cond.fieldLink RX4 19 "StreetIndex" "oneKey" "[I", Cond.fieldLink RX4 22 "StreetIndex" "otherKey" "[I", Cond.classLink RX4 25 RX2, Cond.instantiable RX2 3, Cond.initialized RX2, Cond.fieldLink RX4 28 "StreetIndex" "walks" "LStreetIndex$Walks;", Cond.instantiable RX0 4]
def wsL_law0_r2 : List Cond := [Cond.initialized RX0, Cond.instanceMethod yX2_init, Cond.code yX2_init cX2_init 1 none, Cond.methodLink RX2 3 objectInit, Cond.fieldLink RX2 9 "StreetIndex$Walks" "exits" "[I", Cond.fieldLink RX2 15 "StreetIndex$Walks" "steps" "[I", Cond.fieldLink RX2 18 "StreetIndex$Walks" "reached" "[I", Cond.instanceMethod yX0_init, Cond.code yX0_init cX0_init 1 none, Cond.methodLink RX0 3 objectInit, Cond.fieldLink RX0 9 "StreetIndex$Street" "words" "[I", Cond.classLink RX0 15 RX1, Cond.instantiable RX1 5, Cond.initialized RX1, Cond.fieldLink RX0 18 "StreetIndex$Street" "track" "LStreetIndex$Track;", Cond.instanceMethod yX1_init, Cond.code yX1_init cX1_init 1 none, Cond.methodLink RX1 3 objectInit, Cond.fieldLink RX1 9 "StreetIndex$Track" "path" "[I", Cond.fieldLink RX1 15 "StreetIndex$Track" "lengths" "[I", Cond.fieldLink RX1 18 "StreetIndex$Track" "rows" "[I", Cond.methodLink RL 92 yX5_init, Cond.instanceMethod yX5_init, Cond.code yX5_init cX5_init 2 none]
def wsL_law0_r3 : List Cond := [Cond.methodLink RX5 1 objectInit, Cond.fieldLink RX5 7 "StreetIndexModel" "letters" "[I", Cond.fieldLink RX5 13 "StreetIndexModel" "kinds" "[I", Cond.fieldLink RX5 16 "StreetIndexModel" "names" "[I", Cond.fieldLink RX5 19 "StreetIndexModel" "sizes" "[I", Cond.fieldLink RX5 22 "StreetIndexModel" "points" "[I", Cond.fieldLink RX5 25 "StreetIndexModel" "many" "[I", Cond.arrayClass .boolean, Cond.fieldLink RX5 28 "StreetIndexModel" "oneWay" "[Z", Cond.fieldLink RX5 32 "StreetIndexModel" "track" "[I", Cond.fieldLink RX5 35 "StreetIndexModel" "on" "[Z", Cond.fieldLink RX5 38 "StreetIndexModel" "key" "[I", Cond.fieldLink RX5 41 "StreetIndexModel" "key2" "[I", Cond.fieldLink RX5 44 "StreetIndexModel" "line" "[I", Cond.fieldLink RX5 47 "StreetIndexModel" "steps" "[I", Cond.methodLink RX5 50 yX5_spell, Cond.instanceMethod yX5_spell, Cond.selects RX5 yX5_spell yX5_spell, Cond.code yX5_spell cX5_spell 9 none, Cond.methodLink RL 93 yL_addStreet, Cond.static yL_addStreet, Cond.initialized RL, Cond.codeWith yL_addStreet cL_addStreet 5 (some .int) [(0, 10, 13, 13), (0, 10, 17, 15)], Cond.classLink RL 13 "java/lang/IllegalArgumentException"]
def wsL_law0_r4 : List Cond := [Cond.methodLink RL 7 yX4_addStreet, Cond.instanceMethod yX4_addStreet, Cond.selects RX4 yX4_addStreet yX4_addStreet, Cond.code yX4_addStreet cX4_addStreet 3 (some .int), Cond.classLink RX4 41 "java/lang/IllegalStateException", Cond.initialized "java/lang/IllegalStateException", Cond.fieldLink RX4 37 "StreetIndex" "streetCount" "I", Cond.methodLink RX4 33 yX4_checkName, Cond.static yX4_checkName, Cond.code yX4_checkName cX4_checkName 3 none, Cond.classLink RX4 68 "java/lang/IllegalArgumentException", Cond.initialized "java/lang/IllegalArgumentException", Cond.methodLink RX4 165 yX4_wordOf, Cond.static yX4_wordOf, Cond.code yX4_wordOf cX4_wordOf 2 (some .int), Cond.instanceMethod yX0_takeName, Cond.selects RX0 yX0_takeName yX0_takeName, Cond.code yX0_takeName cX0_takeName 4 none, Cond.fieldLink RX0 26 "StreetIndex$Street" "wordCount" "I", Cond.methodLink RL 98 yX5_addStreet, Cond.instanceMethod yX5_addStreet, Cond.selects RX5 yX5_addStreet yX5_addStreet, Cond.code yX5_addStreet cX5_addStreet 3 (some .int), Cond.fieldLink RX5 58 "StreetIndexModel" "streets" "I"]
def wsL_law0_r5 : List Cond := [Cond.fieldLink RX5 54 "StreetIndexModel" "last" "I", Cond.methodLink RX5 90 yX5_isName, Cond.static yX5_isName, Cond.code yX5_isName cX5_isName 4 (some .boolean), Cond.methodLink RX5 61 yX5_in, Cond.static yX5_in, Cond.code yX5_in cX5_in 3 (some .boolean), Cond.methodLink RX5 93 yX5_gives, Cond.instanceMethod yX5_gives, Cond.selects RX5 yX5_gives yX5_gives, Cond.code yX5_gives cX5_gives 5 none, Cond.methodLink RL 99 yX5_thrown, Cond.instanceMethod yX5_thrown, Cond.selects RX5 yX5_thrown yX5_thrown, Cond.code yX5_thrown cX5_thrown 1 (some .int), Cond.methodLink RL 103 yL_addPoint, Cond.static yL_addPoint, Cond.codeWith yL_addPoint cL_addPoint 6 (some .int) [(0, 12, 15, 21), (0, 12, 19, 13), (0, 12, 23, 15)], Cond.classLink RL 21 "java/lang/IndexOutOfBoundsException", Cond.methodLink RL 17 yX4_addPoint, Cond.instanceMethod yX4_addPoint, Cond.selects RX4 yX4_addPoint yX4_addPoint, Cond.code yX4_addPoint cX4_addPoint 5 (some .int), Cond.methodLink RX4 51 yX4_checkStreet]
def wsL_law0_r6 : List Cond := [Cond.instanceMethod yX4_checkStreet, Cond.selects RX4 yX4_checkStreet yX4_checkStreet, Cond.code yX4_checkStreet cX4_checkStreet 2 none, Cond.classLink RX4 93 "java/lang/IndexOutOfBoundsException", Cond.initialized "java/lang/IndexOutOfBoundsException", Cond.methodLink RX4 55 yX4_checkSquare, Cond.static yX4_checkSquare, Cond.code yX4_checkSquare cX4_checkSquare 2 none, Cond.instanceMethod yX1_canGoTo, Cond.selects RX1 yX1_canGoTo yX1_canGoTo, Cond.code yX1_canGoTo cX1_canGoTo 7 (some .boolean), Cond.fieldLink RX1 21 "StreetIndex$Track" "length" "I", Cond.methodLink RX1 25 Lib.Math.abs.name, Cond.static Lib.Math.abs.name, Cond.initialized "java/lang/Math", Cond.code Lib.Math.abs.name Lib.Math.abs.code 1 (some .int), Cond.instanceMethod yX1_goTo, Cond.selects RX1 yX1_goTo yX1_goTo, Cond.code yX1_goTo cX1_goTo 3 none, Cond.fieldLink RX1 39 "StreetIndex$Track" "points" "I", Cond.methodLink RX1 31 yX1_addSquare, Cond.instanceMethod yX1_addSquare, Cond.selects RX1 yX1_addSquare yX1_addSquare, Cond.code yX1_addSquare cX1_addSquare 3 none]
def wsL_law0_r7 : List Cond := [Cond.static yX4_squareOf, Cond.code yX4_squareOf cX4_squareOf 2 (some .int), Cond.methodLink RX1 35 yX1_goStraight, Cond.instanceMethod yX1_goStraight, Cond.selects RX1 yX1_goStraight yX1_goStraight, Cond.code yX1_goStraight cX1_goStraight 10 none, Cond.static yX4_sign, Cond.code yX4_sign cX4_sign 1 (some .int), Cond.static yX4_apart, Cond.code yX4_apart cX4_apart 3 (some .int), Cond.methodLink RX4 168 Lib.Math.abs.name, Cond.methodLink RX4 173 Lib.Math.max.name, Cond.static Lib.Math.max.name, Cond.code Lib.Math.max.name Lib.Math.max.code 2 (some .int), Cond.methodLink RL 106 yX5_addPoint, Cond.instanceMethod yX5_addPoint, Cond.selects RX5 yX5_addPoint yX5_addPoint, Cond.code yX5_addPoint cX5_addPoint 10 (some .int), Cond.methodLink RX5 97 yX5_isStreet, Cond.instanceMethod yX5_isStreet, Cond.selects RX5 yX5_isStreet yX5_isStreet, Cond.code yX5_isStreet cX5_isStreet 2 (some .boolean), Cond.methodLink RX5 101 yX5_isSquare, Cond.static yX5_isSquare]
def wsL_law0_r8 : List Cond := [Cond.code yX5_isSquare cX5_isSquare 2 (some .boolean), Cond.methodLink RX5 104 yX5_goes, Cond.instanceMethod yX5_goes, Cond.selects RX5 yX5_goes yX5_goes, Cond.code yX5_goes cX5_goes 4 (some .boolean), Cond.methodLink RX5 108 yX5_tracked, Cond.instanceMethod yX5_tracked, Cond.selects RX5 yX5_tracked yX5_tracked, Cond.code yX5_tracked cX5_tracked 2 (some .int), Cond.fieldLink RX5 80 "StreetIndexModel" "length" "I", Cond.methodLink RX5 86 yX5_tracks, Cond.instanceMethod yX5_tracks, Cond.selects RX5 yX5_tracks yX5_tracks, Cond.code yX5_tracks cX5_tracks 5 none, Cond.methodLink RX5 83 yX5_way, Cond.static yX5_way, Cond.code yX5_way cX5_way 2 (some .int), Cond.methodLink RL 107 yL_dropPoint, Cond.static yL_dropPoint, Cond.codeWith yL_dropPoint cL_dropPoint 4 (some .int) [(0, 9, 12, 21), (0, 9, 15, 15)], Cond.methodLink RL 23 yX4_dropPoint, Cond.instanceMethod yX4_dropPoint, Cond.selects RX4 yX4_dropPoint yX4_dropPoint, Cond.code yX4_dropPoint cX4_dropPoint 3 (some .int)]
def wsL_law0_r9 : List Cond := [Cond.instanceMethod yX1_goBack, Cond.selects RX1 yX1_goBack yX1_goBack, Cond.code yX1_goBack cX1_goBack 2 none, Cond.methodLink RX1 53 yJ7_fill_53178, Cond.static yJ7_fill_53178, Cond.initialized RJ7, Cond.code yJ7_fill_53178 cJ7_fill_53178 4 none, Cond.methodLink RL 110 yX5_dropPoint, Cond.instanceMethod yX5_dropPoint, Cond.selects RX5 yX5_dropPoint yX5_dropPoint, Cond.code yX5_dropPoint cX5_dropPoint 3 (some .int), Cond.methodLink RL 111 yL_setOneWay, Cond.static yL_setOneWay, Cond.codeWith yL_setOneWay cL_setOneWay 5 (some .int) [(0, 17, 20, 21)], Cond.methodLink RL 27 yX4_setOneWay, Cond.instanceMethod yX4_setOneWay, Cond.selects RX4 yX4_setOneWay yX4_setOneWay, Cond.code yX4_setOneWay cX4_setOneWay 4 (some .boolean), Cond.methodLink RL 114 yX5_setOneWay, Cond.instanceMethod yX5_setOneWay, Cond.selects RX5 yX5_setOneWay yX5_setOneWay, Cond.code yX5_setOneWay cX5_setOneWay 4 (some .boolean), Cond.methodLink RL 115 yL_rename, Cond.static yL_rename]
def wsL_law0_r10 : List Cond := [Cond.codeWith yL_rename cL_rename 5 (some .int) [(0, 7, 10, 21), (0, 7, 14, 13)], Cond.methodLink RL 31 yX4_rename, Cond.instanceMethod yX4_rename, Cond.selects RX4 yX4_rename yX4_rename, Cond.code yX4_rename cX4_rename 4 none, Cond.methodLink RL 118 yX5_rename, Cond.instanceMethod yX5_rename, Cond.selects RX5 yX5_rename yX5_rename, Cond.code yX5_rename cX5_rename 4 none, Cond.methodLink RL 119 yL_setKind, Cond.static yL_setKind, Cond.codeWith yL_setKind cL_setKind 5 (some .int) [(0, 10, 13, 21), (0, 10, 17, 13)], Cond.methodLink RL 35 yX4_setKind, Cond.instanceMethod yX4_setKind, Cond.selects RX4 yX4_setKind yX4_setKind, Cond.code yX4_setKind cX4_setKind 4 (some .int), Cond.methodLink RL 121 yX5_setKind, Cond.instanceMethod yX5_setKind, Cond.selects RX5 yX5_setKind yX5_setKind, Cond.code yX5_setKind cX5_setKind 4 (some .int), Cond.methodLink RL 122 yX4_streets, Cond.instanceMethod yX4_streets, Cond.selects RX4 yX4_streets yX4_streets, Cond.code yX4_streets cX4_streets 1 (some .int)]
def wsL_law0_r11 : List Cond := [Cond.methodLink RL 125 yX5_streets, Cond.instanceMethod yX5_streets, Cond.selects RX5 yX5_streets yX5_streets, Cond.code yX5_streets cX5_streets 1 (some .int), Cond.methodLink RL 126 yL_streetAt, Cond.static yL_streetAt, Cond.codeWith yL_streetAt cL_streetAt 4 (some .int) [(0, 9, 12, 21)], Cond.methodLink RL 38 yX4_streetAt, Cond.instanceMethod yX4_streetAt, Cond.selects RX4 yX4_streetAt yX4_streetAt, Cond.code yX4_streetAt cX4_streetAt 3 (some .int), Cond.methodLink RX4 102 yX4_countAhead, Cond.instanceMethod yX4_countAhead, Cond.selects RX4 yX4_countAhead yX4_countAhead, Cond.code yX4_countAhead cX4_countAhead 4 (some .int), Cond.methodLink RX4 176 yX4_indexOrder, Cond.instanceMethod yX4_indexOrder, Cond.selects RX4 yX4_indexOrder yX4_indexOrder, Cond.code yX4_indexOrder cX4_indexOrder 4 (some .int), Cond.methodLink RX4 106 yX4_keyOrder, Cond.instanceMethod yX4_keyOrder, Cond.selects RX4 yX4_keyOrder yX4_keyOrder, Cond.code yX4_keyOrder cX4_keyOrder 5 (some .int), Cond.instanceMethod yX0_putKey]
def wsL_law0_r12 : List Cond := [Cond.selects RX0 yX0_putKey yX0_putKey, Cond.code yX0_putKey cX0_putKey 5 (some .int), Cond.methodLink RX0 30 yX0_putWordsOf, Cond.instanceMethod yX0_putWordsOf, Cond.selects RX0 yX0_putWordsOf yX0_putWordsOf, Cond.code yX0_putWordsOf cX0_putWordsOf 7 (some .int), Cond.methodLink RX4 190 yX4_wordsOrder, Cond.static yX4_wordsOrder, Cond.code yX4_wordsOrder cX4_wordsOrder 7 (some .int), Cond.methodLink RX4 200 Lib.Math.min.name, Cond.static Lib.Math.min.name, Cond.code Lib.Math.min.name Lib.Math.min.code 2 (some .int), Cond.methodLink RX4 213 yX4_lettersOrder, Cond.static yX4_lettersOrder, Cond.code yX4_lettersOrder cX4_lettersOrder 4 (some .int), Cond.methodLink RX4 217 yJ0_length_8abf5, Cond.instanceMethod yJ0_length_8abf5, Cond.selects RJ0 yJ0_length_8abf5 yJ0_length_8abf5, Cond.initialized RJ0, Cond.code yJ0_length_8abf5 cJ0_length_8abf5 1 (some .int), Cond.fieldLink RJ0 9 "java/lang/String" "value" "[B", Cond.methodLink RJ0 335 yJ0_coder_7d493, Cond.instanceMethod yJ0_coder_7d493, Cond.selects RJ0 yJ0_coder_7d493 yJ0_coder_7d493]
def wsL_law0_r13 : List Cond := [Cond.code yJ0_coder_7d493 cJ0_coder_7d493 1 (some .byte), Cond.fieldLink RJ0 38 "java/lang/String" "COMPACT_STRINGS" "Z", Cond.fieldLink RJ0 15 "java/lang/String" "coder" "B", Cond.methodLink RX4 220 yJ0_charAt_5068e, Cond.instanceMethod yJ0_charAt_5068e, Cond.selects RJ0 yJ0_charAt_5068e yJ0_charAt_5068e, Cond.code yJ0_charAt_5068e cJ0_charAt_5068e 2 (some .char), Cond.methodLink RJ0 492 yJ0_isLatin1_aae02, Cond.instanceMethod yJ0_isLatin1_aae02, Cond.selects RJ0 yJ0_isLatin1_aae02 yJ0_isLatin1_aae02, Cond.code yJ0_isLatin1_aae02 cJ0_isLatin1_aae02 1 (some .boolean), Cond.methodLink RJ0 495 yJ1_charAt_3b067, Cond.static yJ1_charAt_3b067, Cond.initialized RJ1, Cond.code yJ1_charAt_3b067 cJ1_charAt_3b067 2 (some .char), Cond.methodLink RJ1 9 yJ0_checkIndex_df160, Cond.static yJ0_checkIndex_df160, Cond.code yJ0_checkIndex_df160 cJ0_checkIndex_df160 2 none, Cond.fieldLink RJ0 1053 "jdk/internal/util/Preconditions" "SIOOBE_FORMATTER" "Ljava/util/function/BiFunction;", Cond.methodLink RJ0 1059 yJ3_checkIndex_8e157, Cond.static yJ3_checkIndex_8e157, Cond.initialized RJ3, Cond.code yJ3_checkIndex_8e157 cJ3_checkIndex_8e157 3 (some .int), Cond.methodLink RJ0 498 yJ2_charAt_3b067]
def wsL_law0_r14 : List Cond := [Cond.static yJ2_charAt_3b067, Cond.initialized RJ2, Cond.code yJ2_charAt_3b067 cJ2_charAt_3b067 2 (some .char), Cond.methodLink RJ2 67 yJ2_checkIndex_2214a, Cond.static yJ2_checkIndex_2214a, Cond.code yJ2_checkIndex_2214a cJ2_checkIndex_2214a 2 none, Cond.methodLink RJ2 48 yJ2_length_9d52b, Cond.static yJ2_length_9d52b, Cond.code yJ2_length_9d52b cJ2_length_9d52b 1 (some .int), Cond.methodLink RJ2 414 yJ0_checkIndex_df160, Cond.methodLink RJ2 71 yJ2_getChar_3b067, Cond.static yJ2_getChar_3b067, Cond.code yJ2_getChar_3b067 cJ2_getChar_3b067 2 (some .char), Cond.fieldLink RJ2 44 "java/lang/StringUTF16" "$assertionsDisabled" "Z", Cond.fieldLink RJ2 59 "java/lang/StringUTF16" "HI_BYTE_SHIFT" "I", Cond.fieldLink RJ2 63 "java/lang/StringUTF16" "LO_BYTE_SHIFT" "I", Cond.methodLink RX4 183 yX4_sign, Cond.methodLink RX4 179 yX4_nameOrder, Cond.static yX4_nameOrder, Cond.code yX4_nameOrder cX4_nameOrder 2 (some .int), Cond.methodLink RL 128 yX5_streetAt, Cond.instanceMethod yX5_streetAt, Cond.selects RX5 yX5_streetAt yX5_streetAt, Cond.code yX5_streetAt cX5_streetAt 3 (some .int)]
def wsL_law0_r15 : List Cond := [Cond.methodLink RX5 112 yX5_countAhead, Cond.instanceMethod yX5_countAhead, Cond.selects RX5 yX5_countAhead yX5_countAhead, Cond.code yX5_countAhead cX5_countAhead 4 (some .int), Cond.methodLink RX5 76 yX5_isAhead, Cond.instanceMethod yX5_isAhead, Cond.selects RX5 yX5_isAhead yX5_isAhead, Cond.code yX5_isAhead cX5_isAhead 5 (some .boolean), Cond.methodLink RX5 73 yX5_compareOf, Cond.instanceMethod yX5_compareOf, Cond.selects RX5 yX5_compareOf yX5_compareOf, Cond.code yX5_compareOf cX5_compareOf 7 (some .int), Cond.methodLink RX5 65 yX5_keyOf, Cond.instanceMethod yX5_keyOf, Cond.selects RX5 yX5_keyOf yX5_keyOf, Cond.code yX5_keyOf cX5_keyOf 6 (some .int), Cond.methodLink RX5 69 yX5_compareWords, Cond.instanceMethod yX5_compareWords, Cond.selects RX5 yX5_compareWords yX5_compareWords, Cond.code yX5_compareWords cX5_compareWords 5 (some .int), Cond.methodLink RL 129 yL_placeOf, Cond.static yL_placeOf, Cond.codeWith yL_placeOf cL_placeOf 4 (some .int) [(0, 9, 12, 21)], Cond.methodLink RL 41 yX4_placeOf]
def wsL_law0_r16 : List Cond := [Cond.instanceMethod yX4_placeOf, Cond.selects RX4 yX4_placeOf yX4_placeOf, Cond.code yX4_placeOf cX4_placeOf 2 (some .int), Cond.methodLink RL 131 yX5_placeOf, Cond.instanceMethod yX5_placeOf, Cond.selects RX5 yX5_placeOf yX5_placeOf, Cond.code yX5_placeOf cX5_placeOf 2 (some .int), Cond.methodLink RL 132 yL_compareKeys, Cond.static yL_compareKeys, Cond.codeWith yL_compareKeys cL_compareKeys 5 (some .int) [(0, 10, 13, 21)], Cond.methodLink RL 44 yX4_compareKeys, Cond.instanceMethod yX4_compareKeys, Cond.selects RX4 yX4_compareKeys yX4_compareKeys, Cond.code yX4_compareKeys cX4_compareKeys 3 (some .int), Cond.methodLink RL 134 yX5_compareKeys, Cond.instanceMethod yX5_compareKeys, Cond.selects RX5 yX5_compareKeys yX5_compareKeys, Cond.code yX5_compareKeys cX5_compareKeys 3 (some .int), Cond.methodLink RL 135 yL_lineLength, Cond.static yL_lineLength, Cond.codeWith yL_lineLength cL_lineLength 4 (some .int) [(0, 9, 12, 21)], Cond.methodLink RL 47 yX4_lineLength, Cond.instanceMethod yX4_lineLength, Cond.selects RX4 yX4_lineLength yX4_lineLength]
def wsL_law0_r17 : List Cond := [Cond.code yX4_lineLength cX4_lineLength 2 (some .int), Cond.methodLink RX4 110 yX4_lineOf, Cond.instanceMethod yX4_lineOf, Cond.selects RX4 yX4_lineOf yX4_lineOf, Cond.code yX4_lineOf cX4_lineOf 3 (some (.object "java/lang/StringBuilder")), Cond.classLink RX4 115 RJ4, Cond.instantiable RJ4 4, Cond.initialized RJ4, Cond.methodLink RX4 221 yJ4_init_da8c8, Cond.instanceMethod yJ4_init_da8c8, Cond.code yJ4_init_da8c8 cJ4_init_da8c8 1 none, Cond.methodLink RJ4 1 yJ5_init_d00df, Cond.instanceMethod yJ5_init_d00df, Cond.initialized RJ5, Cond.code yJ5_init_d00df cJ5_init_d00df 2 none, Cond.methodLink RJ5 3 objectInit, Cond.fieldLink RJ5 18 "java/lang/String" "COMPACT_STRINGS" "Z", Cond.arrayClass .byte, Cond.fieldLink RJ5 15 "java/lang/AbstractStringBuilder" "value" "[B", Cond.fieldLink RJ5 22 "java/lang/AbstractStringBuilder" "coder" "B", Cond.methodLink RJ5 26 yJ2_newBytesFor_77867, Cond.static yJ2_newBytesFor_77867, Cond.code yJ2_newBytesFor_77867 cJ2_newBytesFor_77867 1 (some (.array .byte)), Cond.methodLink RJ2 11 yJ2_newBytesLength_0f7a4]
def wsL_law0_r18 : List Cond := [Cond.static yJ2_newBytesLength_0f7a4, Cond.code yJ2_newBytesLength_0f7a4 cJ2_newBytesLength_0f7a4 1 (some .int), Cond.constant RJ2 20 (1073741823), Cond.methodLink RX4 222 yX4_appendName, Cond.instanceMethod yX4_appendName, Cond.selects RX4 yX4_appendName yX4_appendName, Cond.code yX4_appendName cX4_appendName 5 none, Cond.instanceMethod yX0_countMoved, Cond.selects RX0 yX0_countMoved yX0_countMoved, Cond.code yX0_countMoved cX0_countMoved 4 (some .int), Cond.methodLink RX4 238 yX4_appendWords, Cond.instanceMethod yX4_appendWords, Cond.selects RX4 yX4_appendWords yX4_appendWords, Cond.code yX4_appendWords cX4_appendWords 7 none, Cond.methodLink RX4 226 yJ4_append_cf468, Cond.instanceMethod yJ4_append_cf468, Cond.selects RJ4 yJ4_append_cf468 yJ4_append_cf468, Cond.code yJ4_append_cf468 cJ4_append_cf468 2 (some (.object "java/lang/StringBuilder")), Cond.methodLink RJ4 50 yJ5_append_3fe6f, Cond.sameMethod "java/lang/AbstractStringBuilder" "java/lang/AbstractStringBuilder" "append" "(C)Ljava/lang/AbstractStringBuilder;", Cond.superclass RJ4 RJ5, Cond.instanceMethod yJ5_append_3fe6f, Cond.code yJ5_append_3fe6f cJ5_append_3fe6f 2 (some (.object "java/lang/AbstractStringBuilder")), Cond.fieldLink RJ5 79 "java/lang/AbstractStringBuilder" "count" "I"]
def wsL_law0_r19 : List Cond := [Cond.methodLink RJ5 100 ⟨"java/lang/AbstractStringBuilder", "ensureCapacityInternal", "(I)V"⟩, Cond.sameMethod "java/lang/AbstractStringBuilder" "java/lang/AbstractStringBuilder" "ensureCapacityInternal" "(I)V", Cond.selects RJ4 ⟨"java/lang/AbstractStringBuilder", "ensureCapacityInternal", "(I)V"⟩ yJ5_ensureCapacityInternal_d00df, Cond.instanceMethod yJ5_ensureCapacityInternal_d00df, Cond.code yJ5_ensureCapacityInternal_d00df cJ5_ensureCapacityInternal_d00df 3 none, Cond.methodLink RJ5 104 ⟨"java/lang/AbstractStringBuilder", "newCapacity", "(I)I"⟩, Cond.sameMethod "java/lang/AbstractStringBuilder" "java/lang/AbstractStringBuilder" "newCapacity" "(I)I", Cond.selects RJ4 ⟨"java/lang/AbstractStringBuilder", "newCapacity", "(I)I"⟩ yJ5_newCapacity_0f7a4, Cond.instanceMethod yJ5_newCapacity_0f7a4, Cond.code yJ5_newCapacity_0f7a4 cJ5_newCapacity_0f7a4 6 (some .int), Cond.constant RJ5 39 (2147483647), Cond.methodLink RJ5 114 yJ8_newLength_cabcc, Cond.static yJ8_newLength_cabcc, Cond.initialized RJ8, Cond.code yJ8_newLength_cabcc cJ8_newLength_cabcc 4 (some .int), Cond.methodLink RJ8 194 Lib.Math.max.name, Cond.constant RJ8 200 (2147483639), Cond.methodLink RJ8 201 yJ8_hugeLength_7cf53, Cond.static yJ8_hugeLength_7cf53, Cond.code yJ8_hugeLength_7cf53 cJ8_hugeLength_7cf53 3 (some .int), Cond.methodLink RJ5 108 yJ7_copyOf_9075b, Cond.static yJ7_copyOf_9075b, Cond.code yJ7_copyOf_9075b cJ7_copyOf_9075b 3 (some (.array .byte)), Cond.methodLink RJ7 310 ⟨"[B", "clone", "()Ljava/lang/Object;"⟩]
def wsL_law0_r20 : List Cond := [Cond.sameMethod "[B" "java/lang/Object" "clone" "()Ljava/lang/Object;", Cond.native ⟨"java/lang/Object", "clone", "()Ljava/lang/Object;"⟩, Cond.instanceMethod ⟨"java/lang/Object", "clone", "()Ljava/lang/Object;"⟩, Cond.selects "[B" ⟨"[B", "clone", "()Ljava/lang/Object;"⟩ ⟨"java/lang/Object", "clone", "()Ljava/lang/Object;"⟩, Cond.classLink RJ7 311 "[B", Cond.methodLink RJ7 304 Lib.Math.min.name, Cond.methodLink RJ7 150 arraycopyName, Cond.native arraycopyName, Cond.static arraycopyName, Cond.initialized "java/lang/System", Cond.methodLink RJ5 83 ⟨"java/lang/AbstractStringBuilder", "isLatin1", "()Z"⟩, Cond.sameMethod "java/lang/AbstractStringBuilder" "java/lang/AbstractStringBuilder" "isLatin1" "()Z", Cond.selects RJ4 ⟨"java/lang/AbstractStringBuilder", "isLatin1", "()Z"⟩ yJ5_isLatin1_aae02, Cond.instanceMethod yJ5_isLatin1_aae02, Cond.code yJ5_isLatin1_aae02 cJ5_isLatin1_aae02 1 (some .boolean), Cond.methodLink RJ5 191 yJ1_canEncode_fc78d, Cond.static yJ1_canEncode_fc78d, Cond.code yJ1_canEncode_fc78d cJ1_canEncode_fc78d 1 (some .boolean), Cond.methodLink RJ5 195 ⟨"java/lang/AbstractStringBuilder", "inflate", "()V"⟩, Cond.sameMethod "java/lang/AbstractStringBuilder" "java/lang/AbstractStringBuilder" "inflate" "()V", Cond.selects RJ4 ⟨"java/lang/AbstractStringBuilder", "inflate", "()V"⟩ yJ5_inflate_da8c8, Cond.instanceMethod yJ5_inflate_da8c8, Cond.code yJ5_inflate_da8c8 cJ5_inflate_da8c8 2 none, Cond.methodLink RJ5 125 yJ1_inflate_0e8fd]
def wsL_law0_r21 : List Cond := [Cond.static yJ1_inflate_0e8fd, Cond.code yJ1_inflate_0e8fd cJ1_inflate_0e8fd 5 none, Cond.methodLink RJ1 240 yJ2_inflate_0e8fd, Cond.static yJ2_inflate_0e8fd, Cond.code yJ2_inflate_0e8fd cJ2_inflate_0e8fd 6 none, Cond.methodLink RJ2 173 yJ2_checkBoundsOffCount_d044e, Cond.static yJ2_checkBoundsOffCount_d044e, Cond.code yJ2_checkBoundsOffCount_d044e cJ2_checkBoundsOffCount_d044e 3 none, Cond.methodLink RJ2 419 yJ0_checkBoundsOffCount_cabcc, Cond.static yJ0_checkBoundsOffCount_cabcc, Cond.code yJ0_checkBoundsOffCount_cabcc cJ0_checkBoundsOffCount_cabcc 3 (some .int), Cond.methodLink RJ0 1065 yJ3_checkFromIndexSize_8c36e, Cond.static yJ3_checkFromIndexSize_8c36e, Cond.code yJ3_checkFromIndexSize_8c36e cJ3_checkFromIndexSize_8c36e 4 (some .int), Cond.methodLink RJ2 111 yJ2_putChar_b72d1, Cond.static yJ2_putChar_b72d1, Cond.code yJ2_putChar_b72d1 cJ2_putChar_b72d1 3 none, Cond.methodLink RJ5 197 yJ2_putCharSB_b72d1, Cond.static yJ2_putCharSB_b72d1, Cond.code yJ2_putCharSB_b72d1 cJ2_putCharSB_b72d1 3 none, Cond.methodLink RX4 244 yJ4_append_15ec4, Cond.instanceMethod yJ4_append_15ec4, Cond.selects RJ4 yJ4_append_15ec4 yJ4_append_15ec4, Cond.code yJ4_append_15ec4 cJ4_append_15ec4 2 (some (.object "java/lang/StringBuilder"))]
def wsL_law0_r22 : List Cond := [Cond.methodLink RJ4 29 yJ5_append_cf1ce, Cond.sameMethod "java/lang/AbstractStringBuilder" "java/lang/AbstractStringBuilder" "append" "(Ljava/lang/String;)Ljava/lang/AbstractStringBuilder;", Cond.instanceMethod yJ5_append_cf1ce, Cond.code yJ5_append_cf1ce cJ5_append_cf1ce 3 (some (.object "java/lang/AbstractStringBuilder")), Cond.methodLink RJ5 204 ⟨"java/lang/AbstractStringBuilder", "appendNull", "()Ljava/lang/AbstractStringBuilder;"⟩, Cond.sameMethod "java/lang/AbstractStringBuilder" "java/lang/AbstractStringBuilder" "appendNull" "()Ljava/lang/AbstractStringBuilder;", Cond.selects RJ4 ⟨"java/lang/AbstractStringBuilder", "appendNull", "()Ljava/lang/AbstractStringBuilder;"⟩ yJ5_appendNull_278bc, Cond.instanceMethod yJ5_appendNull_278bc, Cond.code yJ5_appendNull_278bc cJ5_appendNull_278bc 3 (some (.object "java/lang/AbstractStringBuilder")), Cond.methodLink RJ5 226 yJ2_putCharsAt_cd4e5, Cond.static yJ2_putCharsAt_cd4e5, Cond.code yJ2_putCharsAt_cd4e5 cJ2_putCharsAt_cd4e5 7 (some .int), Cond.methodLink RJ2 96 yJ2_checkBoundsBeginEnd_d044e, Cond.static yJ2_checkBoundsBeginEnd_d044e, Cond.code yJ2_checkBoundsBeginEnd_d044e cJ2_checkBoundsBeginEnd_d044e 3 none, Cond.methodLink RJ2 241 yJ0_checkBoundsBeginEnd_23922, Cond.static yJ0_checkBoundsBeginEnd_23922, Cond.code yJ0_checkBoundsBeginEnd_23922 cJ0_checkBoundsBeginEnd_23922 3 none, Cond.methodLink RJ0 1062 yJ3_checkFromToIndex_8c36e, Cond.static yJ3_checkFromToIndex_8c36e, Cond.code yJ3_checkFromToIndex_8c36e cJ3_checkFromToIndex_8c36e 4 (some .int), Cond.methodLink RJ5 32 yJ0_length_8abf5, Cond.methodLink RJ5 208 ⟨"java/lang/AbstractStringBuilder", "putStringAt", "(ILjava/lang/String;)V"⟩, Cond.sameMethod "java/lang/AbstractStringBuilder" "java/lang/AbstractStringBuilder" "putStringAt" "(ILjava/lang/String;)V"]
def wsL_law0_r23 : List Cond := [Cond.selects RJ4 ⟨"java/lang/AbstractStringBuilder", "putStringAt", "(ILjava/lang/String;)V"⟩ yJ5_putStringAt_47b60, Cond.instanceMethod yJ5_putStringAt_47b60, Cond.code yJ5_putStringAt_47b60 cJ5_putStringAt_47b60 3 none, Cond.methodLink RJ5 397 ⟨"java/lang/AbstractStringBuilder", "inflateIfNeededFor", "(Ljava/lang/String;)V"⟩, Cond.sameMethod "java/lang/AbstractStringBuilder" "java/lang/AbstractStringBuilder" "inflateIfNeededFor" "(Ljava/lang/String;)V", Cond.selects RJ4 ⟨"java/lang/AbstractStringBuilder", "inflateIfNeededFor", "(Ljava/lang/String;)V"⟩ yJ5_inflateIfNeededFor_a7421, Cond.instanceMethod yJ5_inflateIfNeededFor_a7421, Cond.code yJ5_inflateIfNeededFor_a7421 cJ5_inflateIfNeededFor_a7421 2 none, Cond.methodLink RJ5 40 yJ0_coder_7d493, Cond.methodLink RJ5 399 yJ0_getBytes_840e7, Cond.instanceMethod yJ0_getBytes_840e7, Cond.selects RJ0 yJ0_getBytes_840e7 yJ0_getBytes_840e7, Cond.code yJ0_getBytes_840e7 cJ0_getBytes_840e7 4 none, Cond.methodLink RJ0 212 arraycopyName, Cond.methodLink RJ0 106 yJ1_inflate_0e8fd, Cond.methodLink RX4 230 yX4_appendRuns, Cond.static yX4_appendRuns, Cond.code yX4_appendRuns cX4_appendRuns 4 none, Cond.instanceMethod yX1_beginsRun, Cond.selects RX1 yX1_beginsRun yX1_beginsRun, Cond.code yX1_beginsRun cX1_beginsRun 3 (some .boolean), Cond.methodLink RX1 64 yX1_covers, Cond.instanceMethod yX1_covers, Cond.selects RX1 yX1_covers yX1_covers]
def wsL_law0_r24 : List Cond := [Cond.code yX1_covers cX1_covers 3 (some .boolean), Cond.instanceMethod yX1_endOfRun, Cond.selects RX1 yX1_endOfRun yX1_endOfRun, Cond.code yX1_endOfRun cX1_endOfRun 4 (some .int), Cond.methodLink RX4 253 yX4_appendRun, Cond.static yX4_appendRun, Cond.code yX4_appendRun cX4_appendRun 4 none, Cond.methodLink RX4 257 yJ4_append_bf812, Cond.instanceMethod yJ4_append_bf812, Cond.selects RJ4 yJ4_append_bf812 yJ4_append_bf812, Cond.code yJ4_append_bf812 cJ4_append_bf812 2 (some (.object "java/lang/StringBuilder")), Cond.methodLink RJ4 53 yJ5_append_c97b9, Cond.sameMethod "java/lang/AbstractStringBuilder" "java/lang/AbstractStringBuilder" "append" "(I)Ljava/lang/AbstractStringBuilder;", Cond.instanceMethod yJ5_append_c97b9, Cond.code yJ5_append_c97b9 cJ5_append_c97b9 4 (some (.object "java/lang/AbstractStringBuilder")), Cond.methodLink RJ5 245 yJ6_stringSize_0f7a4, Cond.static yJ6_stringSize_0f7a4, Cond.initialized RJ6, Cond.code yJ6_stringSize_0f7a4 cJ6_stringSize_0f7a4 4 (some .int), Cond.methodLink RJ5 248 yJ6_getChars_ba4f3, Cond.static yJ6_getChars_ba4f3, Cond.code yJ6_getChars_ba4f3 cJ6_getChars_ba4f3 7 (some .int), Cond.fieldLink RJ6 83 "java/lang/Integer" "DigitOnes" "[B", Cond.fieldLink RJ6 87 "java/lang/Integer" "DigitTens" "[B"]
def wsL_law0_r25 : List Cond := [Cond.methodLink RJ5 251 yJ2_getChars_46870, Cond.static yJ2_getChars_46870, Cond.code yJ2_getChars_46870 cJ2_getChars_46870 5 (some .int), Cond.methodLink RJ2 393 yJ2_getChars_ba4f3, Cond.static yJ2_getChars_ba4f3, Cond.code yJ2_getChars_ba4f3 cJ2_getChars_ba4f3 7 (some .int), Cond.fieldLink RJ2 403 "java/lang/Integer" "DigitOnes" "[B", Cond.fieldLink RJ2 407 "java/lang/Integer" "DigitTens" "[B", Cond.methodLink RX4 114 yJ4_length_8abf5, Cond.instanceMethod yJ4_length_8abf5, Cond.selects RJ4 yJ4_length_8abf5 yJ4_length_8abf5, Cond.code yJ4_length_8abf5 cJ4_length_8abf5 1 (some .int), Cond.methodLink RJ4 343 yJ5_length_8abf5, Cond.sameMethod "java/lang/AbstractStringBuilder" "java/lang/AbstractStringBuilder" "length" "()I", Cond.instanceMethod yJ5_length_8abf5, Cond.code yJ5_length_8abf5 cJ5_length_8abf5 1 (some .int), Cond.methodLink RL 137 yX5_lineLength, Cond.instanceMethod yX5_lineLength, Cond.selects RX5 yX5_lineLength yX5_lineLength, Cond.code yX5_lineLength cX5_lineLength 2 (some .int), Cond.fieldLink RX5 115 "StreetIndexModel" "signs" "I", Cond.methodLink RX5 131 yX5_writeLine, Cond.instanceMethod yX5_writeLine, Cond.selects RX5 yX5_writeLine yX5_writeLine]
def wsL_law0_r26 : List Cond := [Cond.code yX5_writeLine cX5_writeLine 6 none, Cond.methodLink RX5 121 yX5_writes, Cond.instanceMethod yX5_writes, Cond.selects RX5 yX5_writes yX5_writes, Cond.code yX5_writes cX5_writes 8 none, Cond.methodLink RX5 118 yX5_sign, Cond.instanceMethod yX5_sign, Cond.selects RX5 yX5_sign yX5_sign, Cond.code yX5_sign cX5_sign 2 none, Cond.methodLink RX5 125 yX5_beginsRun, Cond.instanceMethod yX5_beginsRun, Cond.selects RX5 yX5_beginsRun yX5_beginsRun, Cond.code yX5_beginsRun cX5_beginsRun 2 (some .boolean), Cond.methodLink RX5 128 yX5_number, Cond.instanceMethod yX5_number, Cond.selects RX5 yX5_number yX5_number, Cond.code yX5_number cX5_number 2 none, Cond.methodLink RL 138 yL_lineChar, Cond.static yL_lineChar, Cond.codeWith yL_lineChar cL_lineChar 5 (some .int) [(0, 10, 13, 21)], Cond.methodLink RL 50 yX4_lineChar, Cond.instanceMethod yX4_lineChar, Cond.selects RX4 yX4_lineChar yX4_lineChar, Cond.code yX4_lineChar cX4_lineChar 4 (some .char)]
def wsL_law0_r27 : List Cond := [Cond.methodLink RX4 121 yJ4_charAt_5068e, Cond.instanceMethod yJ4_charAt_5068e, Cond.selects RJ4 yJ4_charAt_5068e yJ4_charAt_5068e, Cond.code yJ4_charAt_5068e cJ4_charAt_5068e 2 (some .char), Cond.methodLink RJ4 329 yJ5_charAt_5068e, Cond.sameMethod "java/lang/AbstractStringBuilder" "java/lang/AbstractStringBuilder" "charAt" "(I)C", Cond.instanceMethod yJ5_charAt_5068e, Cond.code yJ5_charAt_5068e cJ5_charAt_5068e 5 (some .char), Cond.methodLink RJ5 138 Lib.Math.min.name, Cond.methodLink RJ5 144 yJ0_checkIndex_df160, Cond.methodLink RJ5 148 yJ2_getChar_3b067, Cond.methodLink RL 140 yX5_lineChar, Cond.instanceMethod yX5_lineChar, Cond.selects RX5 yX5_lineChar yX5_lineChar, Cond.code yX5_lineChar cX5_lineChar 3 (some .char), Cond.methodLink RL 141 yL_trackLength, Cond.static yL_trackLength, Cond.codeWith yL_trackLength cL_trackLength 4 (some .int) [(0, 9, 12, 21)], Cond.methodLink RL 54 yX4_trackLength, Cond.instanceMethod yX4_trackLength, Cond.selects RX4 yX4_trackLength yX4_trackLength, Cond.code yX4_trackLength cX4_trackLength 2 (some .int), Cond.methodLink RL 143 yX5_trackLength, Cond.instanceMethod yX5_trackLength]
def wsL_law0_r28 : List Cond := [Cond.selects RX5 yX5_trackLength yX5_trackLength, Cond.code yX5_trackLength cX5_trackLength 2 (some .int), Cond.methodLink RL 144 yL_squares, Cond.static yL_squares, Cond.codeWith yL_squares cL_squares 4 (some .int) [(0, 9, 12, 21)], Cond.methodLink RL 57 yX4_squares, Cond.instanceMethod yX4_squares, Cond.selects RX4 yX4_squares yX4_squares, Cond.code yX4_squares cX4_squares 2 (some .int), Cond.instanceMethod yX1_countSquares, Cond.selects RX1 yX1_countSquares yX1_countSquares, Cond.code yX1_countSquares cX1_countSquares 3 (some .int), Cond.methodLink RX1 59 yJ6_bitCount_0f7a4, Cond.static yJ6_bitCount_0f7a4, Cond.code yJ6_bitCount_0f7a4 cJ6_bitCount_0f7a4 1 (some .int), Cond.constant RJ6 265 (1431655765), Cond.constant RJ6 266 (858993459), Cond.constant RJ6 267 (252645135), Cond.methodLink RL 146 yX5_squares, Cond.instanceMethod yX5_squares, Cond.selects RX5 yX5_squares yX5_squares, Cond.code yX5_squares cX5_squares 4 (some .int), Cond.methodLink RL 147 yL_runs, Cond.static yL_runs]
def wsL_law0_r29 : List Cond := [Cond.codeWith yL_runs cL_runs 4 (some .int) [(0, 9, 12, 21)], Cond.methodLink RL 60 yX4_runs, Cond.instanceMethod yX4_runs, Cond.selects RX4 yX4_runs yX4_runs, Cond.code yX4_runs cX4_runs 2 (some .int), Cond.instanceMethod yX1_countRuns, Cond.selects RX1 yX1_countRuns yX1_countRuns, Cond.code yX1_countRuns cX1_countRuns 3 (some .int), Cond.methodLink RL 149 yX5_runs, Cond.instanceMethod yX5_runs, Cond.selects RX5 yX5_runs yX5_runs, Cond.code yX5_runs cX5_runs 4 (some .int), Cond.methodLink RL 150 yL_isOn, Cond.static yL_isOn, Cond.codeWith yL_isOn cL_isOn 6 (some .int) [(0, 19, 22, 21)], Cond.methodLink RL 63 yX4_isOn, Cond.instanceMethod yX4_isOn, Cond.selects RX4 yX4_isOn yX4_isOn, Cond.code yX4_isOn cX4_isOn 4 (some .boolean), Cond.methodLink RL 152 yX5_isOn, Cond.instanceMethod yX5_isOn, Cond.selects RX5 yX5_isOn yX5_isOn, Cond.code yX5_isOn cX5_isOn 4 (some .boolean), Cond.methodLink RL 153 yL_isOnTrack]
def wsL_law0_r30 : List Cond := [Cond.static yL_isOnTrack, Cond.codeWith yL_isOnTrack cL_isOnTrack 6 (some .int) [(0, 19, 22, 21)], Cond.methodLink RL 67 yX4_isOnTrack, Cond.instanceMethod yX4_isOnTrack, Cond.selects RX4 yX4_isOnTrack yX4_isOnTrack, Cond.code yX4_isOnTrack cX4_isOnTrack 4 (some .boolean), Cond.methodLink RX4 134 yX4_squareOf, Cond.instanceMethod yX1_comesTo, Cond.selects RX1 yX1_comesTo yX1_comesTo, Cond.code yX1_comesTo cX1_comesTo 3 (some .boolean), Cond.methodLink RL 155 yX5_isOnTrack, Cond.instanceMethod yX5_isOnTrack, Cond.selects RX5 yX5_isOnTrack yX5_isOnTrack, Cond.code yX5_isOnTrack cX5_isOnTrack 4 (some .boolean), Cond.methodLink RX5 134 yX5_isOn, Cond.methodLink RL 156 yL_streetsOf, Cond.static yL_streetsOf, Cond.codeWith yL_streetsOf cL_streetsOf 5 (some .int) [(0, 10, 13, 21)], Cond.methodLink RL 70 yX4_streetsOf, Cond.instanceMethod yX4_streetsOf, Cond.selects RX4 yX4_streetsOf yX4_streetsOf, Cond.code yX4_streetsOf cX4_streetsOf 5 (some .int), Cond.methodLink RL 158 yX5_streetsOf, Cond.instanceMethod yX5_streetsOf]
def wsL_law0_r31 : List Cond := [Cond.selects RX5 yX5_streetsOf yX5_streetsOf, Cond.code yX5_streetsOf cX5_streetsOf 6 (some .int), Cond.methodLink RL 159 yL_distance, Cond.static yL_distance, Cond.codeWith yL_distance cL_distance 6 (some .int) [(0, 12, 15, 21)], Cond.methodLink RL 73 yX4_distance, Cond.instanceMethod yX4_distance, Cond.selects RX4 yX4_distance yX4_distance, Cond.code yX4_distance cX4_distance 5 (some .int), Cond.instanceMethod yX1_nearestTo, Cond.selects RX1 yX1_nearestTo yX1_nearestTo, Cond.code yX1_nearestTo cX1_nearestTo 6 (some .int), Cond.methodLink RX4 144 yX4_apart, Cond.methodLink RL 161 yX5_distance, Cond.instanceMethod yX5_distance, Cond.selects RX5 yX5_distance yX5_distance, Cond.code yX5_distance cX5_distance 5 (some .int), Cond.methodLink RX5 144 yX5_nearestOf, Cond.instanceMethod yX5_nearestOf, Cond.selects RX5 yX5_nearestOf yX5_nearestOf, Cond.code yX5_nearestOf cX5_nearestOf 6 (some .int), Cond.methodLink RX5 140 yX5_farFrom, Cond.static yX5_farFrom, Cond.code yX5_farFrom cX5_farFrom 5 (some .int)]
def wsL_law0_r32 : List Cond := [Cond.methodLink RX5 137 yX5_apart, Cond.static yX5_apart, Cond.code yX5_apart cX5_apart 2 (some .int), Cond.methodLink RL 162 yL_nearest, Cond.static yL_nearest, Cond.codeWith yL_nearest cL_nearest 6 (some .int) [(0, 12, 15, 21)], Cond.methodLink RL 76 yX4_nearest, Cond.instanceMethod yX4_nearest, Cond.selects RX4 yX4_nearest yX4_nearest, Cond.code yX4_nearest cX4_nearest 4 (some .int), Cond.methodLink RL 164 yX5_nearest, Cond.instanceMethod yX5_nearest, Cond.selects RX5 yX5_nearest yX5_nearest, Cond.code yX5_nearest cX5_nearest 4 (some .int), Cond.methodLink RL 165 yL_walk, Cond.static yL_walk, Cond.codeWith yL_walk cL_walk 7 (some .int) [(0, 14, 17, 21)], Cond.methodLink RL 79 yX4_walk, Cond.instanceMethod yX4_walk, Cond.selects RX4 yX4_walk yX4_walk, Cond.code yX4_walk cX4_walk 5 (some .int), Cond.instanceMethod yX2_spread, Cond.selects RX2 yX2_spread yX2_spread, Cond.code yX2_spread cX2_spread 6 (some .int)]
def wsL_law0_r33 : List Cond := [Cond.methodLink RX2 21 yX2_findExits, Cond.instanceMethod yX2_findExits, Cond.selects RX2 yX2_findExits yX2_findExits, Cond.code yX2_findExits cX2_findExits 4 none, Cond.methodLink RX2 25 yJ7_fill_53178, Cond.methodLink RX2 49 yX2_addExits, Cond.instanceMethod yX2_addExits, Cond.selects RX2 yX2_addExits yX2_addExits, Cond.code yX2_addExits cX2_addExits 6 none, Cond.methodLink RX2 31 yX2_stepFrom, Cond.instanceMethod yX2_stepFrom, Cond.selects RX2 yX2_stepFrom yX2_stepFrom, Cond.code yX2_stepFrom cX2_stepFrom 6 (some .int), Cond.methodLink RX2 35 yX2_isNew, Cond.instanceMethod yX2_isNew, Cond.selects RX2 yX2_isNew yX2_isNew, Cond.code yX2_isNew cX2_isNew 2 (some .boolean), Cond.instanceMethod yX2_stepsOf, Cond.selects RX2 yX2_stepsOf yX2_stepsOf, Cond.code yX2_stepsOf cX2_stepsOf 2 (some .int), Cond.methodLink RL 168 yX5_walk, Cond.instanceMethod yX5_walk, Cond.selects RX5 yX5_walk yX5_walk, Cond.code yX5_walk cX5_walk 6 (some .int)]
def wsL_law0_r34 : List Cond := [Cond.constant RX5 147 (99999), Cond.methodLink RX5 151 yX5_walks, Cond.instanceMethod yX5_walks, Cond.selects RX5 yX5_walks yX5_walks, Cond.code yX5_walks cX5_walks 5 none, Cond.methodLink RX5 148 yX5_passes, Cond.instanceMethod yX5_passes, Cond.selects RX5 yX5_passes yX5_passes, Cond.code yX5_passes cX5_passes 4 (some .boolean), Cond.methodLink RL 169 yL_walkByRounds, Cond.static yL_walkByRounds, Cond.codeWith yL_walkByRounds cL_walkByRounds 7 (some .int) [(0, 14, 17, 21)], Cond.methodLink RL 83 yX4_walkByRounds, Cond.instanceMethod yX4_walkByRounds, Cond.selects RX4 yX4_walkByRounds yX4_walkByRounds, Cond.code yX4_walkByRounds cX4_walkByRounds 5 (some .int), Cond.instanceMethod yX2_tellBackwards, Cond.selects RX2 yX2_tellBackwards yX2_tellBackwards, Cond.code yX2_tellBackwards cX2_tellBackwards 7 none, Cond.methodLink RX2 62 yX2_tellAlong, Cond.instanceMethod yX2_tellAlong, Cond.selects RX2 yX2_tellAlong yX2_tellAlong, Cond.code yX2_tellAlong cX2_tellAlong 5 (some .boolean), Cond.methodLink RX2 66 yX2_tell]
def wsL_law0_r35 : List Cond := [Cond.instanceMethod yX2_tell, Cond.selects RX2 yX2_tell yX2_tell, Cond.code yX2_tell cX2_tell 3 (some .boolean), Cond.methodLink RL 171 yX5_walkByRounds, Cond.instanceMethod yX5_walkByRounds, Cond.selects RX5 yX5_walkByRounds yX5_walkByRounds, Cond.code yX5_walkByRounds cX5_walkByRounds 5 (some .int), Cond.methodLink RX5 154 yX5_walk, Cond.methodLink RL 172 yL_reachable, Cond.static yL_reachable, Cond.codeWith yL_reachable cL_reachable 5 (some .int) [(0, 10, 13, 21)], Cond.methodLink RL 86 yX4_reachable, Cond.instanceMethod yX4_reachable, Cond.selects RX4 yX4_reachable yX4_reachable, Cond.code yX4_reachable cX4_reachable 3 (some .int), Cond.methodLink RL 174 yX5_reachable, Cond.instanceMethod yX5_reachable, Cond.selects RX5 yX5_reachable yX5_reachable, Cond.code yX5_reachable cX5_reachable 5 (some .int)]
def wsL_law0 : List Cond := (wsL_law0_r1 ++ (wsL_law0_r2 ++ (wsL_law0_r3 ++ (wsL_law0_r4 ++ (wsL_law0_r5 ++ (wsL_law0_r6 ++ (wsL_law0_r7 ++ (wsL_law0_r8 ++ (wsL_law0_r9 ++ (wsL_law0_r10 ++ (wsL_law0_r11 ++ (wsL_law0_r12 ++ (wsL_law0_r13 ++ (wsL_law0_r14 ++ (wsL_law0_r15 ++ (wsL_law0_r16 ++ (wsL_law0_r17 ++ (wsL_law0_r18 ++ (wsL_law0_r19 ++ (wsL_law0_r20 ++ (wsL_law0_r21 ++ (wsL_law0_r22 ++ (wsL_law0_r23 ++ (wsL_law0_r24 ++ (wsL_law0_r25 ++ (wsL_law0_r26 ++ (wsL_law0_r27 ++ (wsL_law0_r28 ++ (wsL_law0_r29 ++ (wsL_law0_r30 ++ (wsL_law0_r31 ++ (wsL_law0_r32 ++ (wsL_law0_r33 ++ (wsL_law0_r34 ++ wsL_law0_r35)))))))))))))))))))))))))))))))))) ++ wsX40 ++ wsX50 ++ wsX20 ++ wsX00 ++ wsX10 ++ wsJ40 ++ ([] : List Cond)
def wsL_law : List Cond := wsL_law0 ++ (vx_atS RX4 45 "java/lang/IllegalStateException" ["java/lang/RuntimeException", "java/lang/Exception"]).filter goodWord ++ (vx_atS RX4 72 "java/lang/IllegalArgumentException" ["java/lang/RuntimeException", "java/lang/Exception"]).filter goodWord ++ (vx_atS RX4 97 "java/lang/IndexOutOfBoundsException" ["java/lang/RuntimeException", "java/lang/Exception"]).filter goodWord
end
section
set_option maxRecDepth 20000 in
theorem ggX0_init_X1_init : GoodIn wsX0_init wsX1_init := goodIn_r _ [11, 12, 2, 3, 4, 13, 14, 15, 20, 21, 22, 23, 24] (by decide +kernel) (by decide +kernel)
set_option maxRecDepth 20000 in
theorem gX0_init_X1_init_n17 : GoodIn wsX0_init (wsX1_init) := ggX0_init_X1_init
theorem dX0_init_0 : decode cX0_init 0 = .ok (.aload_n 0, 1) := by decide +kernel
theorem dX0_init_1 : decode cX0_init 1 = .ok (.invokespecial 3, 3) := by decide +kernel
theorem dX0_init_4 : decode cX0_init 4 = .ok (.aload_n 0, 1) := by decide +kernel
theorem dX0_init_5 : decode cX0_init 5 = .ok (.iconst 4, 1) := by decide +kernel
theorem dX0_init_6 : decode cX0_init 6 = .ok (.newarray .int, 2) := by decide +kernel
theorem dX0_init_8 : decode cX0_init 8 = .ok (.putfield 9, 3) := by decide +kernel
theorem dX0_init_11 : decode cX0_init 11 = .ok (.aload_n 0, 1) := by decide +kernel
theorem dX0_init_12 : decode cX0_init 12 = .ok (.new 15, 3) := by decide +kernel
theorem dX0_init_15 : decode cX0_init 15 = .ok (.dup, 1) := by decide +kernel
theorem dX0_init_16 : decode cX0_init 16 = .ok (.invokespecial 17, 3) := by decide +kernel
theorem dX0_init_19 : decode cX0_init 19 = .ok (.putfield 18, 3) := by decide +kernel
theorem dX0_init_22 : decode cX0_init 22 = .ok (.return_, 1) := by decide +kernel
set_option maxRecDepth 20000 in
theorem ggX0_takeName_X4_wordOf : GoodIn wsX0_takeName wsX4_wordOf := goodIn_r _ [5] (by decide +kernel) (by decide +kernel)
set_option maxRecDepth 20000 in
theorem gX0_takeName_X4_wordOf_n22 : GoodIn wsX0_takeName (wsX4_wordOf) := ggX0_takeName_X4_wordOf
theorem dX0_takeName_0 : decode cX0_takeName 0 = .ok (.iconst 0, 1) := by decide +kernel
theorem dX0_takeName_1 : decode cX0_takeName 1 = .ok (.istore_n 3, 1) := by decide +kernel
theorem dX0_takeName_2 : decode cX0_takeName 2 = .ok (.iload_n 3, 1) := by decide +kernel
theorem dX0_takeName_3 : decode cX0_takeName 3 = .ok (.iload_n 1, 1) := by decide +kernel
theorem dX0_takeName_4 : decode cX0_takeName 4 = .ok (.if_icmp .ge 20, 3) := by decide +kernel
theorem dX0_takeName_7 : decode cX0_takeName 7 = .ok (.aload_n 0, 1) := by decide +kernel
theorem dX0_takeName_8 : decode cX0_takeName 8 = .ok (.getfield 9, 3) := by decide +kernel
theorem dX0_takeName_11 : decode cX0_takeName 11 = .ok (.iload_n 3, 1) := by decide +kernel
theorem dX0_takeName_12 : decode cX0_takeName 12 = .ok (.iload_n 2, 1) := by decide +kernel
theorem dX0_takeName_13 : decode cX0_takeName 13 = .ok (.iload_n 3, 1) := by decide +kernel
theorem dX0_takeName_14 : decode cX0_takeName 14 = .ok (.invokestatic 22, 3) := by decide +kernel
theorem dX0_takeName_17 : decode cX0_takeName 17 = .ok (.iastore, 1) := by decide +kernel
theorem dX0_takeName_18 : decode cX0_takeName 18 = .ok (.iinc 3 1, 3) := by decide +kernel
theorem dX0_takeName_21 : decode cX0_takeName 21 = .ok (.goto (-19), 3) := by decide +kernel
theorem dX0_takeName_24 : decode cX0_takeName 24 = .ok (.aload_n 0, 1) := by decide +kernel
theorem dX0_takeName_25 : decode cX0_takeName 25 = .ok (.iload_n 1, 1) := by decide +kernel
theorem dX0_takeName_26 : decode cX0_takeName 26 = .ok (.putfield 26, 3) := by decide +kernel
theorem dX0_takeName_29 : decode cX0_takeName 29 = .ok (.return_, 1) := by decide +kernel
set_option maxRecDepth 20000 in
theorem ggX0_putKey_X0_putWordsOf : GoodIn wsX0_putKey wsX0_putWordsOf := goodIn_r _ [5, 6, 7, 8, 9, 10, 11] (by decide +kernel) (by decide +kernel)
set_option maxRecDepth 20000 in
theorem gX0_putKey_X0_putWordsOf : GoodIn wsX0_putKey (wsV RX0 30 RX0 yX0_putWordsOf wsX0_putWordsOf) := goodIn_app (goodIn_of _ (by decide +kernel)) ggX0_putKey_X0_putWordsOf
theorem dX0_putKey_0 : decode cX0_putKey 0 = .ok (.aload_n 0, 1) := by decide +kernel
theorem dX0_putKey_1 : decode cX0_putKey 1 = .ok (.iconst 0, 1) := by decide +kernel
theorem dX0_putKey_2 : decode cX0_putKey 2 = .ok (.aload_n 1, 1) := by decide +kernel
theorem dX0_putKey_3 : decode cX0_putKey 3 = .ok (.aload_n 2, 1) := by decide +kernel
theorem dX0_putKey_4 : decode cX0_putKey 4 = .ok (.iconst 0, 1) := by decide +kernel
theorem dX0_putKey_5 : decode cX0_putKey 5 = .ok (.invokevirtual 30, 3) := by decide +kernel
theorem dX0_putKey_8 : decode cX0_putKey 8 = .ok (.istore_n 3, 1) := by decide +kernel
theorem dX0_putKey_9 : decode cX0_putKey 9 = .ok (.aload_n 0, 1) := by decide +kernel
theorem dX0_putKey_10 : decode cX0_putKey 10 = .ok (.iconst 2, 1) := by decide +kernel
theorem dX0_putKey_11 : decode cX0_putKey 11 = .ok (.aload_n 1, 1) := by decide +kernel
theorem dX0_putKey_12 : decode cX0_putKey 12 = .ok (.aload_n 2, 1) := by decide +kernel
theorem dX0_putKey_13 : decode cX0_putKey 13 = .ok (.iload_n 3, 1) := by decide +kernel
theorem dX0_putKey_14 : decode cX0_putKey 14 = .ok (.invokevirtual 30, 3) := by decide +kernel
theorem dX0_putKey_17 : decode cX0_putKey 17 = .ok (.istore 4, 2) := by decide +kernel
theorem dX0_putKey_19 : decode cX0_putKey 19 = .ok (.iload 4, 2) := by decide +kernel
theorem dX0_putKey_21 : decode cX0_putKey 21 = .ok (.ifCond .le 8, 3) := by decide +kernel
theorem dX0_putKey_24 : decode cX0_putKey 24 = .ok (.iload 4, 2) := by decide +kernel
theorem dX0_putKey_26 : decode cX0_putKey 26 = .ok (.goto 11, 3) := by decide +kernel
theorem dX0_putKey_29 : decode cX0_putKey 29 = .ok (.aload_n 0, 1) := by decide +kernel
theorem dX0_putKey_30 : decode cX0_putKey 30 = .ok (.iconst 1, 1) := by decide +kernel
theorem dX0_putKey_31 : decode cX0_putKey 31 = .ok (.aload_n 1, 1) := by decide +kernel
theorem dX0_putKey_32 : decode cX0_putKey 32 = .ok (.aload_n 2, 1) := by decide +kernel
theorem dX0_putKey_33 : decode cX0_putKey 33 = .ok (.iconst 0, 1) := by decide +kernel
theorem dX0_putKey_34 : decode cX0_putKey 34 = .ok (.invokevirtual 30, 3) := by decide +kernel
theorem dX0_putKey_37 : decode cX0_putKey 37 = .ok (.ireturn, 1) := by decide +kernel
theorem dX0_putWordsOf_0 : decode cX0_putWordsOf 0 = .ok (.iload 4, 2) := by decide +kernel
theorem dX0_putWordsOf_2 : decode cX0_putWordsOf 2 = .ok (.istore 5, 2) := by decide +kernel
theorem dX0_putWordsOf_4 : decode cX0_putWordsOf 4 = .ok (.iconst 0, 1) := by decide +kernel
theorem dX0_putWordsOf_5 : decode cX0_putWordsOf 5 = .ok (.istore 6, 2) := by decide +kernel
theorem dX0_putWordsOf_7 : decode cX0_putWordsOf 7 = .ok (.iload 6, 2) := by decide +kernel
theorem dX0_putWordsOf_9 : decode cX0_putWordsOf 9 = .ok (.aload_n 0, 1) := by decide +kernel
theorem dX0_putWordsOf_10 : decode cX0_putWordsOf 10 = .ok (.getfield 26, 3) := by decide +kernel
theorem dX0_putWordsOf_13 : decode cX0_putWordsOf 13 = .ok (.if_icmp .ge 36, 3) := by decide +kernel
theorem dX0_putWordsOf_16 : decode cX0_putWordsOf 16 = .ok (.aload_n 2, 1) := by decide +kernel
theorem dX0_putWordsOf_17 : decode cX0_putWordsOf 17 = .ok (.aload_n 0, 1) := by decide +kernel
theorem dX0_putWordsOf_18 : decode cX0_putWordsOf 18 = .ok (.getfield 9, 3) := by decide +kernel
theorem dX0_putWordsOf_21 : decode cX0_putWordsOf 21 = .ok (.iload 6, 2) := by decide +kernel
theorem dX0_putWordsOf_23 : decode cX0_putWordsOf 23 = .ok (.iaload, 1) := by decide +kernel
theorem dX0_putWordsOf_24 : decode cX0_putWordsOf 24 = .ok (.iaload, 1) := by decide +kernel
theorem dX0_putWordsOf_25 : decode cX0_putWordsOf 25 = .ok (.iload_n 1, 1) := by decide +kernel
theorem dX0_putWordsOf_26 : decode cX0_putWordsOf 26 = .ok (.if_icmp .ne 17, 3) := by decide +kernel
theorem dX0_putWordsOf_29 : decode cX0_putWordsOf 29 = .ok (.aload_n 3, 1) := by decide +kernel
theorem dX0_putWordsOf_30 : decode cX0_putWordsOf 30 = .ok (.iload 5, 2) := by decide +kernel
theorem dX0_putWordsOf_32 : decode cX0_putWordsOf 32 = .ok (.aload_n 0, 1) := by decide +kernel
theorem dX0_putWordsOf_33 : decode cX0_putWordsOf 33 = .ok (.getfield 9, 3) := by decide +kernel
theorem dX0_putWordsOf_36 : decode cX0_putWordsOf 36 = .ok (.iload 6, 2) := by decide +kernel
theorem dX0_putWordsOf_38 : decode cX0_putWordsOf 38 = .ok (.iaload, 1) := by decide +kernel
theorem dX0_putWordsOf_39 : decode cX0_putWordsOf 39 = .ok (.iastore, 1) := by decide +kernel
theorem dX0_putWordsOf_40 : decode cX0_putWordsOf 40 = .ok (.iinc 5 1, 3) := by decide +kernel
theorem dX0_putWordsOf_43 : decode cX0_putWordsOf 43 = .ok (.iinc 6 1, 3) := by decide +kernel
theorem dX0_putWordsOf_46 : decode cX0_putWordsOf 46 = .ok (.goto (-39), 3) := by decide +kernel
theorem dX0_putWordsOf_49 : decode cX0_putWordsOf 49 = .ok (.iload 5, 2) := by decide +kernel
theorem dX0_putWordsOf_51 : decode cX0_putWordsOf 51 = .ok (.ireturn, 1) := by decide +kernel
theorem dX0_countMoved_0 : decode cX0_countMoved 0 = .ok (.iconst 0, 1) := by decide +kernel
theorem dX0_countMoved_1 : decode cX0_countMoved 1 = .ok (.istore_n 2, 1) := by decide +kernel
theorem dX0_countMoved_2 : decode cX0_countMoved 2 = .ok (.iconst 0, 1) := by decide +kernel
theorem dX0_countMoved_3 : decode cX0_countMoved 3 = .ok (.istore_n 3, 1) := by decide +kernel
theorem dX0_countMoved_4 : decode cX0_countMoved 4 = .ok (.iload_n 3, 1) := by decide +kernel
theorem dX0_countMoved_5 : decode cX0_countMoved 5 = .ok (.aload_n 0, 1) := by decide +kernel
theorem dX0_countMoved_6 : decode cX0_countMoved 6 = .ok (.getfield 26, 3) := by decide +kernel
theorem dX0_countMoved_9 : decode cX0_countMoved 9 = .ok (.if_icmp .ge 24, 3) := by decide +kernel
theorem dX0_countMoved_12 : decode cX0_countMoved 12 = .ok (.aload_n 1, 1) := by decide +kernel
theorem dX0_countMoved_13 : decode cX0_countMoved 13 = .ok (.aload_n 0, 1) := by decide +kernel
theorem dX0_countMoved_14 : decode cX0_countMoved 14 = .ok (.getfield 9, 3) := by decide +kernel
theorem dX0_countMoved_17 : decode cX0_countMoved 17 = .ok (.iload_n 3, 1) := by decide +kernel
theorem dX0_countMoved_18 : decode cX0_countMoved 18 = .ok (.iaload, 1) := by decide +kernel
theorem dX0_countMoved_19 : decode cX0_countMoved 19 = .ok (.iaload, 1) := by decide +kernel
theorem dX0_countMoved_20 : decode cX0_countMoved 20 = .ok (.iconst 2, 1) := by decide +kernel
theorem dX0_countMoved_21 : decode cX0_countMoved 21 = .ok (.if_icmp .ne 6, 3) := by decide +kernel
theorem dX0_countMoved_24 : decode cX0_countMoved 24 = .ok (.iinc 2 1, 3) := by decide +kernel
theorem dX0_countMoved_27 : decode cX0_countMoved 27 = .ok (.iinc 3 1, 3) := by decide +kernel
theorem dX0_countMoved_30 : decode cX0_countMoved 30 = .ok (.goto (-26), 3) := by decide +kernel
theorem dX0_countMoved_33 : decode cX0_countMoved 33 = .ok (.iload_n 2, 1) := by decide +kernel
theorem dX0_countMoved_34 : decode cX0_countMoved 34 = .ok (.ireturn, 1) := by decide +kernel
theorem dX1_init_0 : decode cX1_init 0 = .ok (.aload_n 0, 1) := by decide +kernel
theorem dX1_init_1 : decode cX1_init 1 = .ok (.invokespecial 3, 3) := by decide +kernel
theorem dX1_init_4 : decode cX1_init 4 = .ok (.aload_n 0, 1) := by decide +kernel
theorem dX1_init_5 : decode cX1_init 5 = .ok (.bipush 100, 2) := by decide +kernel
theorem dX1_init_7 : decode cX1_init 7 = .ok (.newarray .int, 2) := by decide +kernel
theorem dX1_init_9 : decode cX1_init 9 = .ok (.putfield 9, 3) := by decide +kernel
theorem dX1_init_12 : decode cX1_init 12 = .ok (.aload_n 0, 1) := by decide +kernel
theorem dX1_init_13 : decode cX1_init 13 = .ok (.bipush 10, 2) := by decide +kernel
theorem dX1_init_15 : decode cX1_init 15 = .ok (.newarray .int, 2) := by decide +kernel
theorem dX1_init_17 : decode cX1_init 17 = .ok (.putfield 15, 3) := by decide +kernel
theorem dX1_init_20 : decode cX1_init 20 = .ok (.aload_n 0, 1) := by decide +kernel
theorem dX1_init_21 : decode cX1_init 21 = .ok (.bipush 12, 2) := by decide +kernel
theorem dX1_init_23 : decode cX1_init 23 = .ok (.newarray .int, 2) := by decide +kernel
theorem dX1_init_25 : decode cX1_init 25 = .ok (.putfield 18, 3) := by decide +kernel
theorem dX1_init_28 : decode cX1_init 28 = .ok (.return_, 1) := by decide +kernel
theorem dX1_canGoTo_0 : decode cX1_canGoTo 0 = .ok (.aload_n 0, 1) := by decide +kernel
theorem dX1_canGoTo_1 : decode cX1_canGoTo 1 = .ok (.getfield 21, 3) := by decide +kernel
theorem dX1_canGoTo_4 : decode cX1_canGoTo 4 = .ok (.ifCond .ne 5, 3) := by decide +kernel
theorem dX1_canGoTo_7 : decode cX1_canGoTo 7 = .ok (.iconst 1, 1) := by decide +kernel
theorem dX1_canGoTo_8 : decode cX1_canGoTo 8 = .ok (.ireturn, 1) := by decide +kernel
theorem dX1_canGoTo_9 : decode cX1_canGoTo 9 = .ok (.aload_n 0, 1) := by decide +kernel
theorem dX1_canGoTo_10 : decode cX1_canGoTo 10 = .ok (.getfield 9, 3) := by decide +kernel
theorem dX1_canGoTo_13 : decode cX1_canGoTo 13 = .ok (.aload_n 0, 1) := by decide +kernel
theorem dX1_canGoTo_14 : decode cX1_canGoTo 14 = .ok (.getfield 21, 3) := by decide +kernel
theorem dX1_canGoTo_17 : decode cX1_canGoTo 17 = .ok (.iconst 1, 1) := by decide +kernel
theorem dX1_canGoTo_18 : decode cX1_canGoTo 18 = .ok (.isub, 1) := by decide +kernel
theorem dX1_canGoTo_19 : decode cX1_canGoTo 19 = .ok (.iaload, 1) := by decide +kernel
theorem dX1_canGoTo_20 : decode cX1_canGoTo 20 = .ok (.istore_n 3, 1) := by decide +kernel
theorem dX1_canGoTo_21 : decode cX1_canGoTo 21 = .ok (.iload_n 1, 1) := by decide +kernel
theorem dX1_canGoTo_22 : decode cX1_canGoTo 22 = .ok (.iload_n 3, 1) := by decide +kernel
theorem dX1_canGoTo_23 : decode cX1_canGoTo 23 = .ok (.bipush 12, 2) := by decide +kernel
theorem dX1_canGoTo_25 : decode cX1_canGoTo 25 = .ok (.idiv, 1) := by decide +kernel
theorem dX1_canGoTo_26 : decode cX1_canGoTo 26 = .ok (.isub, 1) := by decide +kernel
theorem dX1_canGoTo_27 : decode cX1_canGoTo 27 = .ok (.invokestatic 25, 3) := by decide +kernel
theorem dX1_canGoTo_30 : decode cX1_canGoTo 30 = .ok (.istore 4, 2) := by decide +kernel
theorem dX1_canGoTo_32 : decode cX1_canGoTo 32 = .ok (.iload_n 2, 1) := by decide +kernel
theorem dX1_canGoTo_33 : decode cX1_canGoTo 33 = .ok (.iload_n 3, 1) := by decide +kernel
theorem dX1_canGoTo_34 : decode cX1_canGoTo 34 = .ok (.bipush 12, 2) := by decide +kernel
theorem dX1_canGoTo_36 : decode cX1_canGoTo 36 = .ok (.irem, 1) := by decide +kernel
theorem dX1_canGoTo_37 : decode cX1_canGoTo 37 = .ok (.isub, 1) := by decide +kernel
theorem dX1_canGoTo_38 : decode cX1_canGoTo 38 = .ok (.invokestatic 25, 3) := by decide +kernel
theorem dX1_canGoTo_41 : decode cX1_canGoTo 41 = .ok (.istore 5, 2) := by decide +kernel
theorem dX1_canGoTo_43 : decode cX1_canGoTo 43 = .ok (.iload 4, 2) := by decide +kernel
theorem dX1_canGoTo_45 : decode cX1_canGoTo 45 = .ok (.ifCond .ne 12, 3) := by decide +kernel
theorem dX1_canGoTo_48 : decode cX1_canGoTo 48 = .ok (.iload 5, 2) := by decide +kernel
theorem dX1_canGoTo_50 : decode cX1_canGoTo 50 = .ok (.ifCond .ne 7, 3) := by decide +kernel
theorem dX1_canGoTo_53 : decode cX1_canGoTo 53 = .ok (.iconst 1, 1) := by decide +kernel
theorem dX1_canGoTo_54 : decode cX1_canGoTo 54 = .ok (.goto 4, 3) := by decide +kernel
theorem dX1_canGoTo_57 : decode cX1_canGoTo 57 = .ok (.iconst 0, 1) := by decide +kernel
theorem dX1_canGoTo_58 : decode cX1_canGoTo 58 = .ok (.istore 6, 2) := by decide +kernel
theorem dX1_canGoTo_60 : decode cX1_canGoTo 60 = .ok (.iload 6, 2) := by decide +kernel
theorem dX1_canGoTo_62 : decode cX1_canGoTo 62 = .ok (.ifCond .ne 24, 3) := by decide +kernel
theorem dX1_canGoTo_65 : decode cX1_canGoTo 65 = .ok (.iload 4, 2) := by decide +kernel
theorem dX1_canGoTo_67 : decode cX1_canGoTo 67 = .ok (.ifCond .eq 15, 3) := by decide +kernel
theorem dX1_canGoTo_70 : decode cX1_canGoTo 70 = .ok (.iload 5, 2) := by decide +kernel
theorem dX1_canGoTo_72 : decode cX1_canGoTo 72 = .ok (.ifCond .eq 10, 3) := by decide +kernel
theorem dX1_canGoTo_75 : decode cX1_canGoTo 75 = .ok (.iload 4, 2) := by decide +kernel
theorem dX1_canGoTo_77 : decode cX1_canGoTo 77 = .ok (.iload 5, 2) := by decide +kernel
theorem dX1_canGoTo_79 : decode cX1_canGoTo 79 = .ok (.if_icmp .ne 7, 3) := by decide +kernel
theorem dX1_canGoTo_82 : decode cX1_canGoTo 82 = .ok (.iconst 1, 1) := by decide +kernel
theorem dX1_canGoTo_83 : decode cX1_canGoTo 83 = .ok (.goto 4, 3) := by decide +kernel
theorem dX1_canGoTo_86 : decode cX1_canGoTo 86 = .ok (.iconst 0, 1) := by decide +kernel
theorem dX1_canGoTo_87 : decode cX1_canGoTo 87 = .ok (.ireturn, 1) := by decide +kernel
set_option maxRecDepth 20000 in
theorem ggX1_goTo_X1_addSquare : GoodIn wsX1_goTo wsX1_addSquare := goodIn_r _ [9, 2, 1, 10, 11, 12, 13, 29, 30, 31, 32, 33] (by decide +kernel) (by decide +kernel)
set_option maxRecDepth 20000 in
theorem gX1_goTo_X1_addSquare : GoodIn wsX1_goTo (wsV RX1 31 RX1 yX1_addSquare wsX1_addSquare) := goodIn_app (goodIn_of _ (by decide +kernel)) ggX1_goTo_X1_addSquare
set_option maxRecDepth 20000 in
theorem ggX1_goTo_X1_goStraight : GoodIn wsX1_goTo wsX1_goStraight := goodIn_r _ [17, 18, 12, 19, 20, 21, 22, 23, 24, 25, 26, 27, 28, 5, 6, 7, 8, 9, 2, 1, 10, 11, 13, 29, 30, 31, 32, 33] (by decide +kernel) (by decide +kernel)
set_option maxRecDepth 20000 in
theorem gX1_goTo_X1_goStraight : GoodIn wsX1_goTo (wsV RX1 35 RX1 yX1_goStraight wsX1_goStraight) := goodIn_app (goodIn_of _ (by decide +kernel)) ggX1_goTo_X1_goStraight
theorem dX1_goTo_0 : decode cX1_goTo 0 = .ok (.aload_n 0, 1) := by decide +kernel
theorem dX1_goTo_1 : decode cX1_goTo 1 = .ok (.getfield 21, 3) := by decide +kernel
theorem dX1_goTo_4 : decode cX1_goTo 4 = .ok (.ifCond .ne 12, 3) := by decide +kernel
theorem dX1_goTo_7 : decode cX1_goTo 7 = .ok (.aload_n 0, 1) := by decide +kernel
theorem dX1_goTo_8 : decode cX1_goTo 8 = .ok (.iload_n 1, 1) := by decide +kernel
theorem dX1_goTo_9 : decode cX1_goTo 9 = .ok (.iload_n 2, 1) := by decide +kernel
theorem dX1_goTo_10 : decode cX1_goTo 10 = .ok (.invokevirtual 31, 3) := by decide +kernel
theorem dX1_goTo_13 : decode cX1_goTo 13 = .ok (.goto 20, 3) := by decide +kernel
theorem dX1_goTo_16 : decode cX1_goTo 16 = .ok (.aload_n 0, 1) := by decide +kernel
theorem dX1_goTo_17 : decode cX1_goTo 17 = .ok (.aload_n 0, 1) := by decide +kernel
theorem dX1_goTo_18 : decode cX1_goTo 18 = .ok (.getfield 9, 3) := by decide +kernel
theorem dX1_goTo_21 : decode cX1_goTo 21 = .ok (.aload_n 0, 1) := by decide +kernel
theorem dX1_goTo_22 : decode cX1_goTo 22 = .ok (.getfield 21, 3) := by decide +kernel
theorem dX1_goTo_25 : decode cX1_goTo 25 = .ok (.iconst 1, 1) := by decide +kernel
theorem dX1_goTo_26 : decode cX1_goTo 26 = .ok (.isub, 1) := by decide +kernel
theorem dX1_goTo_27 : decode cX1_goTo 27 = .ok (.iaload, 1) := by decide +kernel
theorem dX1_goTo_28 : decode cX1_goTo 28 = .ok (.iload_n 1, 1) := by decide +kernel
theorem dX1_goTo_29 : decode cX1_goTo 29 = .ok (.iload_n 2, 1) := by decide +kernel
theorem dX1_goTo_30 : decode cX1_goTo 30 = .ok (.invokevirtual 35, 3) := by decide +kernel
theorem dX1_goTo_33 : decode cX1_goTo 33 = .ok (.aload_n 0, 1) := by decide +kernel
theorem dX1_goTo_34 : decode cX1_goTo 34 = .ok (.getfield 15, 3) := by decide +kernel
theorem dX1_goTo_37 : decode cX1_goTo 37 = .ok (.aload_n 0, 1) := by decide +kernel
theorem dX1_goTo_38 : decode cX1_goTo 38 = .ok (.getfield 39, 3) := by decide +kernel
theorem dX1_goTo_41 : decode cX1_goTo 41 = .ok (.aload_n 0, 1) := by decide +kernel
theorem dX1_goTo_42 : decode cX1_goTo 42 = .ok (.getfield 21, 3) := by decide +kernel
theorem dX1_goTo_45 : decode cX1_goTo 45 = .ok (.iastore, 1) := by decide +kernel
theorem dX1_goTo_46 : decode cX1_goTo 46 = .ok (.aload_n 0, 1) := by decide +kernel
theorem dX1_goTo_47 : decode cX1_goTo 47 = .ok (.dup, 1) := by decide +kernel
theorem dX1_goTo_48 : decode cX1_goTo 48 = .ok (.getfield 39, 3) := by decide +kernel
theorem dX1_goTo_51 : decode cX1_goTo 51 = .ok (.iconst 1, 1) := by decide +kernel
theorem dX1_goTo_52 : decode cX1_goTo 52 = .ok (.iadd, 1) := by decide +kernel
theorem dX1_goTo_53 : decode cX1_goTo 53 = .ok (.putfield 39, 3) := by decide +kernel
theorem dX1_goTo_56 : decode cX1_goTo 56 = .ok (.return_, 1) := by decide +kernel
set_option maxRecDepth 20000 in
theorem ggX1_goStraight_X4_sign : GoodIn wsX1_goStraight wsX4_sign := goodIn_r _ [3] (by decide +kernel) (by decide +kernel)
set_option maxRecDepth 20000 in
theorem gX1_goStraight_X4_sign_n42 : GoodIn wsX1_goStraight (wsX4_sign) := ggX1_goStraight_X4_sign
set_option maxRecDepth 20000 in
theorem ggX1_goStraight_X4_apart : GoodIn wsX1_goStraight wsX4_apart := goodIn_r _ [5, 6, 7, 8, 9, 10, 11, 12] (by decide +kernel) (by decide +kernel)
set_option maxRecDepth 20000 in
theorem gX1_goStraight_X4_apart_n45 : GoodIn wsX1_goStraight (wsX4_apart) := ggX1_goStraight_X4_apart
set_option maxRecDepth 20000 in
theorem ggX1_goStraight_X1_addSquare : GoodIn wsX1_goStraight wsX1_addSquare := goodIn_r _ [17, 18, 19, 20, 21, 2, 22, 23, 24, 25, 26, 27] (by decide +kernel) (by decide +kernel)
set_option maxRecDepth 20000 in
theorem gX1_goStraight_X1_addSquare : GoodIn wsX1_goStraight (wsV RX1 31 RX1 yX1_addSquare wsX1_addSquare) := goodIn_app (goodIn_of _ (by decide +kernel)) ggX1_goStraight_X1_addSquare
theorem dX1_goStraight_0 : decode cX1_goStraight 0 = .ok (.iload_n 1, 1) := by decide +kernel
theorem dX1_goStraight_1 : decode cX1_goStraight 1 = .ok (.bipush 12, 2) := by decide +kernel
theorem dX1_goStraight_3 : decode cX1_goStraight 3 = .ok (.idiv, 1) := by decide +kernel
theorem dX1_goStraight_4 : decode cX1_goStraight 4 = .ok (.istore 4, 2) := by decide +kernel
theorem dX1_goStraight_6 : decode cX1_goStraight 6 = .ok (.iload_n 1, 1) := by decide +kernel
theorem dX1_goStraight_7 : decode cX1_goStraight 7 = .ok (.bipush 12, 2) := by decide +kernel
theorem dX1_goStraight_9 : decode cX1_goStraight 9 = .ok (.irem, 1) := by decide +kernel
theorem dX1_goStraight_10 : decode cX1_goStraight 10 = .ok (.istore 5, 2) := by decide +kernel
theorem dX1_goStraight_12 : decode cX1_goStraight 12 = .ok (.iload_n 2, 1) := by decide +kernel
theorem dX1_goStraight_13 : decode cX1_goStraight 13 = .ok (.iload 4, 2) := by decide +kernel
theorem dX1_goStraight_15 : decode cX1_goStraight 15 = .ok (.isub, 1) := by decide +kernel
theorem dX1_goStraight_16 : decode cX1_goStraight 16 = .ok (.invokestatic 42, 3) := by decide +kernel
theorem dX1_goStraight_19 : decode cX1_goStraight 19 = .ok (.istore 6, 2) := by decide +kernel
theorem dX1_goStraight_21 : decode cX1_goStraight 21 = .ok (.iload_n 3, 1) := by decide +kernel
theorem dX1_goStraight_22 : decode cX1_goStraight 22 = .ok (.iload 5, 2) := by decide +kernel
theorem dX1_goStraight_24 : decode cX1_goStraight 24 = .ok (.isub, 1) := by decide +kernel
theorem dX1_goStraight_25 : decode cX1_goStraight 25 = .ok (.invokestatic 42, 3) := by decide +kernel
theorem dX1_goStraight_28 : decode cX1_goStraight 28 = .ok (.istore 7, 2) := by decide +kernel
theorem dX1_goStraight_30 : decode cX1_goStraight 30 = .ok (.iload_n 1, 1) := by decide +kernel
theorem dX1_goStraight_31 : decode cX1_goStraight 31 = .ok (.iload_n 2, 1) := by decide +kernel
theorem dX1_goStraight_32 : decode cX1_goStraight 32 = .ok (.iload_n 3, 1) := by decide +kernel
theorem dX1_goStraight_33 : decode cX1_goStraight 33 = .ok (.invokestatic 45, 3) := by decide +kernel
theorem dX1_goStraight_36 : decode cX1_goStraight 36 = .ok (.istore 8, 2) := by decide +kernel
theorem dX1_goStraight_38 : decode cX1_goStraight 38 = .ok (.iconst 1, 1) := by decide +kernel
theorem dX1_goStraight_39 : decode cX1_goStraight 39 = .ok (.istore 9, 2) := by decide +kernel
theorem dX1_goStraight_41 : decode cX1_goStraight 41 = .ok (.iload 9, 2) := by decide +kernel
theorem dX1_goStraight_43 : decode cX1_goStraight 43 = .ok (.iload 8, 2) := by decide +kernel
theorem dX1_goStraight_45 : decode cX1_goStraight 45 = .ok (.if_icmp .gt 29, 3) := by decide +kernel
theorem dX1_goStraight_48 : decode cX1_goStraight 48 = .ok (.aload_n 0, 1) := by decide +kernel
theorem dX1_goStraight_49 : decode cX1_goStraight 49 = .ok (.iload 4, 2) := by decide +kernel
theorem dX1_goStraight_51 : decode cX1_goStraight 51 = .ok (.iload 9, 2) := by decide +kernel
theorem dX1_goStraight_53 : decode cX1_goStraight 53 = .ok (.iload 6, 2) := by decide +kernel
theorem dX1_goStraight_55 : decode cX1_goStraight 55 = .ok (.imul, 1) := by decide +kernel
theorem dX1_goStraight_56 : decode cX1_goStraight 56 = .ok (.iadd, 1) := by decide +kernel
theorem dX1_goStraight_57 : decode cX1_goStraight 57 = .ok (.iload 5, 2) := by decide +kernel
theorem dX1_goStraight_59 : decode cX1_goStraight 59 = .ok (.iload 9, 2) := by decide +kernel
theorem dX1_goStraight_61 : decode cX1_goStraight 61 = .ok (.iload 7, 2) := by decide +kernel
theorem dX1_goStraight_63 : decode cX1_goStraight 63 = .ok (.imul, 1) := by decide +kernel
theorem dX1_goStraight_64 : decode cX1_goStraight 64 = .ok (.iadd, 1) := by decide +kernel
theorem dX1_goStraight_65 : decode cX1_goStraight 65 = .ok (.invokevirtual 31, 3) := by decide +kernel
theorem dX1_goStraight_68 : decode cX1_goStraight 68 = .ok (.iinc 9 1, 3) := by decide +kernel
theorem dX1_goStraight_71 : decode cX1_goStraight 71 = .ok (.goto (-30), 3) := by decide +kernel
theorem dX1_goStraight_74 : decode cX1_goStraight 74 = .ok (.return_, 1) := by decide +kernel
set_option maxRecDepth 20000 in
theorem ggX1_addSquare_X4_squareOf : GoodIn wsX1_addSquare wsX4_squareOf := goodIn_r _ [6] (by decide +kernel) (by decide +kernel)
set_option maxRecDepth 20000 in
theorem gX1_addSquare_X4_squareOf_n49 : GoodIn wsX1_addSquare (wsX4_squareOf) := ggX1_addSquare_X4_squareOf
theorem dX1_addSquare_0 : decode cX1_addSquare 0 = .ok (.aload_n 0, 1) := by decide +kernel
theorem dX1_addSquare_1 : decode cX1_addSquare 1 = .ok (.getfield 9, 3) := by decide +kernel
theorem dX1_addSquare_4 : decode cX1_addSquare 4 = .ok (.aload_n 0, 1) := by decide +kernel
theorem dX1_addSquare_5 : decode cX1_addSquare 5 = .ok (.getfield 21, 3) := by decide +kernel
theorem dX1_addSquare_8 : decode cX1_addSquare 8 = .ok (.iload_n 1, 1) := by decide +kernel
theorem dX1_addSquare_9 : decode cX1_addSquare 9 = .ok (.iload_n 2, 1) := by decide +kernel
theorem dX1_addSquare_10 : decode cX1_addSquare 10 = .ok (.invokestatic 49, 3) := by decide +kernel
theorem dX1_addSquare_13 : decode cX1_addSquare 13 = .ok (.iastore, 1) := by decide +kernel
theorem dX1_addSquare_14 : decode cX1_addSquare 14 = .ok (.aload_n 0, 1) := by decide +kernel
theorem dX1_addSquare_15 : decode cX1_addSquare 15 = .ok (.dup, 1) := by decide +kernel
theorem dX1_addSquare_16 : decode cX1_addSquare 16 = .ok (.getfield 21, 3) := by decide +kernel
theorem dX1_addSquare_19 : decode cX1_addSquare 19 = .ok (.iconst 1, 1) := by decide +kernel
theorem dX1_addSquare_20 : decode cX1_addSquare 20 = .ok (.iadd, 1) := by decide +kernel
theorem dX1_addSquare_21 : decode cX1_addSquare 21 = .ok (.putfield 21, 3) := by decide +kernel
theorem dX1_addSquare_24 : decode cX1_addSquare 24 = .ok (.aload_n 0, 1) := by decide +kernel
theorem dX1_addSquare_25 : decode cX1_addSquare 25 = .ok (.getfield 18, 3) := by decide +kernel
theorem dX1_addSquare_28 : decode cX1_addSquare 28 = .ok (.iload_n 1, 1) := by decide +kernel
theorem dX1_addSquare_29 : decode cX1_addSquare 29 = .ok (.dup2, 1) := by decide +kernel
theorem dX1_addSquare_30 : decode cX1_addSquare 30 = .ok (.iaload, 1) := by decide +kernel
theorem dX1_addSquare_31 : decode cX1_addSquare 31 = .ok (.iconst 1, 1) := by decide +kernel
theorem dX1_addSquare_32 : decode cX1_addSquare 32 = .ok (.iload_n 2, 1) := by decide +kernel
theorem dX1_addSquare_33 : decode cX1_addSquare 33 = .ok (.ishl, 1) := by decide +kernel
theorem dX1_addSquare_34 : decode cX1_addSquare 34 = .ok (.ior, 1) := by decide +kernel
theorem dX1_addSquare_35 : decode cX1_addSquare 35 = .ok (.iastore, 1) := by decide +kernel
theorem dX1_addSquare_36 : decode cX1_addSquare 36 = .ok (.return_, 1) := by decide +kernel
set_option maxRecDepth 20000 in
theorem ggX1_goBack_J7_fill_53178 : GoodIn wsX1_goBack wsJ7_fill_53178 := goodIn_r _ [9] (by decide +kernel) (by decide +kernel)
set_option maxRecDepth 20000 in
theorem gX1_goBack_J7_fill_53178 : GoodIn wsX1_goBack (va_wsS RX1 53 yJ7_fill_53178 wsJ7_fill_53178) := goodIn_app (goodIn_of _ (by decide +kernel)) ggX1_goBack_J7_fill_53178
theorem dX1_goBack_0 : decode cX1_goBack 0 = .ok (.aload_n 0, 1) := by decide +kernel
theorem dX1_goBack_1 : decode cX1_goBack 1 = .ok (.dup, 1) := by decide +kernel
theorem dX1_goBack_2 : decode cX1_goBack 2 = .ok (.getfield 39, 3) := by decide +kernel
theorem dX1_goBack_5 : decode cX1_goBack 5 = .ok (.iconst 1, 1) := by decide +kernel
theorem dX1_goBack_6 : decode cX1_goBack 6 = .ok (.isub, 1) := by decide +kernel
theorem dX1_goBack_7 : decode cX1_goBack 7 = .ok (.putfield 39, 3) := by decide +kernel
theorem dX1_goBack_10 : decode cX1_goBack 10 = .ok (.aload_n 0, 1) := by decide +kernel
theorem dX1_goBack_11 : decode cX1_goBack 11 = .ok (.aload_n 0, 1) := by decide +kernel
theorem dX1_goBack_12 : decode cX1_goBack 12 = .ok (.getfield 39, 3) := by decide +kernel
theorem dX1_goBack_15 : decode cX1_goBack 15 = .ok (.ifCond .ne 7, 3) := by decide +kernel
theorem dX1_goBack_18 : decode cX1_goBack 18 = .ok (.iconst 0, 1) := by decide +kernel
theorem dX1_goBack_19 : decode cX1_goBack 19 = .ok (.goto 14, 3) := by decide +kernel
theorem dX1_goBack_22 : decode cX1_goBack 22 = .ok (.aload_n 0, 1) := by decide +kernel
theorem dX1_goBack_23 : decode cX1_goBack 23 = .ok (.getfield 15, 3) := by decide +kernel
theorem dX1_goBack_26 : decode cX1_goBack 26 = .ok (.aload_n 0, 1) := by decide +kernel
theorem dX1_goBack_27 : decode cX1_goBack 27 = .ok (.getfield 39, 3) := by decide +kernel
theorem dX1_goBack_30 : decode cX1_goBack 30 = .ok (.iconst 1, 1) := by decide +kernel
theorem dX1_goBack_31 : decode cX1_goBack 31 = .ok (.isub, 1) := by decide +kernel
theorem dX1_goBack_32 : decode cX1_goBack 32 = .ok (.iaload, 1) := by decide +kernel
theorem dX1_goBack_33 : decode cX1_goBack 33 = .ok (.putfield 21, 3) := by decide +kernel
theorem dX1_goBack_36 : decode cX1_goBack 36 = .ok (.aload_n 0, 1) := by decide +kernel
theorem dX1_goBack_37 : decode cX1_goBack 37 = .ok (.getfield 18, 3) := by decide +kernel
theorem dX1_goBack_40 : decode cX1_goBack 40 = .ok (.iconst 0, 1) := by decide +kernel
theorem dX1_goBack_41 : decode cX1_goBack 41 = .ok (.invokestatic 53, 3) := by decide +kernel
theorem dX1_goBack_44 : decode cX1_goBack 44 = .ok (.iconst 0, 1) := by decide +kernel
theorem dX1_goBack_45 : decode cX1_goBack 45 = .ok (.istore_n 1, 1) := by decide +kernel
theorem dX1_goBack_46 : decode cX1_goBack 46 = .ok (.iload_n 1, 1) := by decide +kernel
theorem dX1_goBack_47 : decode cX1_goBack 47 = .ok (.aload_n 0, 1) := by decide +kernel
theorem dX1_goBack_48 : decode cX1_goBack 48 = .ok (.getfield 21, 3) := by decide +kernel
theorem dX1_goBack_51 : decode cX1_goBack 51 = .ok (.if_icmp .ge 37, 3) := by decide +kernel
theorem dX1_goBack_54 : decode cX1_goBack 54 = .ok (.aload_n 0, 1) := by decide +kernel
theorem dX1_goBack_55 : decode cX1_goBack 55 = .ok (.getfield 18, 3) := by decide +kernel
theorem dX1_goBack_58 : decode cX1_goBack 58 = .ok (.aload_n 0, 1) := by decide +kernel
theorem dX1_goBack_59 : decode cX1_goBack 59 = .ok (.getfield 9, 3) := by decide +kernel
theorem dX1_goBack_62 : decode cX1_goBack 62 = .ok (.iload_n 1, 1) := by decide +kernel
theorem dX1_goBack_63 : decode cX1_goBack 63 = .ok (.iaload, 1) := by decide +kernel
theorem dX1_goBack_64 : decode cX1_goBack 64 = .ok (.bipush 12, 2) := by decide +kernel
theorem dX1_goBack_66 : decode cX1_goBack 66 = .ok (.idiv, 1) := by decide +kernel
theorem dX1_goBack_67 : decode cX1_goBack 67 = .ok (.dup2, 1) := by decide +kernel
theorem dX1_goBack_68 : decode cX1_goBack 68 = .ok (.iaload, 1) := by decide +kernel
theorem dX1_goBack_69 : decode cX1_goBack 69 = .ok (.iconst 1, 1) := by decide +kernel
theorem dX1_goBack_70 : decode cX1_goBack 70 = .ok (.aload_n 0, 1) := by decide +kernel
theorem dX1_goBack_71 : decode cX1_goBack 71 = .ok (.getfield 9, 3) := by decide +kernel
theorem dX1_goBack_74 : decode cX1_goBack 74 = .ok (.iload_n 1, 1) := by decide +kernel
theorem dX1_goBack_75 : decode cX1_goBack 75 = .ok (.iaload, 1) := by decide +kernel
theorem dX1_goBack_76 : decode cX1_goBack 76 = .ok (.bipush 12, 2) := by decide +kernel
theorem dX1_goBack_78 : decode cX1_goBack 78 = .ok (.irem, 1) := by decide +kernel
theorem dX1_goBack_79 : decode cX1_goBack 79 = .ok (.ishl, 1) := by decide +kernel
theorem dX1_goBack_80 : decode cX1_goBack 80 = .ok (.ior, 1) := by decide +kernel
theorem dX1_goBack_81 : decode cX1_goBack 81 = .ok (.iastore, 1) := by decide +kernel
theorem dX1_goBack_82 : decode cX1_goBack 82 = .ok (.iinc 1 1, 3) := by decide +kernel
theorem dX1_goBack_85 : decode cX1_goBack 85 = .ok (.goto (-39), 3) := by decide +kernel
theorem dX1_goBack_88 : decode cX1_goBack 88 = .ok (.return_, 1) := by decide +kernel
theorem dX1_covers_0 : decode cX1_covers 0 = .ok (.aload_n 0, 1) := by decide +kernel
theorem dX1_covers_1 : decode cX1_covers 1 = .ok (.getfield 18, 3) := by decide +kernel
theorem dX1_covers_4 : decode cX1_covers 4 = .ok (.iload_n 1, 1) := by decide +kernel
theorem dX1_covers_5 : decode cX1_covers 5 = .ok (.iaload, 1) := by decide +kernel
theorem dX1_covers_6 : decode cX1_covers 6 = .ok (.iload_n 2, 1) := by decide +kernel
theorem dX1_covers_7 : decode cX1_covers 7 = .ok (.ishr, 1) := by decide +kernel
theorem dX1_covers_8 : decode cX1_covers 8 = .ok (.iconst 1, 1) := by decide +kernel
theorem dX1_covers_9 : decode cX1_covers 9 = .ok (.iand, 1) := by decide +kernel
theorem dX1_covers_10 : decode cX1_covers 10 = .ok (.iconst 1, 1) := by decide +kernel
theorem dX1_covers_11 : decode cX1_covers 11 = .ok (.if_icmp .ne 7, 3) := by decide +kernel
theorem dX1_covers_14 : decode cX1_covers 14 = .ok (.iconst 1, 1) := by decide +kernel
theorem dX1_covers_15 : decode cX1_covers 15 = .ok (.goto 4, 3) := by decide +kernel
theorem dX1_covers_18 : decode cX1_covers 18 = .ok (.iconst 0, 1) := by decide +kernel
theorem dX1_covers_19 : decode cX1_covers 19 = .ok (.ireturn, 1) := by decide +kernel
theorem dX1_comesTo_0 : decode cX1_comesTo 0 = .ok (.iconst 0, 1) := by decide +kernel
theorem dX1_comesTo_1 : decode cX1_comesTo 1 = .ok (.istore_n 2, 1) := by decide +kernel
theorem dX1_comesTo_2 : decode cX1_comesTo 2 = .ok (.iload_n 2, 1) := by decide +kernel
theorem dX1_comesTo_3 : decode cX1_comesTo 3 = .ok (.aload_n 0, 1) := by decide +kernel
theorem dX1_comesTo_4 : decode cX1_comesTo 4 = .ok (.getfield 21, 3) := by decide +kernel
theorem dX1_comesTo_7 : decode cX1_comesTo 7 = .ok (.if_icmp .ge 21, 3) := by decide +kernel
theorem dX1_comesTo_10 : decode cX1_comesTo 10 = .ok (.aload_n 0, 1) := by decide +kernel
theorem dX1_comesTo_11 : decode cX1_comesTo 11 = .ok (.getfield 9, 3) := by decide +kernel
theorem dX1_comesTo_14 : decode cX1_comesTo 14 = .ok (.iload_n 2, 1) := by decide +kernel
theorem dX1_comesTo_15 : decode cX1_comesTo 15 = .ok (.iaload, 1) := by decide +kernel
theorem dX1_comesTo_16 : decode cX1_comesTo 16 = .ok (.iload_n 1, 1) := by decide +kernel
theorem dX1_comesTo_17 : decode cX1_comesTo 17 = .ok (.if_icmp .ne 5, 3) := by decide +kernel
theorem dX1_comesTo_20 : decode cX1_comesTo 20 = .ok (.iconst 1, 1) := by decide +kernel
theorem dX1_comesTo_21 : decode cX1_comesTo 21 = .ok (.ireturn, 1) := by decide +kernel
theorem dX1_comesTo_22 : decode cX1_comesTo 22 = .ok (.iinc 2 1, 3) := by decide +kernel
theorem dX1_comesTo_25 : decode cX1_comesTo 25 = .ok (.goto (-23), 3) := by decide +kernel
theorem dX1_comesTo_28 : decode cX1_comesTo 28 = .ok (.iconst 0, 1) := by decide +kernel
theorem dX1_comesTo_29 : decode cX1_comesTo 29 = .ok (.ireturn, 1) := by decide +kernel
set_option maxRecDepth 20000 in
theorem ggX1_countSquares_J6_bitCount_0f7a4 : GoodIn wsX1_countSquares wsJ6_bitCount_0f7a4 := goodIn_r _ [5, 6, 7, 8] (by decide +kernel) (by decide +kernel)
set_option maxRecDepth 20000 in
theorem gX1_countSquares_J6_bitCount_0f7a4 : GoodIn wsX1_countSquares (va_wsS RX1 59 yJ6_bitCount_0f7a4 wsJ6_bitCount_0f7a4) := goodIn_app (goodIn_of _ (by decide +kernel)) ggX1_countSquares_J6_bitCount_0f7a4
theorem dX1_countSquares_0 : decode cX1_countSquares 0 = .ok (.iconst 0, 1) := by decide +kernel
theorem dX1_countSquares_1 : decode cX1_countSquares 1 = .ok (.istore_n 1, 1) := by decide +kernel
theorem dX1_countSquares_2 : decode cX1_countSquares 2 = .ok (.iconst 0, 1) := by decide +kernel
theorem dX1_countSquares_3 : decode cX1_countSquares 3 = .ok (.istore_n 2, 1) := by decide +kernel
theorem dX1_countSquares_4 : decode cX1_countSquares 4 = .ok (.iload_n 2, 1) := by decide +kernel
theorem dX1_countSquares_5 : decode cX1_countSquares 5 = .ok (.bipush 12, 2) := by decide +kernel
theorem dX1_countSquares_7 : decode cX1_countSquares 7 = .ok (.if_icmp .ge 21, 3) := by decide +kernel
theorem dX1_countSquares_10 : decode cX1_countSquares 10 = .ok (.iload_n 1, 1) := by decide +kernel
theorem dX1_countSquares_11 : decode cX1_countSquares 11 = .ok (.aload_n 0, 1) := by decide +kernel
theorem dX1_countSquares_12 : decode cX1_countSquares 12 = .ok (.getfield 18, 3) := by decide +kernel
theorem dX1_countSquares_15 : decode cX1_countSquares 15 = .ok (.iload_n 2, 1) := by decide +kernel
theorem dX1_countSquares_16 : decode cX1_countSquares 16 = .ok (.iaload, 1) := by decide +kernel
theorem dX1_countSquares_17 : decode cX1_countSquares 17 = .ok (.invokestatic 59, 3) := by decide +kernel
theorem dX1_countSquares_20 : decode cX1_countSquares 20 = .ok (.iadd, 1) := by decide +kernel
theorem dX1_countSquares_21 : decode cX1_countSquares 21 = .ok (.istore_n 1, 1) := by decide +kernel
theorem dX1_countSquares_22 : decode cX1_countSquares 22 = .ok (.iinc 2 1, 3) := by decide +kernel
theorem dX1_countSquares_25 : decode cX1_countSquares 25 = .ok (.goto (-21), 3) := by decide +kernel
theorem dX1_countSquares_28 : decode cX1_countSquares 28 = .ok (.iload_n 1, 1) := by decide +kernel
theorem dX1_countSquares_29 : decode cX1_countSquares 29 = .ok (.ireturn, 1) := by decide +kernel
set_option maxRecDepth 20000 in
theorem ggX1_countRuns_J6_bitCount_0f7a4 : GoodIn wsX1_countRuns wsJ6_bitCount_0f7a4 := goodIn_r _ [5, 6, 7, 8] (by decide +kernel) (by decide +kernel)
set_option maxRecDepth 20000 in
theorem gX1_countRuns_J6_bitCount_0f7a4 : GoodIn wsX1_countRuns (va_wsS RX1 59 yJ6_bitCount_0f7a4 wsJ6_bitCount_0f7a4) := goodIn_app (goodIn_of _ (by decide +kernel)) ggX1_countRuns_J6_bitCount_0f7a4
theorem dX1_countRuns_0 : decode cX1_countRuns 0 = .ok (.iconst 0, 1) := by decide +kernel
theorem dX1_countRuns_1 : decode cX1_countRuns 1 = .ok (.istore_n 1, 1) := by decide +kernel
theorem dX1_countRuns_2 : decode cX1_countRuns 2 = .ok (.iconst 0, 1) := by decide +kernel
theorem dX1_countRuns_3 : decode cX1_countRuns 3 = .ok (.istore_n 2, 1) := by decide +kernel
theorem dX1_countRuns_4 : decode cX1_countRuns 4 = .ok (.iload_n 2, 1) := by decide +kernel
theorem dX1_countRuns_5 : decode cX1_countRuns 5 = .ok (.bipush 12, 2) := by decide +kernel
theorem dX1_countRuns_7 : decode cX1_countRuns 7 = .ok (.if_icmp .ge 32, 3) := by decide +kernel
theorem dX1_countRuns_10 : decode cX1_countRuns 10 = .ok (.iload_n 1, 1) := by decide +kernel
theorem dX1_countRuns_11 : decode cX1_countRuns 11 = .ok (.aload_n 0, 1) := by decide +kernel
theorem dX1_countRuns_12 : decode cX1_countRuns 12 = .ok (.getfield 18, 3) := by decide +kernel
theorem dX1_countRuns_15 : decode cX1_countRuns 15 = .ok (.iload_n 2, 1) := by decide +kernel
theorem dX1_countRuns_16 : decode cX1_countRuns 16 = .ok (.iaload, 1) := by decide +kernel
theorem dX1_countRuns_17 : decode cX1_countRuns 17 = .ok (.aload_n 0, 1) := by decide +kernel
theorem dX1_countRuns_18 : decode cX1_countRuns 18 = .ok (.getfield 18, 3) := by decide +kernel
theorem dX1_countRuns_21 : decode cX1_countRuns 21 = .ok (.iload_n 2, 1) := by decide +kernel
theorem dX1_countRuns_22 : decode cX1_countRuns 22 = .ok (.iaload, 1) := by decide +kernel
theorem dX1_countRuns_23 : decode cX1_countRuns 23 = .ok (.iconst 1, 1) := by decide +kernel
theorem dX1_countRuns_24 : decode cX1_countRuns 24 = .ok (.ishl, 1) := by decide +kernel
theorem dX1_countRuns_25 : decode cX1_countRuns 25 = .ok (.iconst (-1), 1) := by decide +kernel
theorem dX1_countRuns_26 : decode cX1_countRuns 26 = .ok (.ixor, 1) := by decide +kernel
theorem dX1_countRuns_27 : decode cX1_countRuns 27 = .ok (.iand, 1) := by decide +kernel
theorem dX1_countRuns_28 : decode cX1_countRuns 28 = .ok (.invokestatic 59, 3) := by decide +kernel
theorem dX1_countRuns_31 : decode cX1_countRuns 31 = .ok (.iadd, 1) := by decide +kernel
theorem dX1_countRuns_32 : decode cX1_countRuns 32 = .ok (.istore_n 1, 1) := by decide +kernel
theorem dX1_countRuns_33 : decode cX1_countRuns 33 = .ok (.iinc 2 1, 3) := by decide +kernel
theorem dX1_countRuns_36 : decode cX1_countRuns 36 = .ok (.goto (-32), 3) := by decide +kernel
theorem dX1_countRuns_39 : decode cX1_countRuns 39 = .ok (.iload_n 1, 1) := by decide +kernel
theorem dX1_countRuns_40 : decode cX1_countRuns 40 = .ok (.ireturn, 1) := by decide +kernel
set_option maxRecDepth 20000 in
theorem ggX1_beginsRun_X1_covers : GoodIn wsX1_beginsRun wsX1_covers := goodIn_r _ [5, 6, 7, 8, 9, 10, 11] (by decide +kernel) (by decide +kernel)
set_option maxRecDepth 20000 in
theorem gX1_beginsRun_X1_covers : GoodIn wsX1_beginsRun (wsV RX1 64 RX1 yX1_covers wsX1_covers) := goodIn_app (goodIn_of _ (by decide +kernel)) ggX1_beginsRun_X1_covers
theorem dX1_beginsRun_0 : decode cX1_beginsRun 0 = .ok (.aload_n 0, 1) := by decide +kernel
theorem dX1_beginsRun_1 : decode cX1_beginsRun 1 = .ok (.iload_n 1, 1) := by decide +kernel
theorem dX1_beginsRun_2 : decode cX1_beginsRun 2 = .ok (.iload_n 2, 1) := by decide +kernel
theorem dX1_beginsRun_3 : decode cX1_beginsRun 3 = .ok (.invokevirtual 64, 3) := by decide +kernel
theorem dX1_beginsRun_6 : decode cX1_beginsRun 6 = .ok (.ifCond .eq 22, 3) := by decide +kernel
theorem dX1_beginsRun_9 : decode cX1_beginsRun 9 = .ok (.iload_n 2, 1) := by decide +kernel
theorem dX1_beginsRun_10 : decode cX1_beginsRun 10 = .ok (.ifCond .eq 14, 3) := by decide +kernel
theorem dX1_beginsRun_13 : decode cX1_beginsRun 13 = .ok (.aload_n 0, 1) := by decide +kernel
theorem dX1_beginsRun_14 : decode cX1_beginsRun 14 = .ok (.iload_n 1, 1) := by decide +kernel
theorem dX1_beginsRun_15 : decode cX1_beginsRun 15 = .ok (.iload_n 2, 1) := by decide +kernel
theorem dX1_beginsRun_16 : decode cX1_beginsRun 16 = .ok (.iconst 1, 1) := by decide +kernel
theorem dX1_beginsRun_17 : decode cX1_beginsRun 17 = .ok (.isub, 1) := by decide +kernel
theorem dX1_beginsRun_18 : decode cX1_beginsRun 18 = .ok (.invokevirtual 64, 3) := by decide +kernel
theorem dX1_beginsRun_21 : decode cX1_beginsRun 21 = .ok (.ifCond .ne 7, 3) := by decide +kernel
theorem dX1_beginsRun_24 : decode cX1_beginsRun 24 = .ok (.iconst 1, 1) := by decide +kernel
theorem dX1_beginsRun_25 : decode cX1_beginsRun 25 = .ok (.goto 4, 3) := by decide +kernel
theorem dX1_beginsRun_28 : decode cX1_beginsRun 28 = .ok (.iconst 0, 1) := by decide +kernel
theorem dX1_beginsRun_29 : decode cX1_beginsRun 29 = .ok (.ireturn, 1) := by decide +kernel
set_option maxRecDepth 20000 in
theorem ggX1_endOfRun_X1_covers : GoodIn wsX1_endOfRun wsX1_covers := goodIn_r _ [5, 6, 7, 8, 9, 10, 11] (by decide +kernel) (by decide +kernel)
set_option maxRecDepth 20000 in
theorem gX1_endOfRun_X1_covers : GoodIn wsX1_endOfRun (wsV RX1 64 RX1 yX1_covers wsX1_covers) := goodIn_app (goodIn_of _ (by decide +kernel)) ggX1_endOfRun_X1_covers
theorem dX1_endOfRun_0 : decode cX1_endOfRun 0 = .ok (.iload_n 2, 1) := by decide +kernel
theorem dX1_endOfRun_1 : decode cX1_endOfRun 1 = .ok (.istore_n 3, 1) := by decide +kernel
theorem dX1_endOfRun_2 : decode cX1_endOfRun 2 = .ok (.iload_n 3, 1) := by decide +kernel
theorem dX1_endOfRun_3 : decode cX1_endOfRun 3 = .ok (.iconst 1, 1) := by decide +kernel
theorem dX1_endOfRun_4 : decode cX1_endOfRun 4 = .ok (.iadd, 1) := by decide +kernel
theorem dX1_endOfRun_5 : decode cX1_endOfRun 5 = .ok (.bipush 12, 2) := by decide +kernel
theorem dX1_endOfRun_7 : decode cX1_endOfRun 7 = .ok (.if_icmp .ge 20, 3) := by decide +kernel
theorem dX1_endOfRun_10 : decode cX1_endOfRun 10 = .ok (.aload_n 0, 1) := by decide +kernel
theorem dX1_endOfRun_11 : decode cX1_endOfRun 11 = .ok (.iload_n 1, 1) := by decide +kernel
theorem dX1_endOfRun_12 : decode cX1_endOfRun 12 = .ok (.iload_n 3, 1) := by decide +kernel
theorem dX1_endOfRun_13 : decode cX1_endOfRun 13 = .ok (.iconst 1, 1) := by decide +kernel
theorem dX1_endOfRun_14 : decode cX1_endOfRun 14 = .ok (.iadd, 1) := by decide +kernel
theorem dX1_endOfRun_15 : decode cX1_endOfRun 15 = .ok (.invokevirtual 64, 3) := by decide +kernel
theorem dX1_endOfRun_18 : decode cX1_endOfRun 18 = .ok (.ifCond .eq 9, 3) := by decide +kernel
theorem dX1_endOfRun_21 : decode cX1_endOfRun 21 = .ok (.iinc 3 1, 3) := by decide +kernel
theorem dX1_endOfRun_24 : decode cX1_endOfRun 24 = .ok (.goto (-22), 3) := by decide +kernel
theorem dX1_endOfRun_27 : decode cX1_endOfRun 27 = .ok (.iload_n 3, 1) := by decide +kernel
theorem dX1_endOfRun_28 : decode cX1_endOfRun 28 = .ok (.ireturn, 1) := by decide +kernel
set_option maxRecDepth 20000 in
theorem ggX1_nearestTo_X1_covers : GoodIn wsX1_nearestTo wsX1_covers := goodIn_r _ [5, 6, 17, 18, 19, 20, 21] (by decide +kernel) (by decide +kernel)
set_option maxRecDepth 20000 in
theorem gX1_nearestTo_X1_covers : GoodIn wsX1_nearestTo (wsV RX1 64 RX1 yX1_covers wsX1_covers) := goodIn_app (goodIn_of _ (by decide +kernel)) ggX1_nearestTo_X1_covers
set_option maxRecDepth 20000 in
theorem ggX1_nearestTo_X4_apart : GoodIn wsX1_nearestTo wsX4_apart := goodIn_r _ [9, 10, 11, 12, 13, 14, 15, 16] (by decide +kernel) (by decide +kernel)
set_option maxRecDepth 20000 in
theorem gX1_nearestTo_X4_apart_n45 : GoodIn wsX1_nearestTo (wsX4_apart) := ggX1_nearestTo_X4_apart
theorem dX1_nearestTo_0 : decode cX1_nearestTo 0 = .ok (.iconst (-1), 1) := by decide +kernel
theorem dX1_nearestTo_1 : decode cX1_nearestTo 1 = .ok (.istore_n 3, 1) := by decide +kernel
theorem dX1_nearestTo_2 : decode cX1_nearestTo 2 = .ok (.bipush 12, 2) := by decide +kernel
theorem dX1_nearestTo_4 : decode cX1_nearestTo 4 = .ok (.istore 4, 2) := by decide +kernel
theorem dX1_nearestTo_6 : decode cX1_nearestTo 6 = .ok (.iconst 0, 1) := by decide +kernel
theorem dX1_nearestTo_7 : decode cX1_nearestTo 7 = .ok (.istore 5, 2) := by decide +kernel
theorem dX1_nearestTo_9 : decode cX1_nearestTo 9 = .ok (.iload 5, 2) := by decide +kernel
theorem dX1_nearestTo_11 : decode cX1_nearestTo 11 = .ok (.sipush 144, 3) := by decide +kernel
theorem dX1_nearestTo_14 : decode cX1_nearestTo 14 = .ok (.if_icmp .ge 50, 3) := by decide +kernel
theorem dX1_nearestTo_17 : decode cX1_nearestTo 17 = .ok (.aload_n 0, 1) := by decide +kernel
theorem dX1_nearestTo_18 : decode cX1_nearestTo 18 = .ok (.iload 5, 2) := by decide +kernel
theorem dX1_nearestTo_20 : decode cX1_nearestTo 20 = .ok (.bipush 12, 2) := by decide +kernel
theorem dX1_nearestTo_22 : decode cX1_nearestTo 22 = .ok (.idiv, 1) := by decide +kernel
theorem dX1_nearestTo_23 : decode cX1_nearestTo 23 = .ok (.iload 5, 2) := by decide +kernel
theorem dX1_nearestTo_25 : decode cX1_nearestTo 25 = .ok (.bipush 12, 2) := by decide +kernel
theorem dX1_nearestTo_27 : decode cX1_nearestTo 27 = .ok (.irem, 1) := by decide +kernel
theorem dX1_nearestTo_28 : decode cX1_nearestTo 28 = .ok (.invokevirtual 64, 3) := by decide +kernel
theorem dX1_nearestTo_31 : decode cX1_nearestTo 31 = .ok (.ifCond .eq 27, 3) := by decide +kernel
theorem dX1_nearestTo_34 : decode cX1_nearestTo 34 = .ok (.iload 5, 2) := by decide +kernel
theorem dX1_nearestTo_36 : decode cX1_nearestTo 36 = .ok (.iload_n 1, 1) := by decide +kernel
theorem dX1_nearestTo_37 : decode cX1_nearestTo 37 = .ok (.iload_n 2, 1) := by decide +kernel
theorem dX1_nearestTo_38 : decode cX1_nearestTo 38 = .ok (.invokestatic 45, 3) := by decide +kernel
theorem dX1_nearestTo_41 : decode cX1_nearestTo 41 = .ok (.iload 4, 2) := by decide +kernel
theorem dX1_nearestTo_43 : decode cX1_nearestTo 43 = .ok (.if_icmp .ge 15, 3) := by decide +kernel
theorem dX1_nearestTo_46 : decode cX1_nearestTo 46 = .ok (.iload 5, 2) := by decide +kernel
theorem dX1_nearestTo_48 : decode cX1_nearestTo 48 = .ok (.istore_n 3, 1) := by decide +kernel
theorem dX1_nearestTo_49 : decode cX1_nearestTo 49 = .ok (.iload 5, 2) := by decide +kernel
theorem dX1_nearestTo_51 : decode cX1_nearestTo 51 = .ok (.iload_n 1, 1) := by decide +kernel
theorem dX1_nearestTo_52 : decode cX1_nearestTo 52 = .ok (.iload_n 2, 1) := by decide +kernel
theorem dX1_nearestTo_53 : decode cX1_nearestTo 53 = .ok (.invokestatic 45, 3) := by decide +kernel
theorem dX1_nearestTo_56 : decode cX1_nearestTo 56 = .ok (.istore 4, 2) := by decide +kernel
theorem dX1_nearestTo_58 : decode cX1_nearestTo 58 = .ok (.iinc 5 1, 3) := by decide +kernel
theorem dX1_nearestTo_61 : decode cX1_nearestTo 61 = .ok (.goto (-52), 3) := by decide +kernel
theorem dX1_nearestTo_64 : decode cX1_nearestTo 64 = .ok (.iload_n 3, 1) := by decide +kernel
theorem dX1_nearestTo_65 : decode cX1_nearestTo 65 = .ok (.ireturn, 1) := by decide +kernel
theorem dX2_init_0 : decode cX2_init 0 = .ok (.aload_n 0, 1) := by decide +kernel
theorem dX2_init_1 : decode cX2_init 1 = .ok (.invokespecial 3, 3) := by decide +kernel
theorem dX2_init_4 : decode cX2_init 4 = .ok (.aload_n 0, 1) := by decide +kernel
theorem dX2_init_5 : decode cX2_init 5 = .ok (.sipush 144, 3) := by decide +kernel
theorem dX2_init_8 : decode cX2_init 8 = .ok (.newarray .int, 2) := by decide +kernel
theorem dX2_init_10 : decode cX2_init 10 = .ok (.putfield 9, 3) := by decide +kernel
theorem dX2_init_13 : decode cX2_init 13 = .ok (.aload_n 0, 1) := by decide +kernel
theorem dX2_init_14 : decode cX2_init 14 = .ok (.sipush 144, 3) := by decide +kernel
theorem dX2_init_17 : decode cX2_init 17 = .ok (.newarray .int, 2) := by decide +kernel
theorem dX2_init_19 : decode cX2_init 19 = .ok (.putfield 15, 3) := by decide +kernel
theorem dX2_init_22 : decode cX2_init 22 = .ok (.aload_n 0, 1) := by decide +kernel
theorem dX2_init_23 : decode cX2_init 23 = .ok (.sipush 144, 3) := by decide +kernel
theorem dX2_init_26 : decode cX2_init 26 = .ok (.newarray .int, 2) := by decide +kernel
theorem dX2_init_28 : decode cX2_init 28 = .ok (.putfield 18, 3) := by decide +kernel
theorem dX2_init_31 : decode cX2_init 31 = .ok (.return_, 1) := by decide +kernel
theorem dX2_stepsOf_0 : decode cX2_stepsOf 0 = .ok (.aload_n 0, 1) := by decide +kernel
theorem dX2_stepsOf_1 : decode cX2_stepsOf 1 = .ok (.getfield 15, 3) := by decide +kernel
theorem dX2_stepsOf_4 : decode cX2_stepsOf 4 = .ok (.iload_n 1, 1) := by decide +kernel
theorem dX2_stepsOf_5 : decode cX2_stepsOf 5 = .ok (.iaload, 1) := by decide +kernel
theorem dX2_stepsOf_6 : decode cX2_stepsOf 6 = .ok (.sipush 144, 3) := by decide +kernel
theorem dX2_stepsOf_9 : decode cX2_stepsOf 9 = .ok (.if_icmp .lt 7, 3) := by decide +kernel
theorem dX2_stepsOf_12 : decode cX2_stepsOf 12 = .ok (.iconst (-1), 1) := by decide +kernel
theorem dX2_stepsOf_13 : decode cX2_stepsOf 13 = .ok (.goto 9, 3) := by decide +kernel
theorem dX2_stepsOf_16 : decode cX2_stepsOf 16 = .ok (.aload_n 0, 1) := by decide +kernel
theorem dX2_stepsOf_17 : decode cX2_stepsOf 17 = .ok (.getfield 15, 3) := by decide +kernel
theorem dX2_stepsOf_20 : decode cX2_stepsOf 20 = .ok (.iload_n 1, 1) := by decide +kernel
theorem dX2_stepsOf_21 : decode cX2_stepsOf 21 = .ok (.iaload, 1) := by decide +kernel
theorem dX2_stepsOf_22 : decode cX2_stepsOf 22 = .ok (.ireturn, 1) := by decide +kernel
set_option maxRecDepth 20000 in
theorem ggX2_spread_X2_findExits : GoodIn wsX2_spread wsX2_findExits := goodIn_r _ [7, 8, 9, 10, 11, 12, 13, 14, 15, 6, 16, 25, 26, 27, 28, 29, 30, 31, 32, 33, 34, 35, 36] (by decide +kernel) (by decide +kernel)
set_option maxRecDepth 20000 in
theorem gX2_spread_X2_findExits : GoodIn wsX2_spread (wsV RX2 21 RX2 yX2_findExits wsX2_findExits) := goodIn_app (goodIn_of _ (by decide +kernel)) ggX2_spread_X2_findExits
set_option maxRecDepth 20000 in
theorem ggX2_spread_J7_fill_53178 : GoodIn wsX2_spread wsJ7_fill_53178 := goodIn_r _ [12] (by decide +kernel) (by decide +kernel)
set_option maxRecDepth 20000 in
theorem gX2_spread_J7_fill_53178 : GoodIn wsX2_spread (va_wsS RX2 25 yJ7_fill_53178 wsJ7_fill_53178) := goodIn_app (goodIn_of _ (by decide +kernel)) ggX2_spread_J7_fill_53178
set_option maxRecDepth 20000 in
theorem ggX2_spread_X2_stepFrom : GoodIn wsX2_spread wsX2_stepFrom := goodIn_r _ [20, 8, 1, 2, 21, 22, 23, 6, 24, 25, 26, 27] (by decide +kernel) (by decide +kernel)
set_option maxRecDepth 20000 in
theorem gX2_spread_X2_stepFrom : GoodIn wsX2_spread (wsV RX2 31 RX2 yX2_stepFrom wsX2_stepFrom) := goodIn_app (goodIn_of _ (by decide +kernel)) ggX2_spread_X2_stepFrom
theorem dX2_spread_0 : decode cX2_spread 0 = .ok (.aload_n 0, 1) := by decide +kernel
theorem dX2_spread_1 : decode cX2_spread 1 = .ok (.aload_n 1, 1) := by decide +kernel
theorem dX2_spread_2 : decode cX2_spread 2 = .ok (.iload_n 2, 1) := by decide +kernel
theorem dX2_spread_3 : decode cX2_spread 3 = .ok (.invokevirtual 21, 3) := by decide +kernel
theorem dX2_spread_6 : decode cX2_spread 6 = .ok (.aload_n 0, 1) := by decide +kernel
theorem dX2_spread_7 : decode cX2_spread 7 = .ok (.getfield 15, 3) := by decide +kernel
theorem dX2_spread_10 : decode cX2_spread 10 = .ok (.sipush 144, 3) := by decide +kernel
theorem dX2_spread_13 : decode cX2_spread 13 = .ok (.invokestatic 25, 3) := by decide +kernel
theorem dX2_spread_16 : decode cX2_spread 16 = .ok (.aload_n 0, 1) := by decide +kernel
theorem dX2_spread_17 : decode cX2_spread 17 = .ok (.getfield 15, 3) := by decide +kernel
theorem dX2_spread_20 : decode cX2_spread 20 = .ok (.iload_n 3, 1) := by decide +kernel
theorem dX2_spread_21 : decode cX2_spread 21 = .ok (.iconst 0, 1) := by decide +kernel
theorem dX2_spread_22 : decode cX2_spread 22 = .ok (.iastore, 1) := by decide +kernel
theorem dX2_spread_23 : decode cX2_spread 23 = .ok (.aload_n 0, 1) := by decide +kernel
theorem dX2_spread_24 : decode cX2_spread 24 = .ok (.getfield 18, 3) := by decide +kernel
theorem dX2_spread_27 : decode cX2_spread 27 = .ok (.iconst 0, 1) := by decide +kernel
theorem dX2_spread_28 : decode cX2_spread 28 = .ok (.iload_n 3, 1) := by decide +kernel
theorem dX2_spread_29 : decode cX2_spread 29 = .ok (.iastore, 1) := by decide +kernel
theorem dX2_spread_30 : decode cX2_spread 30 = .ok (.iconst 1, 1) := by decide +kernel
theorem dX2_spread_31 : decode cX2_spread 31 = .ok (.istore 4, 2) := by decide +kernel
theorem dX2_spread_33 : decode cX2_spread 33 = .ok (.iconst 0, 1) := by decide +kernel
theorem dX2_spread_34 : decode cX2_spread 34 = .ok (.istore 5, 2) := by decide +kernel
theorem dX2_spread_36 : decode cX2_spread 36 = .ok (.iload 5, 2) := by decide +kernel
theorem dX2_spread_38 : decode cX2_spread 38 = .ok (.iload 4, 2) := by decide +kernel
theorem dX2_spread_40 : decode cX2_spread 40 = .ok (.if_icmp .ge 32, 3) := by decide +kernel
theorem dX2_spread_43 : decode cX2_spread 43 = .ok (.iload 5, 2) := by decide +kernel
theorem dX2_spread_45 : decode cX2_spread 45 = .ok (.sipush 144, 3) := by decide +kernel
theorem dX2_spread_48 : decode cX2_spread 48 = .ok (.if_icmp .ge 24, 3) := by decide +kernel
theorem dX2_spread_51 : decode cX2_spread 51 = .ok (.aload_n 0, 1) := by decide +kernel
theorem dX2_spread_52 : decode cX2_spread 52 = .ok (.aload_n 0, 1) := by decide +kernel
theorem dX2_spread_53 : decode cX2_spread 53 = .ok (.getfield 18, 3) := by decide +kernel
theorem dX2_spread_56 : decode cX2_spread 56 = .ok (.iload 5, 2) := by decide +kernel
theorem dX2_spread_58 : decode cX2_spread 58 = .ok (.iaload, 1) := by decide +kernel
theorem dX2_spread_59 : decode cX2_spread 59 = .ok (.iload 4, 2) := by decide +kernel
theorem dX2_spread_61 : decode cX2_spread 61 = .ok (.invokevirtual 31, 3) := by decide +kernel
theorem dX2_spread_64 : decode cX2_spread 64 = .ok (.istore 4, 2) := by decide +kernel
theorem dX2_spread_66 : decode cX2_spread 66 = .ok (.iinc 5 1, 3) := by decide +kernel
theorem dX2_spread_69 : decode cX2_spread 69 = .ok (.goto (-33), 3) := by decide +kernel
theorem dX2_spread_72 : decode cX2_spread 72 = .ok (.iload 4, 2) := by decide +kernel
theorem dX2_spread_74 : decode cX2_spread 74 = .ok (.ireturn, 1) := by decide +kernel
set_option maxRecDepth 20000 in
theorem ggX2_stepFrom_X2_isNew : GoodIn wsX2_stepFrom wsX2_isNew := goodIn_r _ [8, 2, 9, 10, 11] (by decide +kernel) (by decide +kernel)
set_option maxRecDepth 20000 in
theorem gX2_stepFrom_X2_isNew : GoodIn wsX2_stepFrom (wsV RX2 35 RX2 yX2_isNew wsX2_isNew) := goodIn_app (goodIn_of _ (by decide +kernel)) ggX2_stepFrom_X2_isNew
theorem dX2_stepFrom_0 : decode cX2_stepFrom 0 = .ok (.iload_n 2, 1) := by decide +kernel
theorem dX2_stepFrom_1 : decode cX2_stepFrom 1 = .ok (.istore_n 3, 1) := by decide +kernel
theorem dX2_stepFrom_2 : decode cX2_stepFrom 2 = .ok (.iconst 0, 1) := by decide +kernel
theorem dX2_stepFrom_3 : decode cX2_stepFrom 3 = .ok (.istore 4, 2) := by decide +kernel
theorem dX2_stepFrom_5 : decode cX2_stepFrom 5 = .ok (.iload 4, 2) := by decide +kernel
theorem dX2_stepFrom_7 : decode cX2_stepFrom 7 = .ok (.bipush 26, 2) := by decide +kernel
theorem dX2_stepFrom_9 : decode cX2_stepFrom 9 = .ok (.if_icmp .gt 75, 3) := by decide +kernel
theorem dX2_stepFrom_12 : decode cX2_stepFrom 12 = .ok (.iload_n 1, 1) := by decide +kernel
theorem dX2_stepFrom_13 : decode cX2_stepFrom 13 = .ok (.iload 4, 2) := by decide +kernel
theorem dX2_stepFrom_15 : decode cX2_stepFrom 15 = .ok (.iadd, 1) := by decide +kernel
theorem dX2_stepFrom_16 : decode cX2_stepFrom 16 = .ok (.bipush 13, 2) := by decide +kernel
theorem dX2_stepFrom_18 : decode cX2_stepFrom 18 = .ok (.isub, 1) := by decide +kernel
theorem dX2_stepFrom_19 : decode cX2_stepFrom 19 = .ok (.istore 5, 2) := by decide +kernel
theorem dX2_stepFrom_21 : decode cX2_stepFrom 21 = .ok (.aload_n 0, 1) := by decide +kernel
theorem dX2_stepFrom_22 : decode cX2_stepFrom 22 = .ok (.getfield 9, 3) := by decide +kernel
theorem dX2_stepFrom_25 : decode cX2_stepFrom 25 = .ok (.iload_n 1, 1) := by decide +kernel
theorem dX2_stepFrom_26 : decode cX2_stepFrom 26 = .ok (.iaload, 1) := by decide +kernel
theorem dX2_stepFrom_27 : decode cX2_stepFrom 27 = .ok (.iload 4, 2) := by decide +kernel
theorem dX2_stepFrom_29 : decode cX2_stepFrom 29 = .ok (.ishr, 1) := by decide +kernel
theorem dX2_stepFrom_30 : decode cX2_stepFrom 30 = .ok (.iconst 1, 1) := by decide +kernel
theorem dX2_stepFrom_31 : decode cX2_stepFrom 31 = .ok (.iand, 1) := by decide +kernel
theorem dX2_stepFrom_32 : decode cX2_stepFrom 32 = .ok (.iconst 1, 1) := by decide +kernel
theorem dX2_stepFrom_33 : decode cX2_stepFrom 33 = .ok (.if_icmp .ne 45, 3) := by decide +kernel
theorem dX2_stepFrom_36 : decode cX2_stepFrom 36 = .ok (.aload_n 0, 1) := by decide +kernel
theorem dX2_stepFrom_37 : decode cX2_stepFrom 37 = .ok (.iload 5, 2) := by decide +kernel
theorem dX2_stepFrom_39 : decode cX2_stepFrom 39 = .ok (.invokevirtual 35, 3) := by decide +kernel
theorem dX2_stepFrom_42 : decode cX2_stepFrom 42 = .ok (.ifCond .eq 36, 3) := by decide +kernel
theorem dX2_stepFrom_45 : decode cX2_stepFrom 45 = .ok (.iload_n 3, 1) := by decide +kernel
theorem dX2_stepFrom_46 : decode cX2_stepFrom 46 = .ok (.sipush 144, 3) := by decide +kernel
theorem dX2_stepFrom_49 : decode cX2_stepFrom 49 = .ok (.if_icmp .ge 29, 3) := by decide +kernel
theorem dX2_stepFrom_52 : decode cX2_stepFrom 52 = .ok (.aload_n 0, 1) := by decide +kernel
theorem dX2_stepFrom_53 : decode cX2_stepFrom 53 = .ok (.getfield 15, 3) := by decide +kernel
theorem dX2_stepFrom_56 : decode cX2_stepFrom 56 = .ok (.iload 5, 2) := by decide +kernel
theorem dX2_stepFrom_58 : decode cX2_stepFrom 58 = .ok (.aload_n 0, 1) := by decide +kernel
theorem dX2_stepFrom_59 : decode cX2_stepFrom 59 = .ok (.getfield 15, 3) := by decide +kernel
theorem dX2_stepFrom_62 : decode cX2_stepFrom 62 = .ok (.iload_n 1, 1) := by decide +kernel
theorem dX2_stepFrom_63 : decode cX2_stepFrom 63 = .ok (.iaload, 1) := by decide +kernel
theorem dX2_stepFrom_64 : decode cX2_stepFrom 64 = .ok (.iconst 1, 1) := by decide +kernel
theorem dX2_stepFrom_65 : decode cX2_stepFrom 65 = .ok (.iadd, 1) := by decide +kernel
theorem dX2_stepFrom_66 : decode cX2_stepFrom 66 = .ok (.iastore, 1) := by decide +kernel
theorem dX2_stepFrom_67 : decode cX2_stepFrom 67 = .ok (.aload_n 0, 1) := by decide +kernel
theorem dX2_stepFrom_68 : decode cX2_stepFrom 68 = .ok (.getfield 18, 3) := by decide +kernel
theorem dX2_stepFrom_71 : decode cX2_stepFrom 71 = .ok (.iload_n 3, 1) := by decide +kernel
theorem dX2_stepFrom_72 : decode cX2_stepFrom 72 = .ok (.iload 5, 2) := by decide +kernel
theorem dX2_stepFrom_74 : decode cX2_stepFrom 74 = .ok (.iastore, 1) := by decide +kernel
theorem dX2_stepFrom_75 : decode cX2_stepFrom 75 = .ok (.iinc 3 1, 3) := by decide +kernel
theorem dX2_stepFrom_78 : decode cX2_stepFrom 78 = .ok (.iinc 4 1, 3) := by decide +kernel
theorem dX2_stepFrom_81 : decode cX2_stepFrom 81 = .ok (.goto (-76), 3) := by decide +kernel
theorem dX2_stepFrom_84 : decode cX2_stepFrom 84 = .ok (.iload_n 3, 1) := by decide +kernel
theorem dX2_stepFrom_85 : decode cX2_stepFrom 85 = .ok (.ireturn, 1) := by decide +kernel
theorem dX2_isNew_0 : decode cX2_isNew 0 = .ok (.iload_n 1, 1) := by decide +kernel
theorem dX2_isNew_1 : decode cX2_isNew 1 = .ok (.ifCond .lt 26, 3) := by decide +kernel
theorem dX2_isNew_4 : decode cX2_isNew 4 = .ok (.iload_n 1, 1) := by decide +kernel
theorem dX2_isNew_5 : decode cX2_isNew 5 = .ok (.sipush 144, 3) := by decide +kernel
theorem dX2_isNew_8 : decode cX2_isNew 8 = .ok (.if_icmp .ge 19, 3) := by decide +kernel
theorem dX2_isNew_11 : decode cX2_isNew 11 = .ok (.aload_n 0, 1) := by decide +kernel
theorem dX2_isNew_12 : decode cX2_isNew 12 = .ok (.getfield 15, 3) := by decide +kernel
theorem dX2_isNew_15 : decode cX2_isNew 15 = .ok (.iload_n 1, 1) := by decide +kernel
theorem dX2_isNew_16 : decode cX2_isNew 16 = .ok (.iaload, 1) := by decide +kernel
theorem dX2_isNew_17 : decode cX2_isNew 17 = .ok (.sipush 144, 3) := by decide +kernel
theorem dX2_isNew_20 : decode cX2_isNew 20 = .ok (.if_icmp .ne 7, 3) := by decide +kernel
theorem dX2_isNew_23 : decode cX2_isNew 23 = .ok (.iconst 1, 1) := by decide +kernel
theorem dX2_isNew_24 : decode cX2_isNew 24 = .ok (.goto 4, 3) := by decide +kernel
theorem dX2_isNew_27 : decode cX2_isNew 27 = .ok (.iconst 0, 1) := by decide +kernel
theorem dX2_isNew_28 : decode cX2_isNew 28 = .ok (.ireturn, 1) := by decide +kernel
set_option maxRecDepth 20000 in
theorem ggX2_findExits_J7_fill_53178 : GoodIn wsX2_findExits wsJ7_fill_53178 := goodIn_r _ [5] (by decide +kernel) (by decide +kernel)
set_option maxRecDepth 20000 in
theorem gX2_findExits_J7_fill_53178 : GoodIn wsX2_findExits (va_wsS RX2 25 yJ7_fill_53178 wsJ7_fill_53178) := goodIn_app (goodIn_of _ (by decide +kernel)) ggX2_findExits_J7_fill_53178
set_option maxRecDepth 20000 in
theorem ggX2_findExits_X2_addExits : GoodIn wsX2_findExits wsX2_addExits := goodIn_r _ [10, 1, 18, 19, 20, 21, 22, 11, 12, 13] (by decide +kernel) (by decide +kernel)
set_option maxRecDepth 20000 in
theorem gX2_findExits_X2_addExits : GoodIn wsX2_findExits (wsV RX2 49 RX2 yX2_addExits wsX2_addExits) := goodIn_app (goodIn_of _ (by decide +kernel)) ggX2_findExits_X2_addExits
theorem dX2_findExits_0 : decode cX2_findExits 0 = .ok (.aload_n 0, 1) := by decide +kernel
theorem dX2_findExits_1 : decode cX2_findExits 1 = .ok (.getfield 9, 3) := by decide +kernel
theorem dX2_findExits_4 : decode cX2_findExits 4 = .ok (.iconst 0, 1) := by decide +kernel
theorem dX2_findExits_5 : decode cX2_findExits 5 = .ok (.invokestatic 25, 3) := by decide +kernel
theorem dX2_findExits_8 : decode cX2_findExits 8 = .ok (.iconst 0, 1) := by decide +kernel
theorem dX2_findExits_9 : decode cX2_findExits 9 = .ok (.istore_n 3, 1) := by decide +kernel
theorem dX2_findExits_10 : decode cX2_findExits 10 = .ok (.iload_n 3, 1) := by decide +kernel
theorem dX2_findExits_11 : decode cX2_findExits 11 = .ok (.iload_n 2, 1) := by decide +kernel
theorem dX2_findExits_12 : decode cX2_findExits 12 = .ok (.if_icmp .ge 25, 3) := by decide +kernel
theorem dX2_findExits_15 : decode cX2_findExits 15 = .ok (.aload_n 0, 1) := by decide +kernel
theorem dX2_findExits_16 : decode cX2_findExits 16 = .ok (.aload_n 1, 1) := by decide +kernel
theorem dX2_findExits_17 : decode cX2_findExits 17 = .ok (.iload_n 3, 1) := by decide +kernel
theorem dX2_findExits_18 : decode cX2_findExits 18 = .ok (.aaload, 1) := by decide +kernel
theorem dX2_findExits_19 : decode cX2_findExits 19 = .ok (.getfield 39, 3) := by decide +kernel
theorem dX2_findExits_22 : decode cX2_findExits 22 = .ok (.aload_n 1, 1) := by decide +kernel
theorem dX2_findExits_23 : decode cX2_findExits 23 = .ok (.iload_n 3, 1) := by decide +kernel
theorem dX2_findExits_24 : decode cX2_findExits 24 = .ok (.aaload, 1) := by decide +kernel
theorem dX2_findExits_25 : decode cX2_findExits 25 = .ok (.getfield 45, 3) := by decide +kernel
theorem dX2_findExits_28 : decode cX2_findExits 28 = .ok (.invokevirtual 49, 3) := by decide +kernel
theorem dX2_findExits_31 : decode cX2_findExits 31 = .ok (.iinc 3 1, 3) := by decide +kernel
theorem dX2_findExits_34 : decode cX2_findExits 34 = .ok (.goto (-24), 3) := by decide +kernel
theorem dX2_findExits_37 : decode cX2_findExits 37 = .ok (.return_, 1) := by decide +kernel
theorem dX2_addExits_0 : decode cX2_addExits 0 = .ok (.iconst 1, 1) := by decide +kernel
theorem dX2_addExits_1 : decode cX2_addExits 1 = .ok (.istore_n 3, 1) := by decide +kernel
theorem dX2_addExits_2 : decode cX2_addExits 2 = .ok (.iload_n 3, 1) := by decide +kernel
theorem dX2_addExits_3 : decode cX2_addExits 3 = .ok (.aload_n 1, 1) := by decide +kernel
theorem dX2_addExits_4 : decode cX2_addExits 4 = .ok (.getfield 53, 3) := by decide +kernel
theorem dX2_addExits_7 : decode cX2_addExits 7 = .ok (.if_icmp .ge 71, 3) := by decide +kernel
theorem dX2_addExits_10 : decode cX2_addExits 10 = .ok (.aload_n 1, 1) := by decide +kernel
theorem dX2_addExits_11 : decode cX2_addExits 11 = .ok (.getfield 59, 3) := by decide +kernel
theorem dX2_addExits_14 : decode cX2_addExits 14 = .ok (.iload_n 3, 1) := by decide +kernel
theorem dX2_addExits_15 : decode cX2_addExits 15 = .ok (.iconst 1, 1) := by decide +kernel
theorem dX2_addExits_16 : decode cX2_addExits 16 = .ok (.isub, 1) := by decide +kernel
theorem dX2_addExits_17 : decode cX2_addExits 17 = .ok (.iaload, 1) := by decide +kernel
theorem dX2_addExits_18 : decode cX2_addExits 18 = .ok (.istore 4, 2) := by decide +kernel
theorem dX2_addExits_20 : decode cX2_addExits 20 = .ok (.aload_n 1, 1) := by decide +kernel
theorem dX2_addExits_21 : decode cX2_addExits 21 = .ok (.getfield 59, 3) := by decide +kernel
theorem dX2_addExits_24 : decode cX2_addExits 24 = .ok (.iload_n 3, 1) := by decide +kernel
theorem dX2_addExits_25 : decode cX2_addExits 25 = .ok (.iaload, 1) := by decide +kernel
theorem dX2_addExits_26 : decode cX2_addExits 26 = .ok (.istore 5, 2) := by decide +kernel
theorem dX2_addExits_28 : decode cX2_addExits 28 = .ok (.aload_n 0, 1) := by decide +kernel
theorem dX2_addExits_29 : decode cX2_addExits 29 = .ok (.getfield 9, 3) := by decide +kernel
theorem dX2_addExits_32 : decode cX2_addExits 32 = .ok (.iload 4, 2) := by decide +kernel
theorem dX2_addExits_34 : decode cX2_addExits 34 = .ok (.dup2, 1) := by decide +kernel
theorem dX2_addExits_35 : decode cX2_addExits 35 = .ok (.iaload, 1) := by decide +kernel
theorem dX2_addExits_36 : decode cX2_addExits 36 = .ok (.iconst 1, 1) := by decide +kernel
theorem dX2_addExits_37 : decode cX2_addExits 37 = .ok (.iload 5, 2) := by decide +kernel
theorem dX2_addExits_39 : decode cX2_addExits 39 = .ok (.iload 4, 2) := by decide +kernel
theorem dX2_addExits_41 : decode cX2_addExits 41 = .ok (.isub, 1) := by decide +kernel
theorem dX2_addExits_42 : decode cX2_addExits 42 = .ok (.bipush 13, 2) := by decide +kernel
theorem dX2_addExits_44 : decode cX2_addExits 44 = .ok (.iadd, 1) := by decide +kernel
theorem dX2_addExits_45 : decode cX2_addExits 45 = .ok (.ishl, 1) := by decide +kernel
theorem dX2_addExits_46 : decode cX2_addExits 46 = .ok (.ior, 1) := by decide +kernel
theorem dX2_addExits_47 : decode cX2_addExits 47 = .ok (.iastore, 1) := by decide +kernel
theorem dX2_addExits_48 : decode cX2_addExits 48 = .ok (.iload_n 2, 1) := by decide +kernel
theorem dX2_addExits_49 : decode cX2_addExits 49 = .ok (.ifCond .ne 23, 3) := by decide +kernel
theorem dX2_addExits_52 : decode cX2_addExits 52 = .ok (.aload_n 0, 1) := by decide +kernel
theorem dX2_addExits_53 : decode cX2_addExits 53 = .ok (.getfield 9, 3) := by decide +kernel
theorem dX2_addExits_56 : decode cX2_addExits 56 = .ok (.iload 5, 2) := by decide +kernel
theorem dX2_addExits_58 : decode cX2_addExits 58 = .ok (.dup2, 1) := by decide +kernel
theorem dX2_addExits_59 : decode cX2_addExits 59 = .ok (.iaload, 1) := by decide +kernel
theorem dX2_addExits_60 : decode cX2_addExits 60 = .ok (.iconst 1, 1) := by decide +kernel
theorem dX2_addExits_61 : decode cX2_addExits 61 = .ok (.iload 4, 2) := by decide +kernel
theorem dX2_addExits_63 : decode cX2_addExits 63 = .ok (.iload 5, 2) := by decide +kernel
theorem dX2_addExits_65 : decode cX2_addExits 65 = .ok (.isub, 1) := by decide +kernel
theorem dX2_addExits_66 : decode cX2_addExits 66 = .ok (.bipush 13, 2) := by decide +kernel
theorem dX2_addExits_68 : decode cX2_addExits 68 = .ok (.iadd, 1) := by decide +kernel
theorem dX2_addExits_69 : decode cX2_addExits 69 = .ok (.ishl, 1) := by decide +kernel
theorem dX2_addExits_70 : decode cX2_addExits 70 = .ok (.ior, 1) := by decide +kernel
theorem dX2_addExits_71 : decode cX2_addExits 71 = .ok (.iastore, 1) := by decide +kernel
theorem dX2_addExits_72 : decode cX2_addExits 72 = .ok (.iinc 3 1, 3) := by decide +kernel
theorem dX2_addExits_75 : decode cX2_addExits 75 = .ok (.goto (-73), 3) := by decide +kernel
theorem dX2_addExits_78 : decode cX2_addExits 78 = .ok (.return_, 1) := by decide +kernel
set_option maxRecDepth 20000 in
theorem ggX2_tellBackwards_J7_fill_53178 : GoodIn wsX2_tellBackwards wsJ7_fill_53178 := goodIn_r _ [5] (by decide +kernel) (by decide +kernel)
set_option maxRecDepth 20000 in
theorem gX2_tellBackwards_J7_fill_53178 : GoodIn wsX2_tellBackwards (va_wsS RX2 25 yJ7_fill_53178 wsJ7_fill_53178) := goodIn_app (goodIn_of _ (by decide +kernel)) ggX2_tellBackwards_J7_fill_53178
set_option maxRecDepth 20000 in
theorem ggX2_tellBackwards_X2_tellAlong : GoodIn wsX2_tellBackwards wsX2_tellAlong := goodIn_r _ [10, 11, 12, 13, 9, 14, 1, 22, 23, 24, 25, 26, 15, 16, 17] (by decide +kernel) (by decide +kernel)
set_option maxRecDepth 20000 in
theorem gX2_tellBackwards_X2_tellAlong : GoodIn wsX2_tellBackwards (wsV RX2 62 RX2 yX2_tellAlong wsX2_tellAlong) := goodIn_app (goodIn_of _ (by decide +kernel)) ggX2_tellBackwards_X2_tellAlong
theorem dX2_tellBackwards_0 : decode cX2_tellBackwards 0 = .ok (.aload_n 0, 1) := by decide +kernel
theorem dX2_tellBackwards_1 : decode cX2_tellBackwards 1 = .ok (.getfield 15, 3) := by decide +kernel
theorem dX2_tellBackwards_4 : decode cX2_tellBackwards 4 = .ok (.sipush 144, 3) := by decide +kernel
theorem dX2_tellBackwards_7 : decode cX2_tellBackwards 7 = .ok (.invokestatic 25, 3) := by decide +kernel
theorem dX2_tellBackwards_10 : decode cX2_tellBackwards 10 = .ok (.aload_n 0, 1) := by decide +kernel
theorem dX2_tellBackwards_11 : decode cX2_tellBackwards 11 = .ok (.getfield 15, 3) := by decide +kernel
theorem dX2_tellBackwards_14 : decode cX2_tellBackwards 14 = .ok (.iload_n 3, 1) := by decide +kernel
theorem dX2_tellBackwards_15 : decode cX2_tellBackwards 15 = .ok (.iconst 0, 1) := by decide +kernel
theorem dX2_tellBackwards_16 : decode cX2_tellBackwards 16 = .ok (.iastore, 1) := by decide +kernel
theorem dX2_tellBackwards_17 : decode cX2_tellBackwards 17 = .ok (.iconst 1, 1) := by decide +kernel
theorem dX2_tellBackwards_18 : decode cX2_tellBackwards 18 = .ok (.istore 4, 2) := by decide +kernel
theorem dX2_tellBackwards_20 : decode cX2_tellBackwards 20 = .ok (.iconst 0, 1) := by decide +kernel
theorem dX2_tellBackwards_21 : decode cX2_tellBackwards 21 = .ok (.istore 5, 2) := by decide +kernel
theorem dX2_tellBackwards_23 : decode cX2_tellBackwards 23 = .ok (.iload 5, 2) := by decide +kernel
theorem dX2_tellBackwards_25 : decode cX2_tellBackwards 25 = .ok (.sipush 144, 3) := by decide +kernel
theorem dX2_tellBackwards_28 : decode cX2_tellBackwards 28 = .ok (.if_icmp .gt 56, 3) := by decide +kernel
theorem dX2_tellBackwards_31 : decode cX2_tellBackwards 31 = .ok (.iload 4, 2) := by decide +kernel
theorem dX2_tellBackwards_33 : decode cX2_tellBackwards 33 = .ok (.ifCond .eq 51, 3) := by decide +kernel
theorem dX2_tellBackwards_36 : decode cX2_tellBackwards 36 = .ok (.iconst 0, 1) := by decide +kernel
theorem dX2_tellBackwards_37 : decode cX2_tellBackwards 37 = .ok (.istore 4, 2) := by decide +kernel
theorem dX2_tellBackwards_39 : decode cX2_tellBackwards 39 = .ok (.iconst 0, 1) := by decide +kernel
theorem dX2_tellBackwards_40 : decode cX2_tellBackwards 40 = .ok (.istore 6, 2) := by decide +kernel
theorem dX2_tellBackwards_42 : decode cX2_tellBackwards 42 = .ok (.iload 6, 2) := by decide +kernel
theorem dX2_tellBackwards_44 : decode cX2_tellBackwards 44 = .ok (.iload_n 2, 1) := by decide +kernel
theorem dX2_tellBackwards_45 : decode cX2_tellBackwards 45 = .ok (.if_icmp .ge 33, 3) := by decide +kernel
theorem dX2_tellBackwards_48 : decode cX2_tellBackwards 48 = .ok (.aload_n 0, 1) := by decide +kernel
theorem dX2_tellBackwards_49 : decode cX2_tellBackwards 49 = .ok (.aload_n 1, 1) := by decide +kernel
theorem dX2_tellBackwards_50 : decode cX2_tellBackwards 50 = .ok (.iload 6, 2) := by decide +kernel
theorem dX2_tellBackwards_52 : decode cX2_tellBackwards 52 = .ok (.aaload, 1) := by decide +kernel
theorem dX2_tellBackwards_53 : decode cX2_tellBackwards 53 = .ok (.getfield 39, 3) := by decide +kernel
theorem dX2_tellBackwards_56 : decode cX2_tellBackwards 56 = .ok (.aload_n 1, 1) := by decide +kernel
theorem dX2_tellBackwards_57 : decode cX2_tellBackwards 57 = .ok (.iload 6, 2) := by decide +kernel
theorem dX2_tellBackwards_59 : decode cX2_tellBackwards 59 = .ok (.aaload, 1) := by decide +kernel
theorem dX2_tellBackwards_60 : decode cX2_tellBackwards 60 = .ok (.getfield 45, 3) := by decide +kernel
theorem dX2_tellBackwards_63 : decode cX2_tellBackwards 63 = .ok (.invokevirtual 62, 3) := by decide +kernel
theorem dX2_tellBackwards_66 : decode cX2_tellBackwards 66 = .ok (.ifCond .eq 6, 3) := by decide +kernel
theorem dX2_tellBackwards_69 : decode cX2_tellBackwards 69 = .ok (.iconst 1, 1) := by decide +kernel
theorem dX2_tellBackwards_70 : decode cX2_tellBackwards 70 = .ok (.istore 4, 2) := by decide +kernel
theorem dX2_tellBackwards_72 : decode cX2_tellBackwards 72 = .ok (.iinc 6 1, 3) := by decide +kernel
theorem dX2_tellBackwards_75 : decode cX2_tellBackwards 75 = .ok (.goto (-33), 3) := by decide +kernel
theorem dX2_tellBackwards_78 : decode cX2_tellBackwards 78 = .ok (.iinc 5 1, 3) := by decide +kernel
theorem dX2_tellBackwards_81 : decode cX2_tellBackwards 81 = .ok (.goto (-58), 3) := by decide +kernel
theorem dX2_tellBackwards_84 : decode cX2_tellBackwards 84 = .ok (.return_, 1) := by decide +kernel
set_option maxRecDepth 20000 in
theorem ggX2_tellAlong_X2_tell : GoodIn wsX2_tellAlong wsX2_tell := goodIn_r _ [5, 6, 12, 13, 14] (by decide +kernel) (by decide +kernel)
set_option maxRecDepth 20000 in
theorem gX2_tellAlong_X2_tell : GoodIn wsX2_tellAlong (wsV RX2 66 RX2 yX2_tell wsX2_tell) := goodIn_app (goodIn_of _ (by decide +kernel)) ggX2_tellAlong_X2_tell
theorem dX2_tellAlong_0 : decode cX2_tellAlong 0 = .ok (.iconst 0, 1) := by decide +kernel
theorem dX2_tellAlong_1 : decode cX2_tellAlong 1 = .ok (.istore_n 3, 1) := by decide +kernel
theorem dX2_tellAlong_2 : decode cX2_tellAlong 2 = .ok (.aload_n 1, 1) := by decide +kernel
theorem dX2_tellAlong_3 : decode cX2_tellAlong 3 = .ok (.getfield 53, 3) := by decide +kernel
theorem dX2_tellAlong_6 : decode cX2_tellAlong 6 = .ok (.iconst 1, 1) := by decide +kernel
theorem dX2_tellAlong_7 : decode cX2_tellAlong 7 = .ok (.isub, 1) := by decide +kernel
theorem dX2_tellAlong_8 : decode cX2_tellAlong 8 = .ok (.istore 4, 2) := by decide +kernel
theorem dX2_tellAlong_10 : decode cX2_tellAlong 10 = .ok (.iload 4, 2) := by decide +kernel
theorem dX2_tellAlong_12 : decode cX2_tellAlong 12 = .ok (.ifCond .le 34, 3) := by decide +kernel
theorem dX2_tellAlong_15 : decode cX2_tellAlong 15 = .ok (.aload_n 0, 1) := by decide +kernel
theorem dX2_tellAlong_16 : decode cX2_tellAlong 16 = .ok (.aload_n 1, 1) := by decide +kernel
theorem dX2_tellAlong_17 : decode cX2_tellAlong 17 = .ok (.getfield 59, 3) := by decide +kernel
theorem dX2_tellAlong_20 : decode cX2_tellAlong 20 = .ok (.iload 4, 2) := by decide +kernel
theorem dX2_tellAlong_22 : decode cX2_tellAlong 22 = .ok (.iconst 1, 1) := by decide +kernel
theorem dX2_tellAlong_23 : decode cX2_tellAlong 23 = .ok (.isub, 1) := by decide +kernel
theorem dX2_tellAlong_24 : decode cX2_tellAlong 24 = .ok (.iaload, 1) := by decide +kernel
theorem dX2_tellAlong_25 : decode cX2_tellAlong 25 = .ok (.aload_n 1, 1) := by decide +kernel
theorem dX2_tellAlong_26 : decode cX2_tellAlong 26 = .ok (.getfield 59, 3) := by decide +kernel
theorem dX2_tellAlong_29 : decode cX2_tellAlong 29 = .ok (.iload 4, 2) := by decide +kernel
theorem dX2_tellAlong_31 : decode cX2_tellAlong 31 = .ok (.iaload, 1) := by decide +kernel
theorem dX2_tellAlong_32 : decode cX2_tellAlong 32 = .ok (.invokevirtual 66, 3) := by decide +kernel
theorem dX2_tellAlong_35 : decode cX2_tellAlong 35 = .ok (.ifCond .eq 5, 3) := by decide +kernel
theorem dX2_tellAlong_38 : decode cX2_tellAlong 38 = .ok (.iconst 1, 1) := by decide +kernel
theorem dX2_tellAlong_39 : decode cX2_tellAlong 39 = .ok (.istore_n 3, 1) := by decide +kernel
theorem dX2_tellAlong_40 : decode cX2_tellAlong 40 = .ok (.iinc 4 (-1), 3) := by decide +kernel
theorem dX2_tellAlong_43 : decode cX2_tellAlong 43 = .ok (.goto (-33), 3) := by decide +kernel
theorem dX2_tellAlong_46 : decode cX2_tellAlong 46 = .ok (.iconst 1, 1) := by decide +kernel
theorem dX2_tellAlong_47 : decode cX2_tellAlong 47 = .ok (.istore 4, 2) := by decide +kernel
theorem dX2_tellAlong_49 : decode cX2_tellAlong 49 = .ok (.iload 4, 2) := by decide +kernel
theorem dX2_tellAlong_51 : decode cX2_tellAlong 51 = .ok (.aload_n 1, 1) := by decide +kernel
theorem dX2_tellAlong_52 : decode cX2_tellAlong 52 = .ok (.getfield 53, 3) := by decide +kernel
theorem dX2_tellAlong_55 : decode cX2_tellAlong 55 = .ok (.if_icmp .ge 38, 3) := by decide +kernel
theorem dX2_tellAlong_58 : decode cX2_tellAlong 58 = .ok (.iload_n 2, 1) := by decide +kernel
theorem dX2_tellAlong_59 : decode cX2_tellAlong 59 = .ok (.ifCond .ne 34, 3) := by decide +kernel
theorem dX2_tellAlong_62 : decode cX2_tellAlong 62 = .ok (.aload_n 0, 1) := by decide +kernel
theorem dX2_tellAlong_63 : decode cX2_tellAlong 63 = .ok (.aload_n 1, 1) := by decide +kernel
theorem dX2_tellAlong_64 : decode cX2_tellAlong 64 = .ok (.getfield 59, 3) := by decide +kernel
theorem dX2_tellAlong_67 : decode cX2_tellAlong 67 = .ok (.iload 4, 2) := by decide +kernel
theorem dX2_tellAlong_69 : decode cX2_tellAlong 69 = .ok (.iaload, 1) := by decide +kernel
theorem dX2_tellAlong_70 : decode cX2_tellAlong 70 = .ok (.aload_n 1, 1) := by decide +kernel
theorem dX2_tellAlong_71 : decode cX2_tellAlong 71 = .ok (.getfield 59, 3) := by decide +kernel
theorem dX2_tellAlong_74 : decode cX2_tellAlong 74 = .ok (.iload 4, 2) := by decide +kernel
theorem dX2_tellAlong_76 : decode cX2_tellAlong 76 = .ok (.iconst 1, 1) := by decide +kernel
theorem dX2_tellAlong_77 : decode cX2_tellAlong 77 = .ok (.isub, 1) := by decide +kernel
theorem dX2_tellAlong_78 : decode cX2_tellAlong 78 = .ok (.iaload, 1) := by decide +kernel
theorem dX2_tellAlong_79 : decode cX2_tellAlong 79 = .ok (.invokevirtual 66, 3) := by decide +kernel
theorem dX2_tellAlong_82 : decode cX2_tellAlong 82 = .ok (.ifCond .eq 5, 3) := by decide +kernel
theorem dX2_tellAlong_85 : decode cX2_tellAlong 85 = .ok (.iconst 1, 1) := by decide +kernel
theorem dX2_tellAlong_86 : decode cX2_tellAlong 86 = .ok (.istore_n 3, 1) := by decide +kernel
theorem dX2_tellAlong_87 : decode cX2_tellAlong 87 = .ok (.iinc 4 1, 3) := by decide +kernel
theorem dX2_tellAlong_90 : decode cX2_tellAlong 90 = .ok (.goto (-41), 3) := by decide +kernel
theorem dX2_tellAlong_93 : decode cX2_tellAlong 93 = .ok (.iload_n 3, 1) := by decide +kernel
theorem dX2_tellAlong_94 : decode cX2_tellAlong 94 = .ok (.ireturn, 1) := by decide +kernel
theorem dX2_tell_0 : decode cX2_tell 0 = .ok (.aload_n 0, 1) := by decide +kernel
theorem dX2_tell_1 : decode cX2_tell 1 = .ok (.getfield 15, 3) := by decide +kernel
theorem dX2_tell_4 : decode cX2_tell 4 = .ok (.iload_n 2, 1) := by decide +kernel
theorem dX2_tell_5 : decode cX2_tell 5 = .ok (.iaload, 1) := by decide +kernel
theorem dX2_tell_6 : decode cX2_tell 6 = .ok (.iconst 1, 1) := by decide +kernel
theorem dX2_tell_7 : decode cX2_tell 7 = .ok (.iadd, 1) := by decide +kernel
theorem dX2_tell_8 : decode cX2_tell 8 = .ok (.aload_n 0, 1) := by decide +kernel
theorem dX2_tell_9 : decode cX2_tell 9 = .ok (.getfield 15, 3) := by decide +kernel
theorem dX2_tell_12 : decode cX2_tell 12 = .ok (.iload_n 1, 1) := by decide +kernel
theorem dX2_tell_13 : decode cX2_tell 13 = .ok (.iaload, 1) := by decide +kernel
theorem dX2_tell_14 : decode cX2_tell 14 = .ok (.if_icmp .lt 5, 3) := by decide +kernel
theorem dX2_tell_17 : decode cX2_tell 17 = .ok (.iconst 0, 1) := by decide +kernel
theorem dX2_tell_18 : decode cX2_tell 18 = .ok (.ireturn, 1) := by decide +kernel
theorem dX2_tell_19 : decode cX2_tell 19 = .ok (.aload_n 0, 1) := by decide +kernel
theorem dX2_tell_20 : decode cX2_tell 20 = .ok (.getfield 15, 3) := by decide +kernel
theorem dX2_tell_23 : decode cX2_tell 23 = .ok (.iload_n 1, 1) := by decide +kernel
theorem dX2_tell_24 : decode cX2_tell 24 = .ok (.aload_n 0, 1) := by decide +kernel
theorem dX2_tell_25 : decode cX2_tell 25 = .ok (.getfield 15, 3) := by decide +kernel
theorem dX2_tell_28 : decode cX2_tell 28 = .ok (.iload_n 2, 1) := by decide +kernel
theorem dX2_tell_29 : decode cX2_tell 29 = .ok (.iaload, 1) := by decide +kernel
theorem dX2_tell_30 : decode cX2_tell 30 = .ok (.iconst 1, 1) := by decide +kernel
theorem dX2_tell_31 : decode cX2_tell 31 = .ok (.iadd, 1) := by decide +kernel
theorem dX2_tell_32 : decode cX2_tell 32 = .ok (.iastore, 1) := by decide +kernel
theorem dX2_tell_33 : decode cX2_tell 33 = .ok (.iconst 1, 1) := by decide +kernel
theorem dX2_tell_34 : decode cX2_tell 34 = .ok (.ireturn, 1) := by decide +kernel
set_option maxRecDepth 20000 in
theorem ggX4_init_X2_init : GoodIn wsX4_init wsX2_init := goodIn_r _ [17, 18, 2, 3, 4, 19, 20, 21, 42, 43, 44] (by decide +kernel) (by decide +kernel)
set_option maxRecDepth 20000 in
theorem gX4_init_X2_init_n27 : GoodIn wsX4_init (wsX2_init) := ggX4_init_X2_init
set_option maxRecDepth 20000 in
theorem ggX4_init_X0_init : GoodIn wsX4_init wsX0_init := goodIn_r _ [23, 24, 2, 3, 4, 25, 26, 27, 28, 29, 30, 31, 32, 33, 34, 35, 45, 46, 47, 48, 49, 50, 51, 52, 53] (by decide +kernel) (by decide +kernel)
set_option maxRecDepth 20000 in
theorem gX4_init_X0_init_n32 : GoodIn wsX4_init (wsX0_init) := ggX4_init_X0_init
theorem dX4_init_0 : decode cX4_init 0 = .ok (.aload_n 0, 1) := by decide +kernel
theorem dX4_init_1 : decode cX4_init 1 = .ok (.invokespecial 3, 3) := by decide +kernel
theorem dX4_init_4 : decode cX4_init 4 = .ok (.aload_n 0, 1) := by decide +kernel
theorem dX4_init_5 : decode cX4_init 5 = .ok (.bipush 24, 2) := by decide +kernel
theorem dX4_init_7 : decode cX4_init 7 = .ok (.newarray .int, 2) := by decide +kernel
theorem dX4_init_9 : decode cX4_init 9 = .ok (.putfield 9, 3) := by decide +kernel
theorem dX4_init_12 : decode cX4_init 12 = .ok (.aload_n 0, 1) := by decide +kernel
theorem dX4_init_13 : decode cX4_init 13 = .ok (.bipush 16, 2) := by decide +kernel
theorem dX4_init_15 : decode cX4_init 15 = .ok (.anewarray 13, 3) := by decide +kernel
theorem dX4_init_18 : decode cX4_init 18 = .ok (.putfield 15, 3) := by decide +kernel
theorem dX4_init_21 : decode cX4_init 21 = .ok (.aload_n 0, 1) := by decide +kernel
theorem dX4_init_22 : decode cX4_init 22 = .ok (.iconst 4, 1) := by decide +kernel
theorem dX4_init_23 : decode cX4_init 23 = .ok (.newarray .int, 2) := by decide +kernel
theorem dX4_init_25 : decode cX4_init 25 = .ok (.putfield 19, 3) := by decide +kernel
theorem dX4_init_28 : decode cX4_init 28 = .ok (.aload_n 0, 1) := by decide +kernel
theorem dX4_init_29 : decode cX4_init 29 = .ok (.iconst 4, 1) := by decide +kernel
theorem dX4_init_30 : decode cX4_init 30 = .ok (.newarray .int, 2) := by decide +kernel
theorem dX4_init_32 : decode cX4_init 32 = .ok (.putfield 22, 3) := by decide +kernel
theorem dX4_init_35 : decode cX4_init 35 = .ok (.aload_n 0, 1) := by decide +kernel
theorem dX4_init_36 : decode cX4_init 36 = .ok (.new 25, 3) := by decide +kernel
theorem dX4_init_39 : decode cX4_init 39 = .ok (.dup, 1) := by decide +kernel
theorem dX4_init_40 : decode cX4_init 40 = .ok (.invokespecial 27, 3) := by decide +kernel
theorem dX4_init_43 : decode cX4_init 43 = .ok (.putfield 28, 3) := by decide +kernel
theorem dX4_init_46 : decode cX4_init 46 = .ok (.iconst 0, 1) := by decide +kernel
theorem dX4_init_47 : decode cX4_init 47 = .ok (.istore_n 1, 1) := by decide +kernel
theorem dX4_init_48 : decode cX4_init 48 = .ok (.iload_n 1, 1) := by decide +kernel
theorem dX4_init_49 : decode cX4_init 49 = .ok (.iconst 4, 1) := by decide +kernel
theorem dX4_init_50 : decode cX4_init 50 = .ok (.if_icmp .ge 16, 3) := by decide +kernel
theorem dX4_init_53 : decode cX4_init 53 = .ok (.aload_n 0, 1) := by decide +kernel
theorem dX4_init_54 : decode cX4_init 54 = .ok (.getfield 9, 3) := by decide +kernel
theorem dX4_init_57 : decode cX4_init 57 = .ok (.iload_n 1, 1) := by decide +kernel
theorem dX4_init_58 : decode cX4_init 58 = .ok (.iconst 1, 1) := by decide +kernel
theorem dX4_init_59 : decode cX4_init 59 = .ok (.iastore, 1) := by decide +kernel
theorem dX4_init_60 : decode cX4_init 60 = .ok (.iinc 1 1, 3) := by decide +kernel
theorem dX4_init_63 : decode cX4_init 63 = .ok (.goto (-15), 3) := by decide +kernel
theorem dX4_init_66 : decode cX4_init 66 = .ok (.iconst 0, 1) := by decide +kernel
theorem dX4_init_67 : decode cX4_init 67 = .ok (.istore_n 1, 1) := by decide +kernel
theorem dX4_init_68 : decode cX4_init 68 = .ok (.iload_n 1, 1) := by decide +kernel
theorem dX4_init_69 : decode cX4_init 69 = .ok (.bipush 16, 2) := by decide +kernel
theorem dX4_init_71 : decode cX4_init 71 = .ok (.if_icmp .ge 22, 3) := by decide +kernel
theorem dX4_init_74 : decode cX4_init 74 = .ok (.aload_n 0, 1) := by decide +kernel
theorem dX4_init_75 : decode cX4_init 75 = .ok (.getfield 15, 3) := by decide +kernel
theorem dX4_init_78 : decode cX4_init 78 = .ok (.iload_n 1, 1) := by decide +kernel
theorem dX4_init_79 : decode cX4_init 79 = .ok (.new 13, 3) := by decide +kernel
theorem dX4_init_82 : decode cX4_init 82 = .ok (.dup, 1) := by decide +kernel
theorem dX4_init_83 : decode cX4_init 83 = .ok (.invokespecial 32, 3) := by decide +kernel
theorem dX4_init_86 : decode cX4_init 86 = .ok (.aastore, 1) := by decide +kernel
theorem dX4_init_87 : decode cX4_init 87 = .ok (.iinc 1 1, 3) := by decide +kernel
theorem dX4_init_90 : decode cX4_init 90 = .ok (.goto (-22), 3) := by decide +kernel
theorem dX4_init_93 : decode cX4_init 93 = .ok (.return_, 1) := by decide +kernel
set_option maxRecDepth 20000 in
theorem ggX4_addStreet_X4_checkName : GoodIn wsX4_addStreet wsX4_checkName := goodIn_ca (goodIn_r _ [8, 9, 10, 11, 12, 7, 13] (by decide +kernel) (by decide +kernel)) (goodIn_sub (fun _ h => List.mem_cons_of_mem _ (List.mem_append_right _ h)) (by decide +kernel))
set_option maxRecDepth 20000 in
theorem gX4_addStreet_X4_checkName : GoodIn wsX4_addStreet (va_wsS RX4 33 yX4_checkName wsX4_checkName) := goodIn_app (goodIn_of _ (by decide +kernel)) ggX4_addStreet_X4_checkName
set_option maxRecDepth 20000 in
theorem ggX4_addStreet_X0_takeName : GoodIn wsX4_addStreet wsX0_takeName := goodIn_r _ [17, 18, 19, 12, 7, 13, 26, 27, 28, 29] (by decide +kernel) (by decide +kernel)
set_option maxRecDepth 20000 in
theorem gX4_addStreet_X0_takeName_n48 : GoodIn wsX4_addStreet (wsX0_takeName) := ggX4_addStreet_X0_takeName
theorem dX4_addStreet_0 : decode cX4_addStreet 0 = .ok (.iload_n 1, 1) := by decide +kernel
theorem dX4_addStreet_1 : decode cX4_addStreet 1 = .ok (.iload_n 2, 1) := by decide +kernel
theorem dX4_addStreet_2 : decode cX4_addStreet 2 = .ok (.invokestatic 33, 3) := by decide +kernel
theorem dX4_addStreet_5 : decode cX4_addStreet 5 = .ok (.aload_n 0, 1) := by decide +kernel
theorem dX4_addStreet_6 : decode cX4_addStreet 6 = .ok (.getfield 37, 3) := by decide +kernel
theorem dX4_addStreet_9 : decode cX4_addStreet 9 = .ok (.bipush 16, 2) := by decide +kernel
theorem dX4_addStreet_11 : decode cX4_addStreet 11 = .ok (.if_icmp .lt 13, 3) := by decide +kernel
theorem dX4_addStreet_14 : decode cX4_addStreet 14 = .ok (.new 41, 3) := by decide +kernel
theorem dX4_addStreet_17 : decode cX4_addStreet 17 = .ok (.dup, 1) := by decide +kernel
theorem dX4_addStreet_18 : decode cX4_addStreet 18 = .ok (.ldc 43, 2) := by decide +kernel
theorem dX4_addStreet_20 : decode cX4_addStreet 20 = .ok (.invokespecial 45, 3) := by decide +kernel
theorem dX4_addStreet_23 : decode cX4_addStreet 23 = .ok (.athrow, 1) := by decide +kernel
theorem dX4_addStreet_24 : decode cX4_addStreet 24 = .ok (.aload_n 0, 1) := by decide +kernel
theorem dX4_addStreet_25 : decode cX4_addStreet 25 = .ok (.getfield 15, 3) := by decide +kernel
theorem dX4_addStreet_28 : decode cX4_addStreet 28 = .ok (.aload_n 0, 1) := by decide +kernel
theorem dX4_addStreet_29 : decode cX4_addStreet 29 = .ok (.getfield 37, 3) := by decide +kernel
theorem dX4_addStreet_32 : decode cX4_addStreet 32 = .ok (.aaload, 1) := by decide +kernel
theorem dX4_addStreet_33 : decode cX4_addStreet 33 = .ok (.iload_n 1, 1) := by decide +kernel
theorem dX4_addStreet_34 : decode cX4_addStreet 34 = .ok (.iload_n 2, 1) := by decide +kernel
theorem dX4_addStreet_35 : decode cX4_addStreet 35 = .ok (.invokevirtual 48, 3) := by decide +kernel
theorem dX4_addStreet_38 : decode cX4_addStreet 38 = .ok (.aload_n 0, 1) := by decide +kernel
theorem dX4_addStreet_39 : decode cX4_addStreet 39 = .ok (.dup, 1) := by decide +kernel
theorem dX4_addStreet_40 : decode cX4_addStreet 40 = .ok (.getfield 37, 3) := by decide +kernel
theorem dX4_addStreet_43 : decode cX4_addStreet 43 = .ok (.iconst 1, 1) := by decide +kernel
theorem dX4_addStreet_44 : decode cX4_addStreet 44 = .ok (.iadd, 1) := by decide +kernel
theorem dX4_addStreet_45 : decode cX4_addStreet 45 = .ok (.putfield 37, 3) := by decide +kernel
theorem dX4_addStreet_48 : decode cX4_addStreet 48 = .ok (.aload_n 0, 1) := by decide +kernel
theorem dX4_addStreet_49 : decode cX4_addStreet 49 = .ok (.getfield 37, 3) := by decide +kernel
theorem dX4_addStreet_52 : decode cX4_addStreet 52 = .ok (.iconst 1, 1) := by decide +kernel
theorem dX4_addStreet_53 : decode cX4_addStreet 53 = .ok (.isub, 1) := by decide +kernel
theorem dX4_addStreet_54 : decode cX4_addStreet 54 = .ok (.ireturn, 1) := by decide +kernel
set_option maxRecDepth 20000 in
theorem ggX4_addPoint_X4_checkStreet : GoodIn wsX4_addPoint wsX4_checkStreet := goodIn_ca (goodIn_r _ [10, 11, 12, 13, 51, 52, 53, 54, 55, 56] (by decide +kernel) (by decide +kernel)) (goodIn_sub (fun _ h => List.mem_cons_of_mem _ (List.mem_append_right _ h)) (by decide +kernel))
set_option maxRecDepth 20000 in
theorem gX4_addPoint_X4_checkStreet : GoodIn wsX4_addPoint (wsV RX4 51 RX4 yX4_checkStreet wsX4_checkStreet) := goodIn_app (goodIn_of _ (by decide +kernel)) ggX4_addPoint_X4_checkStreet
set_option maxRecDepth 20000 in
theorem ggX4_addPoint_X4_checkSquare : GoodIn wsX4_addPoint wsX4_checkSquare := goodIn_ca (goodIn_r _ [16, 11, 12] (by decide +kernel) (by decide +kernel)) (goodIn_sub (fun _ h => List.mem_cons_of_mem _ (List.mem_append_right _ h)) (by decide +kernel))
set_option maxRecDepth 20000 in
theorem gX4_addPoint_X4_checkSquare : GoodIn wsX4_addPoint (va_wsS RX4 55 yX4_checkSquare wsX4_checkSquare) := goodIn_app (goodIn_of _ (by decide +kernel)) ggX4_addPoint_X4_checkSquare
set_option maxRecDepth 20000 in
theorem ggX4_addPoint_X1_canGoTo : GoodIn wsX4_addPoint wsX1_canGoTo := goodIn_r _ [20, 21, 22, 23, 24, 25, 26, 61, 62, 63, 64, 65] (by decide +kernel) (by decide +kernel)
set_option maxRecDepth 20000 in
theorem gX4_addPoint_X1_canGoTo_n62 : GoodIn wsX4_addPoint (wsX1_canGoTo) := ggX4_addPoint_X1_canGoTo
set_option maxRecDepth 20000 in
theorem ggX4_addPoint_X1_goTo : GoodIn wsX4_addPoint wsX1_goTo := goodIn_r _ [29, 21, 22, 30, 31, 32, 33, 34, 18, 35, 36, 37, 9, 38, 39, 40, 41, 42, 43, 44, 45, 46, 47, 24, 25, 26, 48, 49, 50, 61, 62, 63, 64, 65] (by decide +kernel) (by decide +kernel)
set_option maxRecDepth 20000 in
theorem gX4_addPoint_X1_goTo_n78 : GoodIn wsX4_addPoint (wsX1_goTo) := ggX4_addPoint_X1_goTo
theorem dX4_addPoint_0 : decode cX4_addPoint 0 = .ok (.aload_n 0, 1) := by decide +kernel
theorem dX4_addPoint_1 : decode cX4_addPoint 1 = .ok (.iload_n 1, 1) := by decide +kernel
theorem dX4_addPoint_2 : decode cX4_addPoint 2 = .ok (.invokevirtual 51, 3) := by decide +kernel
theorem dX4_addPoint_5 : decode cX4_addPoint 5 = .ok (.iload_n 2, 1) := by decide +kernel
theorem dX4_addPoint_6 : decode cX4_addPoint 6 = .ok (.iload_n 3, 1) := by decide +kernel
theorem dX4_addPoint_7 : decode cX4_addPoint 7 = .ok (.invokestatic 55, 3) := by decide +kernel
theorem dX4_addPoint_10 : decode cX4_addPoint 10 = .ok (.aload_n 0, 1) := by decide +kernel
theorem dX4_addPoint_11 : decode cX4_addPoint 11 = .ok (.getfield 15, 3) := by decide +kernel
theorem dX4_addPoint_14 : decode cX4_addPoint 14 = .ok (.iload_n 1, 1) := by decide +kernel
theorem dX4_addPoint_15 : decode cX4_addPoint 15 = .ok (.aaload, 1) := by decide +kernel
theorem dX4_addPoint_16 : decode cX4_addPoint 16 = .ok (.getfield 58, 3) := by decide +kernel
theorem dX4_addPoint_19 : decode cX4_addPoint 19 = .ok (.astore 4, 2) := by decide +kernel
theorem dX4_addPoint_21 : decode cX4_addPoint 21 = .ok (.aload 4, 2) := by decide +kernel
theorem dX4_addPoint_23 : decode cX4_addPoint 23 = .ok (.iload_n 2, 1) := by decide +kernel
theorem dX4_addPoint_24 : decode cX4_addPoint 24 = .ok (.iload_n 3, 1) := by decide +kernel
theorem dX4_addPoint_25 : decode cX4_addPoint 25 = .ok (.invokevirtual 62, 3) := by decide +kernel
theorem dX4_addPoint_28 : decode cX4_addPoint 28 = .ok (.ifCond .ne 13, 3) := by decide +kernel
theorem dX4_addPoint_31 : decode cX4_addPoint 31 = .ok (.new 68, 3) := by decide +kernel
theorem dX4_addPoint_34 : decode cX4_addPoint 34 = .ok (.dup, 1) := by decide +kernel
theorem dX4_addPoint_35 : decode cX4_addPoint 35 = .ok (.ldc 70, 2) := by decide +kernel
theorem dX4_addPoint_37 : decode cX4_addPoint 37 = .ok (.invokespecial 72, 3) := by decide +kernel
theorem dX4_addPoint_40 : decode cX4_addPoint 40 = .ok (.athrow, 1) := by decide +kernel
theorem dX4_addPoint_41 : decode cX4_addPoint 41 = .ok (.aload 4, 2) := by decide +kernel
theorem dX4_addPoint_43 : decode cX4_addPoint 43 = .ok (.getfield 73, 3) := by decide +kernel
theorem dX4_addPoint_46 : decode cX4_addPoint 46 = .ok (.bipush 10, 2) := by decide +kernel
theorem dX4_addPoint_48 : decode cX4_addPoint 48 = .ok (.if_icmp .lt 13, 3) := by decide +kernel
theorem dX4_addPoint_51 : decode cX4_addPoint 51 = .ok (.new 41, 3) := by decide +kernel
theorem dX4_addPoint_54 : decode cX4_addPoint 54 = .ok (.dup, 1) := by decide +kernel
theorem dX4_addPoint_55 : decode cX4_addPoint 55 = .ok (.ldc 76, 2) := by decide +kernel
theorem dX4_addPoint_57 : decode cX4_addPoint 57 = .ok (.invokespecial 45, 3) := by decide +kernel
theorem dX4_addPoint_60 : decode cX4_addPoint 60 = .ok (.athrow, 1) := by decide +kernel
theorem dX4_addPoint_61 : decode cX4_addPoint 61 = .ok (.aload 4, 2) := by decide +kernel
theorem dX4_addPoint_63 : decode cX4_addPoint 63 = .ok (.iload_n 2, 1) := by decide +kernel
theorem dX4_addPoint_64 : decode cX4_addPoint 64 = .ok (.iload_n 3, 1) := by decide +kernel
theorem dX4_addPoint_65 : decode cX4_addPoint 65 = .ok (.invokevirtual 78, 3) := by decide +kernel
theorem dX4_addPoint_68 : decode cX4_addPoint 68 = .ok (.aload 4, 2) := by decide +kernel
theorem dX4_addPoint_70 : decode cX4_addPoint 70 = .ok (.getfield 81, 3) := by decide +kernel
theorem dX4_addPoint_73 : decode cX4_addPoint 73 = .ok (.ireturn, 1) := by decide +kernel
set_option maxRecDepth 20000 in
theorem ggX4_dropPoint_X4_checkStreet : GoodIn wsX4_dropPoint wsX4_checkStreet := goodIn_ca (goodIn_r _ [8, 9, 10, 11, 25, 26, 27, 28, 29, 30] (by decide +kernel) (by decide +kernel)) (goodIn_sub (fun _ h => List.mem_cons_of_mem _ (List.mem_append_right _ h)) (by decide +kernel))
set_option maxRecDepth 20000 in
theorem gX4_dropPoint_X4_checkStreet : GoodIn wsX4_dropPoint (wsV RX4 51 RX4 yX4_checkStreet wsX4_checkStreet) := goodIn_app (goodIn_of _ (by decide +kernel)) ggX4_dropPoint_X4_checkStreet
set_option maxRecDepth 20000 in
theorem ggX4_dropPoint_X1_goBack : GoodIn wsX4_dropPoint wsX1_goBack := goodIn_r _ [15, 16, 17, 18, 19, 20, 21, 22, 23, 24, 35, 36, 37, 38, 39] (by decide +kernel) (by decide +kernel)
set_option maxRecDepth 20000 in
theorem gX4_dropPoint_X1_goBack_n86 : GoodIn wsX4_dropPoint (wsX1_goBack) := ggX4_dropPoint_X1_goBack
theorem dX4_dropPoint_0 : decode cX4_dropPoint 0 = .ok (.aload_n 0, 1) := by decide +kernel
theorem dX4_dropPoint_1 : decode cX4_dropPoint 1 = .ok (.iload_n 1, 1) := by decide +kernel
theorem dX4_dropPoint_2 : decode cX4_dropPoint 2 = .ok (.invokevirtual 51, 3) := by decide +kernel
theorem dX4_dropPoint_5 : decode cX4_dropPoint 5 = .ok (.aload_n 0, 1) := by decide +kernel
theorem dX4_dropPoint_6 : decode cX4_dropPoint 6 = .ok (.getfield 15, 3) := by decide +kernel
theorem dX4_dropPoint_9 : decode cX4_dropPoint 9 = .ok (.iload_n 1, 1) := by decide +kernel
theorem dX4_dropPoint_10 : decode cX4_dropPoint 10 = .ok (.aaload, 1) := by decide +kernel
theorem dX4_dropPoint_11 : decode cX4_dropPoint 11 = .ok (.getfield 58, 3) := by decide +kernel
theorem dX4_dropPoint_14 : decode cX4_dropPoint 14 = .ok (.astore_n 2, 1) := by decide +kernel
theorem dX4_dropPoint_15 : decode cX4_dropPoint 15 = .ok (.aload_n 2, 1) := by decide +kernel
theorem dX4_dropPoint_16 : decode cX4_dropPoint 16 = .ok (.getfield 73, 3) := by decide +kernel
theorem dX4_dropPoint_19 : decode cX4_dropPoint 19 = .ok (.ifCond .ne 13, 3) := by decide +kernel
theorem dX4_dropPoint_22 : decode cX4_dropPoint 22 = .ok (.new 41, 3) := by decide +kernel
theorem dX4_dropPoint_25 : decode cX4_dropPoint 25 = .ok (.dup, 1) := by decide +kernel
theorem dX4_dropPoint_26 : decode cX4_dropPoint 26 = .ok (.ldc 84, 2) := by decide +kernel
theorem dX4_dropPoint_28 : decode cX4_dropPoint 28 = .ok (.invokespecial 45, 3) := by decide +kernel
theorem dX4_dropPoint_31 : decode cX4_dropPoint 31 = .ok (.athrow, 1) := by decide +kernel
theorem dX4_dropPoint_32 : decode cX4_dropPoint 32 = .ok (.aload_n 2, 1) := by decide +kernel
theorem dX4_dropPoint_33 : decode cX4_dropPoint 33 = .ok (.invokevirtual 86, 3) := by decide +kernel
theorem dX4_dropPoint_36 : decode cX4_dropPoint 36 = .ok (.aload_n 2, 1) := by decide +kernel
theorem dX4_dropPoint_37 : decode cX4_dropPoint 37 = .ok (.getfield 81, 3) := by decide +kernel
theorem dX4_dropPoint_40 : decode cX4_dropPoint 40 = .ok (.ireturn, 1) := by decide +kernel
set_option maxRecDepth 20000 in
theorem ggX4_setOneWay_X4_checkStreet : GoodIn wsX4_setOneWay wsX4_checkStreet := goodIn_ca (goodIn_r _ [6, 7, 8, 9, 10, 11, 12, 13, 14, 15] (by decide +kernel) (by decide +kernel)) (goodIn_sub (fun _ h => List.mem_cons_of_mem _ (List.mem_append_right _ h)) (by decide +kernel))
set_option maxRecDepth 20000 in
theorem gX4_setOneWay_X4_checkStreet : GoodIn wsX4_setOneWay (wsV RX4 51 RX4 yX4_checkStreet wsX4_checkStreet) := goodIn_app (goodIn_of _ (by decide +kernel)) ggX4_setOneWay_X4_checkStreet
theorem dX4_setOneWay_0 : decode cX4_setOneWay 0 = .ok (.aload_n 0, 1) := by decide +kernel
theorem dX4_setOneWay_1 : decode cX4_setOneWay 1 = .ok (.iload_n 1, 1) := by decide +kernel
theorem dX4_setOneWay_2 : decode cX4_setOneWay 2 = .ok (.invokevirtual 51, 3) := by decide +kernel
theorem dX4_setOneWay_5 : decode cX4_setOneWay 5 = .ok (.aload_n 0, 1) := by decide +kernel
theorem dX4_setOneWay_6 : decode cX4_setOneWay 6 = .ok (.getfield 15, 3) := by decide +kernel
theorem dX4_setOneWay_9 : decode cX4_setOneWay 9 = .ok (.iload_n 1, 1) := by decide +kernel
theorem dX4_setOneWay_10 : decode cX4_setOneWay 10 = .ok (.aaload, 1) := by decide +kernel
theorem dX4_setOneWay_11 : decode cX4_setOneWay 11 = .ok (.getfield 89, 3) := by decide +kernel
theorem dX4_setOneWay_14 : decode cX4_setOneWay 14 = .ok (.istore_n 3, 1) := by decide +kernel
theorem dX4_setOneWay_15 : decode cX4_setOneWay 15 = .ok (.aload_n 0, 1) := by decide +kernel
theorem dX4_setOneWay_16 : decode cX4_setOneWay 16 = .ok (.getfield 15, 3) := by decide +kernel
theorem dX4_setOneWay_19 : decode cX4_setOneWay 19 = .ok (.iload_n 1, 1) := by decide +kernel
theorem dX4_setOneWay_20 : decode cX4_setOneWay 20 = .ok (.aaload, 1) := by decide +kernel
theorem dX4_setOneWay_21 : decode cX4_setOneWay 21 = .ok (.iload_n 2, 1) := by decide +kernel
theorem dX4_setOneWay_22 : decode cX4_setOneWay 22 = .ok (.putfield 89, 3) := by decide +kernel
theorem dX4_setOneWay_25 : decode cX4_setOneWay 25 = .ok (.iload_n 3, 1) := by decide +kernel
theorem dX4_setOneWay_26 : decode cX4_setOneWay 26 = .ok (.ireturn, 1) := by decide +kernel
set_option maxRecDepth 20000 in
theorem ggX4_rename_X4_checkStreet : GoodIn wsX4_rename wsX4_checkStreet := goodIn_ca (goodIn_r _ [6, 7, 8, 9, 24, 25, 26, 27, 28, 29] (by decide +kernel) (by decide +kernel)) (goodIn_sub (fun _ h => List.mem_cons_of_mem _ (List.mem_append_left _ (List.mem_append_right _ h))) (by decide +kernel))
set_option maxRecDepth 20000 in
theorem gX4_rename_X4_checkStreet : GoodIn wsX4_rename (wsV RX4 51 RX4 yX4_checkStreet wsX4_checkStreet) := goodIn_app (goodIn_of _ (by decide +kernel)) ggX4_rename_X4_checkStreet
set_option maxRecDepth 20000 in
theorem ggX4_rename_X4_checkName : GoodIn wsX4_rename wsX4_checkName := goodIn_ca (goodIn_r _ [12, 13, 14, 15, 16, 5, 17] (by decide +kernel) (by decide +kernel)) (goodIn_sub (fun _ h => List.mem_cons_of_mem _ (List.mem_append_right _ h)) (by decide +kernel))
set_option maxRecDepth 20000 in
theorem gX4_rename_X4_checkName : GoodIn wsX4_rename (va_wsS RX4 33 yX4_checkName wsX4_checkName) := goodIn_app (goodIn_of _ (by decide +kernel)) ggX4_rename_X4_checkName
set_option maxRecDepth 20000 in
theorem ggX4_rename_X0_takeName : GoodIn wsX4_rename wsX0_takeName := goodIn_r _ [21, 22, 23, 16, 5, 17, 30, 31, 32, 33] (by decide +kernel) (by decide +kernel)
set_option maxRecDepth 20000 in
theorem gX4_rename_X0_takeName_n48 : GoodIn wsX4_rename (wsX0_takeName) := ggX4_rename_X0_takeName
theorem dX4_rename_0 : decode cX4_rename 0 = .ok (.aload_n 0, 1) := by decide +kernel
theorem dX4_rename_1 : decode cX4_rename 1 = .ok (.iload_n 1, 1) := by decide +kernel
theorem dX4_rename_2 : decode cX4_rename 2 = .ok (.invokevirtual 51, 3) := by decide +kernel
theorem dX4_rename_5 : decode cX4_rename 5 = .ok (.iload_n 2, 1) := by decide +kernel
theorem dX4_rename_6 : decode cX4_rename 6 = .ok (.iload_n 3, 1) := by decide +kernel
theorem dX4_rename_7 : decode cX4_rename 7 = .ok (.invokestatic 33, 3) := by decide +kernel
theorem dX4_rename_10 : decode cX4_rename 10 = .ok (.aload_n 0, 1) := by decide +kernel
theorem dX4_rename_11 : decode cX4_rename 11 = .ok (.getfield 15, 3) := by decide +kernel
theorem dX4_rename_14 : decode cX4_rename 14 = .ok (.iload_n 1, 1) := by decide +kernel
theorem dX4_rename_15 : decode cX4_rename 15 = .ok (.aaload, 1) := by decide +kernel
theorem dX4_rename_16 : decode cX4_rename 16 = .ok (.iload_n 2, 1) := by decide +kernel
theorem dX4_rename_17 : decode cX4_rename 17 = .ok (.iload_n 3, 1) := by decide +kernel
theorem dX4_rename_18 : decode cX4_rename 18 = .ok (.invokevirtual 48, 3) := by decide +kernel
theorem dX4_rename_21 : decode cX4_rename 21 = .ok (.return_, 1) := by decide +kernel
theorem dX4_setKind_0 : decode cX4_setKind 0 = .ok (.iload_n 1, 1) := by decide +kernel
theorem dX4_setKind_1 : decode cX4_setKind 1 = .ok (.ifCond .lt 9, 3) := by decide +kernel
theorem dX4_setKind_4 : decode cX4_setKind 4 = .ok (.iload_n 1, 1) := by decide +kernel
theorem dX4_setKind_5 : decode cX4_setKind 5 = .ok (.bipush 24, 2) := by decide +kernel
theorem dX4_setKind_7 : decode cX4_setKind 7 = .ok (.if_icmp .lt 13, 3) := by decide +kernel
theorem dX4_setKind_10 : decode cX4_setKind 10 = .ok (.new 93, 3) := by decide +kernel
theorem dX4_setKind_13 : decode cX4_setKind 13 = .ok (.dup, 1) := by decide +kernel
theorem dX4_setKind_14 : decode cX4_setKind 14 = .ok (.ldc 95, 2) := by decide +kernel
theorem dX4_setKind_16 : decode cX4_setKind 16 = .ok (.invokespecial 97, 3) := by decide +kernel
theorem dX4_setKind_19 : decode cX4_setKind 19 = .ok (.athrow, 1) := by decide +kernel
theorem dX4_setKind_20 : decode cX4_setKind 20 = .ok (.iload_n 2, 1) := by decide +kernel
theorem dX4_setKind_21 : decode cX4_setKind 21 = .ok (.ifCond .lt 8, 3) := by decide +kernel
theorem dX4_setKind_24 : decode cX4_setKind 24 = .ok (.iload_n 2, 1) := by decide +kernel
theorem dX4_setKind_25 : decode cX4_setKind 25 = .ok (.iconst 2, 1) := by decide +kernel
theorem dX4_setKind_26 : decode cX4_setKind 26 = .ok (.if_icmp .le 13, 3) := by decide +kernel
theorem dX4_setKind_29 : decode cX4_setKind 29 = .ok (.new 68, 3) := by decide +kernel
theorem dX4_setKind_32 : decode cX4_setKind 32 = .ok (.dup, 1) := by decide +kernel
theorem dX4_setKind_33 : decode cX4_setKind 33 = .ok (.ldc 98, 2) := by decide +kernel
theorem dX4_setKind_35 : decode cX4_setKind 35 = .ok (.invokespecial 72, 3) := by decide +kernel
theorem dX4_setKind_38 : decode cX4_setKind 38 = .ok (.athrow, 1) := by decide +kernel
theorem dX4_setKind_39 : decode cX4_setKind 39 = .ok (.aload_n 0, 1) := by decide +kernel
theorem dX4_setKind_40 : decode cX4_setKind 40 = .ok (.getfield 9, 3) := by decide +kernel
theorem dX4_setKind_43 : decode cX4_setKind 43 = .ok (.iload_n 1, 1) := by decide +kernel
theorem dX4_setKind_44 : decode cX4_setKind 44 = .ok (.iaload, 1) := by decide +kernel
theorem dX4_setKind_45 : decode cX4_setKind 45 = .ok (.istore_n 3, 1) := by decide +kernel
theorem dX4_setKind_46 : decode cX4_setKind 46 = .ok (.aload_n 0, 1) := by decide +kernel
theorem dX4_setKind_47 : decode cX4_setKind 47 = .ok (.getfield 9, 3) := by decide +kernel
theorem dX4_setKind_50 : decode cX4_setKind 50 = .ok (.iload_n 1, 1) := by decide +kernel
theorem dX4_setKind_51 : decode cX4_setKind 51 = .ok (.iload_n 2, 1) := by decide +kernel
theorem dX4_setKind_52 : decode cX4_setKind 52 = .ok (.iastore, 1) := by decide +kernel
theorem dX4_setKind_53 : decode cX4_setKind 53 = .ok (.iload_n 3, 1) := by decide +kernel
theorem dX4_setKind_54 : decode cX4_setKind 54 = .ok (.ireturn, 1) := by decide +kernel
theorem dX4_streets_0 : decode cX4_streets 0 = .ok (.aload_n 0, 1) := by decide +kernel
theorem dX4_streets_1 : decode cX4_streets 1 = .ok (.getfield 37, 3) := by decide +kernel
theorem dX4_streets_4 : decode cX4_streets 4 = .ok (.ireturn, 1) := by decide +kernel
set_option maxRecDepth 20000 in
theorem ggX4_streetAt_X4_countAhead : GoodIn wsX4_streetAt wsX4_countAhead := goodIn_r _ [8, 3, 9, 10, 11, 7, 12, 13, 14, 15, 16, 17, 18, 19, 20, 21, 22, 23, 24, 25, 26, 27, 28, 29, 30, 31, 32, 33, 34, 35, 36, 37, 38, 39, 40, 41, 42, 43, 44, 45, 46, 47, 48, 49, 50, 51, 52, 53, 54, 55, 56, 57, 58, 59, 60, 61, 62, 63, 64, 65, 66, 67, 68, 69, 70, 71, 72, 73, 74, 75, 76, 77, 78, 79, 80, 81, 82, 83, 84, 85, 86, 87, 88, 89, 90, 91, 92, 93, 94, 95, 96, 97, 98, 99, 100, 101, 102, 103, 104, 105] (by decide +kernel) (by decide +kernel)
set_option maxRecDepth 20000 in
theorem gX4_streetAt_X4_countAhead : GoodIn wsX4_streetAt (wsV RX4 102 RX4 yX4_countAhead wsX4_countAhead) := goodIn_app (goodIn_of _ (by decide +kernel)) ggX4_streetAt_X4_countAhead
theorem dX4_streetAt_0 : decode cX4_streetAt 0 = .ok (.iload_n 1, 1) := by decide +kernel
theorem dX4_streetAt_1 : decode cX4_streetAt 1 = .ok (.ifCond .lt 11, 3) := by decide +kernel
theorem dX4_streetAt_4 : decode cX4_streetAt 4 = .ok (.iload_n 1, 1) := by decide +kernel
theorem dX4_streetAt_5 : decode cX4_streetAt 5 = .ok (.aload_n 0, 1) := by decide +kernel
theorem dX4_streetAt_6 : decode cX4_streetAt 6 = .ok (.getfield 37, 3) := by decide +kernel
theorem dX4_streetAt_9 : decode cX4_streetAt 9 = .ok (.if_icmp .lt 13, 3) := by decide +kernel
theorem dX4_streetAt_12 : decode cX4_streetAt 12 = .ok (.new 93, 3) := by decide +kernel
theorem dX4_streetAt_15 : decode cX4_streetAt 15 = .ok (.dup, 1) := by decide +kernel
theorem dX4_streetAt_16 : decode cX4_streetAt 16 = .ok (.ldc 100, 2) := by decide +kernel
theorem dX4_streetAt_18 : decode cX4_streetAt 18 = .ok (.invokespecial 97, 3) := by decide +kernel
theorem dX4_streetAt_21 : decode cX4_streetAt 21 = .ok (.athrow, 1) := by decide +kernel
theorem dX4_streetAt_22 : decode cX4_streetAt 22 = .ok (.iconst 0, 1) := by decide +kernel
theorem dX4_streetAt_23 : decode cX4_streetAt 23 = .ok (.istore_n 2, 1) := by decide +kernel
theorem dX4_streetAt_24 : decode cX4_streetAt 24 = .ok (.iload_n 2, 1) := by decide +kernel
theorem dX4_streetAt_25 : decode cX4_streetAt 25 = .ok (.aload_n 0, 1) := by decide +kernel
theorem dX4_streetAt_26 : decode cX4_streetAt 26 = .ok (.getfield 37, 3) := by decide +kernel
theorem dX4_streetAt_29 : decode cX4_streetAt 29 = .ok (.iconst 1, 1) := by decide +kernel
theorem dX4_streetAt_30 : decode cX4_streetAt 30 = .ok (.isub, 1) := by decide +kernel
theorem dX4_streetAt_31 : decode cX4_streetAt 31 = .ok (.if_icmp .ge 18, 3) := by decide +kernel
theorem dX4_streetAt_34 : decode cX4_streetAt 34 = .ok (.aload_n 0, 1) := by decide +kernel
theorem dX4_streetAt_35 : decode cX4_streetAt 35 = .ok (.iload_n 2, 1) := by decide +kernel
theorem dX4_streetAt_36 : decode cX4_streetAt 36 = .ok (.invokevirtual 102, 3) := by decide +kernel
theorem dX4_streetAt_39 : decode cX4_streetAt 39 = .ok (.iload_n 1, 1) := by decide +kernel
theorem dX4_streetAt_40 : decode cX4_streetAt 40 = .ok (.if_icmp .eq 9, 3) := by decide +kernel
theorem dX4_streetAt_43 : decode cX4_streetAt 43 = .ok (.iinc 2 1, 3) := by decide +kernel
theorem dX4_streetAt_46 : decode cX4_streetAt 46 = .ok (.goto (-22), 3) := by decide +kernel
theorem dX4_streetAt_49 : decode cX4_streetAt 49 = .ok (.iload_n 2, 1) := by decide +kernel
theorem dX4_streetAt_50 : decode cX4_streetAt 50 = .ok (.ireturn, 1) := by decide +kernel
set_option maxRecDepth 20000 in
theorem ggX4_placeOf_X4_checkStreet : GoodIn wsX4_placeOf wsX4_checkStreet := goodIn_ca (goodIn_r _ [5, 6, 7, 8, 100, 101, 102, 103, 104, 105] (by decide +kernel) (by decide +kernel)) (goodIn_sub (fun _ h => List.mem_cons_of_mem _ (List.mem_append_right _ h)) (by decide +kernel))
set_option maxRecDepth 20000 in
theorem gX4_placeOf_X4_checkStreet : GoodIn wsX4_placeOf (wsV RX4 51 RX4 yX4_checkStreet wsX4_checkStreet) := goodIn_app (goodIn_of _ (by decide +kernel)) ggX4_placeOf_X4_checkStreet
set_option maxRecDepth 20000 in
theorem ggX4_placeOf_X4_countAhead : GoodIn wsX4_placeOf wsX4_countAhead := goodIn_r _ [12, 8, 13, 14, 15, 4, 16, 17, 18, 19, 20, 21, 22, 23, 24, 25, 26, 27, 28, 29, 30, 31, 32, 33, 34, 35, 36, 37, 38, 39, 40, 41, 42, 43, 44, 45, 46, 47, 48, 49, 50, 51, 52, 53, 54, 55, 56, 57, 58, 59, 60, 61, 62, 63, 64, 65, 66, 67, 68, 69, 70, 71, 72, 73, 74, 75, 76, 77, 78, 79, 80, 81, 82, 83, 84, 85, 86, 87, 88, 89, 90, 91, 92, 93, 94, 95, 96, 97, 98, 99, 100, 101, 102, 103, 104, 105, 106, 107, 108, 109] (by decide +kernel) (by decide +kernel)
set_option maxRecDepth 20000 in
theorem gX4_placeOf_X4_countAhead : GoodIn wsX4_placeOf (wsV RX4 102 RX4 yX4_countAhead wsX4_countAhead) := goodIn_app (goodIn_of _ (by decide +kernel)) ggX4_placeOf_X4_countAhead
theorem dX4_placeOf_0 : decode cX4_placeOf 0 = .ok (.aload_n 0, 1) := by decide +kernel
theorem dX4_placeOf_1 : decode cX4_placeOf 1 = .ok (.iload_n 1, 1) := by decide +kernel
theorem dX4_placeOf_2 : decode cX4_placeOf 2 = .ok (.invokevirtual 51, 3) := by decide +kernel
theorem dX4_placeOf_5 : decode cX4_placeOf 5 = .ok (.aload_n 0, 1) := by decide +kernel
theorem dX4_placeOf_6 : decode cX4_placeOf 6 = .ok (.iload_n 1, 1) := by decide +kernel
theorem dX4_placeOf_7 : decode cX4_placeOf 7 = .ok (.invokevirtual 102, 3) := by decide +kernel
theorem dX4_placeOf_10 : decode cX4_placeOf 10 = .ok (.ireturn, 1) := by decide +kernel
set_option maxRecDepth 20000 in
theorem ggX4_compareKeys_X4_checkStreet : GoodIn wsX4_compareKeys wsX4_checkStreet := goodIn_ca (goodIn_r _ [5, 6, 7, 8, 89, 90, 91, 92, 93, 94] (by decide +kernel) (by decide +kernel)) (goodIn_sub (fun _ h => List.mem_cons_of_mem _ (List.mem_append_right _ h)) (by decide +kernel))
set_option maxRecDepth 20000 in
theorem gX4_compareKeys_X4_checkStreet : GoodIn wsX4_compareKeys (wsV RX4 51 RX4 yX4_checkStreet wsX4_checkStreet) := goodIn_app (goodIn_of _ (by decide +kernel)) ggX4_compareKeys_X4_checkStreet
set_option maxRecDepth 20000 in
theorem ggX4_compareKeys_X4_keyOrder : GoodIn wsX4_compareKeys wsX4_keyOrder := goodIn_r _ [12, 13, 14, 15, 16, 17, 18, 19, 20, 21, 22, 23, 24, 25, 26, 27, 28, 4, 29, 30, 31, 32, 33, 34, 35, 36, 37, 38, 39, 40, 41, 42, 43, 44, 45, 46, 47, 48, 49, 50, 51, 52, 53, 54, 55, 56, 57, 58, 59, 60, 61, 62, 63, 64, 65, 66, 67, 68, 69, 70, 71, 72, 73, 74, 75, 76, 77, 78, 79, 80, 81, 82, 83, 84, 85, 86, 87, 88, 89, 90, 91, 92, 93, 94, 95, 96, 97, 98] (by decide +kernel) (by decide +kernel)
set_option maxRecDepth 20000 in
theorem gX4_compareKeys_X4_keyOrder : GoodIn wsX4_compareKeys (wsV RX4 106 RX4 yX4_keyOrder wsX4_keyOrder) := goodIn_app (goodIn_of _ (by decide +kernel)) ggX4_compareKeys_X4_keyOrder
theorem dX4_compareKeys_0 : decode cX4_compareKeys 0 = .ok (.aload_n 0, 1) := by decide +kernel
theorem dX4_compareKeys_1 : decode cX4_compareKeys 1 = .ok (.iload_n 1, 1) := by decide +kernel
theorem dX4_compareKeys_2 : decode cX4_compareKeys 2 = .ok (.invokevirtual 51, 3) := by decide +kernel
theorem dX4_compareKeys_5 : decode cX4_compareKeys 5 = .ok (.aload_n 0, 1) := by decide +kernel
theorem dX4_compareKeys_6 : decode cX4_compareKeys 6 = .ok (.iload_n 2, 1) := by decide +kernel
theorem dX4_compareKeys_7 : decode cX4_compareKeys 7 = .ok (.invokevirtual 51, 3) := by decide +kernel
theorem dX4_compareKeys_10 : decode cX4_compareKeys 10 = .ok (.aload_n 0, 1) := by decide +kernel
theorem dX4_compareKeys_11 : decode cX4_compareKeys 11 = .ok (.iload_n 1, 1) := by decide +kernel
theorem dX4_compareKeys_12 : decode cX4_compareKeys 12 = .ok (.iload_n 2, 1) := by decide +kernel
theorem dX4_compareKeys_13 : decode cX4_compareKeys 13 = .ok (.invokevirtual 106, 3) := by decide +kernel
theorem dX4_compareKeys_16 : decode cX4_compareKeys 16 = .ok (.ireturn, 1) := by decide +kernel
set_option maxRecDepth 20000 in
theorem ggX4_lineLength_X4_checkStreet : GoodIn wsX4_lineLength wsX4_checkStreet := goodIn_ca (goodIn_r _ [6, 7, 8, 9, 261, 262, 263, 264, 265, 266] (by decide +kernel) (by decide +kernel)) (goodIn_sub (fun _ h => List.mem_cons_of_mem _ (List.mem_append_right _ h)) (by decide +kernel))
set_option maxRecDepth 20000 in
theorem gX4_lineLength_X4_checkStreet : GoodIn wsX4_lineLength (wsV RX4 51 RX4 yX4_checkStreet wsX4_checkStreet) := goodIn_app (goodIn_of _ (by decide +kernel)) ggX4_lineLength_X4_checkStreet
set_option maxRecDepth 20000 in
theorem ggX4_lineLength_X4_lineOf : GoodIn wsX4_lineLength wsX4_lineOf := goodIn_r _ [13, 14, 15, 16, 17, 18, 19, 20, 21, 22, 23, 24, 25, 26, 27, 28, 29, 30, 31, 32, 33, 34, 35, 36, 37, 38, 39, 40, 41, 5, 42, 43, 44, 45, 46, 47, 48, 49, 50, 51, 52, 53, 54, 55, 56, 57, 58, 59, 60, 61, 62, 63, 64, 65, 66, 67, 68, 69, 70, 71, 72, 73, 74, 75, 76, 77, 78, 79, 80, 81, 82, 83, 84, 85, 86, 87, 88, 89, 90, 91, 92, 93, 94, 95, 96, 97, 98, 99, 100, 101, 102, 103, 104, 105, 106, 107, 108, 109, 110, 111, 112, 113, 114, 115, 116, 117, 118, 119, 120, 121, 122, 123, 124, 125, 126, 127, 128, 129, 130, 131, 132, 133, 134, 135, 136, 137, 138, 139, 140, 141, 142, 143, 144, 145, 146, 147, 148, 149, 150, 151, 152, 153, 154, 155, 156, 157, 158, 159, 160, 161, 162, 163, 164, 165, 166, 167, 168, 169, 170, 171, 172, 173, 174, 175, 176, 177, 178, 179, 180, 181, 182, 183, 184, 185, 186, 187, 188, 189, 190, 191, 192, 193, 194, 195, 196, 197, 198, 199, 200, 201, 202, 203, 204, 205, 206, 207, 208, 209, 210, 211, 212, 213, 214, 215, 216, 217, 218, 219, 220, 221, 222, 223, 224, 225, 226, 227, 228, 229, 230, 231, 232, 233, 234, 235, 236, 237, 238, 239, 240, 241, 242, 243, 244, 245, 246, 247, 248, 249, 250, 251, 252, 267, 268, 269, 270, 271, 272, 273, 274, 275, 276, 277, 278, 279, 261, 262, 263, 264, 265, 266] (by decide +kernel) (by decide +kernel)
set_option maxRecDepth 20000 in
theorem gX4_lineLength_X4_lineOf : GoodIn wsX4_lineLength (wsV RX4 110 RX4 yX4_lineOf wsX4_lineOf) := goodIn_app (goodIn_of _ (by decide +kernel)) ggX4_lineLength_X4_lineOf
set_option maxRecDepth 20000 in
theorem ggX4_lineLength_J4_length_8abf5 : GoodIn wsX4_lineLength wsJ4_length_8abf5 := goodIn_r _ [256, 257, 258, 60, 259, 22, 260, 63, 267, 268, 269, 270] (by decide +kernel) (by decide +kernel)
set_option maxRecDepth 20000 in
theorem gX4_lineLength_J4_length_8abf5 : GoodIn wsX4_lineLength (wsV RX4 114 RJ4 yJ4_length_8abf5 wsJ4_length_8abf5) := goodIn_app (goodIn_of _ (by decide +kernel)) ggX4_lineLength_J4_length_8abf5
theorem dX4_lineLength_0 : decode cX4_lineLength 0 = .ok (.aload_n 0, 1) := by decide +kernel
theorem dX4_lineLength_1 : decode cX4_lineLength 1 = .ok (.iload_n 1, 1) := by decide +kernel
theorem dX4_lineLength_2 : decode cX4_lineLength 2 = .ok (.invokevirtual 51, 3) := by decide +kernel
theorem dX4_lineLength_5 : decode cX4_lineLength 5 = .ok (.aload_n 0, 1) := by decide +kernel
theorem dX4_lineLength_6 : decode cX4_lineLength 6 = .ok (.aload_n 0, 1) := by decide +kernel
theorem dX4_lineLength_7 : decode cX4_lineLength 7 = .ok (.getfield 15, 3) := by decide +kernel
theorem dX4_lineLength_10 : decode cX4_lineLength 10 = .ok (.iload_n 1, 1) := by decide +kernel
theorem dX4_lineLength_11 : decode cX4_lineLength 11 = .ok (.aaload, 1) := by decide +kernel
theorem dX4_lineLength_12 : decode cX4_lineLength 12 = .ok (.invokevirtual 110, 3) := by decide +kernel
theorem dX4_lineLength_15 : decode cX4_lineLength 15 = .ok (.invokevirtual 114, 3) := by decide +kernel
theorem dX4_lineLength_18 : decode cX4_lineLength 18 = .ok (.ireturn, 1) := by decide +kernel
set_option maxRecDepth 20000 in
theorem ggX4_lineChar_X4_checkStreet : GoodIn wsX4_lineChar wsX4_checkStreet := goodIn_ca (goodIn_r _ [8, 1, 2, 9, 274, 275, 276, 277, 278, 279] (by decide +kernel) (by decide +kernel)) (goodIn_sub (fun _ h => List.mem_cons_of_mem _ (List.mem_append_right _ h)) (by decide +kernel))
set_option maxRecDepth 20000 in
theorem gX4_lineChar_X4_checkStreet : GoodIn wsX4_lineChar (wsV RX4 51 RX4 yX4_checkStreet wsX4_checkStreet) := goodIn_app (goodIn_of _ (by decide +kernel)) ggX4_lineChar_X4_checkStreet
set_option maxRecDepth 20000 in
theorem ggX4_lineChar_X4_lineOf : GoodIn wsX4_lineChar wsX4_lineOf := goodIn_r _ [13, 14, 15, 16, 17, 18, 19, 20, 21, 22, 23, 24, 25, 26, 27, 28, 29, 30, 31, 32, 33, 34, 35, 36, 37, 38, 39, 40, 41, 7, 42, 43, 44, 45, 46, 47, 48, 49, 50, 51, 52, 53, 54, 55, 56, 57, 58, 59, 60, 61, 62, 63, 64, 65, 66, 67, 68, 69, 70, 71, 72, 73, 74, 75, 76, 77, 78, 79, 80, 81, 82, 83, 84, 85, 86, 87, 88, 89, 90, 91, 92, 93, 94, 95, 96, 97, 98, 99, 100, 101, 102, 103, 104, 105, 106, 107, 108, 109, 110, 111, 112, 113, 114, 115, 116, 117, 118, 119, 120, 121, 122, 123, 124, 125, 126, 127, 128, 129, 130, 131, 132, 133, 134, 135, 136, 137, 138, 139, 140, 141, 142, 143, 144, 145, 146, 147, 148, 149, 150, 151, 152, 153, 154, 155, 156, 157, 158, 159, 160, 161, 162, 163, 164, 165, 166, 167, 168, 169, 170, 171, 172, 173, 174, 175, 176, 177, 178, 179, 180, 181, 182, 183, 184, 185, 186, 187, 188, 189, 190, 191, 192, 193, 194, 195, 196, 197, 198, 199, 200, 201, 202, 203, 204, 205, 206, 207, 208, 209, 210, 211, 212, 213, 214, 215, 216, 217, 218, 219, 220, 221, 222, 223, 224, 225, 226, 227, 228, 229, 230, 231, 232, 233, 234, 235, 236, 237, 238, 239, 240, 241, 242, 243, 244, 245, 246, 247, 248, 249, 250, 251, 252, 280, 281, 282, 283, 284, 285, 286, 287, 288, 289, 290, 291, 292, 274, 275, 276, 277, 278, 279] (by decide +kernel) (by decide +kernel)
set_option maxRecDepth 20000 in
theorem gX4_lineChar_X4_lineOf : GoodIn wsX4_lineChar (wsV RX4 110 RX4 yX4_lineOf wsX4_lineOf) := goodIn_app (goodIn_of _ (by decide +kernel)) ggX4_lineChar_X4_lineOf
set_option maxRecDepth 20000 in
theorem ggX4_lineChar_J4_length_8abf5 : GoodIn wsX4_lineChar wsJ4_length_8abf5 := goodIn_r _ [256, 257, 258, 60, 259, 22, 260, 63, 280, 281, 282, 283] (by decide +kernel) (by decide +kernel)
set_option maxRecDepth 20000 in
theorem gX4_lineChar_J4_length_8abf5 : GoodIn wsX4_lineChar (wsV RX4 114 RJ4 yJ4_length_8abf5 wsJ4_length_8abf5) := goodIn_app (goodIn_of _ (by decide +kernel)) ggX4_lineChar_J4_length_8abf5
set_option maxRecDepth 20000 in
theorem ggX4_lineChar_J4_charAt_5068e : GoodIn wsX4_lineChar wsJ4_charAt_5068e := goodIn_r _ [264, 265, 266, 60, 267, 22, 268, 30, 29, 63, 269, 98, 81, 99, 270, 152, 132, 153, 134, 154, 155, 137, 156, 271, 272, 33, 273, 142, 143, 144, 127, 128, 129, 280, 281, 282, 283] (by decide +kernel) (by decide +kernel)
set_option maxRecDepth 20000 in
theorem gX4_lineChar_J4_charAt_5068e : GoodIn wsX4_lineChar (wsV RX4 121 RJ4 yJ4_charAt_5068e wsJ4_charAt_5068e) := goodIn_app (goodIn_of _ (by decide +kernel)) ggX4_lineChar_J4_charAt_5068e
theorem dX4_lineChar_0 : decode cX4_lineChar 0 = .ok (.aload_n 0, 1) := by decide +kernel
theorem dX4_lineChar_1 : decode cX4_lineChar 1 = .ok (.iload_n 1, 1) := by decide +kernel
theorem dX4_lineChar_2 : decode cX4_lineChar 2 = .ok (.invokevirtual 51, 3) := by decide +kernel
theorem dX4_lineChar_5 : decode cX4_lineChar 5 = .ok (.aload_n 0, 1) := by decide +kernel
theorem dX4_lineChar_6 : decode cX4_lineChar 6 = .ok (.aload_n 0, 1) := by decide +kernel
theorem dX4_lineChar_7 : decode cX4_lineChar 7 = .ok (.getfield 15, 3) := by decide +kernel
theorem dX4_lineChar_10 : decode cX4_lineChar 10 = .ok (.iload_n 1, 1) := by decide +kernel
theorem dX4_lineChar_11 : decode cX4_lineChar 11 = .ok (.aaload, 1) := by decide +kernel
theorem dX4_lineChar_12 : decode cX4_lineChar 12 = .ok (.invokevirtual 110, 3) := by decide +kernel
theorem dX4_lineChar_15 : decode cX4_lineChar 15 = .ok (.astore_n 3, 1) := by decide +kernel
theorem dX4_lineChar_16 : decode cX4_lineChar 16 = .ok (.iload_n 2, 1) := by decide +kernel
theorem dX4_lineChar_17 : decode cX4_lineChar 17 = .ok (.ifCond .lt 11, 3) := by decide +kernel
theorem dX4_lineChar_20 : decode cX4_lineChar 20 = .ok (.iload_n 2, 1) := by decide +kernel
theorem dX4_lineChar_21 : decode cX4_lineChar 21 = .ok (.aload_n 3, 1) := by decide +kernel
theorem dX4_lineChar_22 : decode cX4_lineChar 22 = .ok (.invokevirtual 114, 3) := by decide +kernel
theorem dX4_lineChar_25 : decode cX4_lineChar 25 = .ok (.if_icmp .lt 13, 3) := by decide +kernel
theorem dX4_lineChar_28 : decode cX4_lineChar 28 = .ok (.new 93, 3) := by decide +kernel
theorem dX4_lineChar_31 : decode cX4_lineChar 31 = .ok (.dup, 1) := by decide +kernel
theorem dX4_lineChar_32 : decode cX4_lineChar 32 = .ok (.ldc 119, 2) := by decide +kernel
theorem dX4_lineChar_34 : decode cX4_lineChar 34 = .ok (.invokespecial 97, 3) := by decide +kernel
theorem dX4_lineChar_37 : decode cX4_lineChar 37 = .ok (.athrow, 1) := by decide +kernel
theorem dX4_lineChar_38 : decode cX4_lineChar 38 = .ok (.aload_n 3, 1) := by decide +kernel
theorem dX4_lineChar_39 : decode cX4_lineChar 39 = .ok (.iload_n 2, 1) := by decide +kernel
theorem dX4_lineChar_40 : decode cX4_lineChar 40 = .ok (.invokevirtual 121, 3) := by decide +kernel
theorem dX4_lineChar_43 : decode cX4_lineChar 43 = .ok (.ireturn, 1) := by decide +kernel
set_option maxRecDepth 20000 in
theorem ggX4_trackLength_X4_checkStreet : GoodIn wsX4_trackLength wsX4_checkStreet := goodIn_ca (goodIn_r _ [6, 7, 8, 9, 10, 11, 12, 13, 14, 15] (by decide +kernel) (by decide +kernel)) (goodIn_sub (fun _ h => List.mem_cons_of_mem _ (List.mem_append_right _ h)) (by decide +kernel))
set_option maxRecDepth 20000 in
theorem gX4_trackLength_X4_checkStreet : GoodIn wsX4_trackLength (wsV RX4 51 RX4 yX4_checkStreet wsX4_checkStreet) := goodIn_app (goodIn_of _ (by decide +kernel)) ggX4_trackLength_X4_checkStreet
theorem dX4_trackLength_0 : decode cX4_trackLength 0 = .ok (.aload_n 0, 1) := by decide +kernel
theorem dX4_trackLength_1 : decode cX4_trackLength 1 = .ok (.iload_n 1, 1) := by decide +kernel
theorem dX4_trackLength_2 : decode cX4_trackLength 2 = .ok (.invokevirtual 51, 3) := by decide +kernel
theorem dX4_trackLength_5 : decode cX4_trackLength 5 = .ok (.aload_n 0, 1) := by decide +kernel
theorem dX4_trackLength_6 : decode cX4_trackLength 6 = .ok (.getfield 15, 3) := by decide +kernel
theorem dX4_trackLength_9 : decode cX4_trackLength 9 = .ok (.iload_n 1, 1) := by decide +kernel
theorem dX4_trackLength_10 : decode cX4_trackLength 10 = .ok (.aaload, 1) := by decide +kernel
theorem dX4_trackLength_11 : decode cX4_trackLength 11 = .ok (.getfield 58, 3) := by decide +kernel
theorem dX4_trackLength_14 : decode cX4_trackLength 14 = .ok (.getfield 81, 3) := by decide +kernel
theorem dX4_trackLength_17 : decode cX4_trackLength 17 = .ok (.ireturn, 1) := by decide +kernel
set_option maxRecDepth 20000 in
theorem ggX4_squares_X4_checkStreet : GoodIn wsX4_squares wsX4_checkStreet := goodIn_ca (goodIn_r _ [6, 7, 8, 9, 22, 23, 24, 25, 26, 27] (by decide +kernel) (by decide +kernel)) (goodIn_sub (fun _ h => List.mem_cons_of_mem _ (List.mem_append_right _ h)) (by decide +kernel))
set_option maxRecDepth 20000 in
theorem gX4_squares_X4_checkStreet : GoodIn wsX4_squares (wsV RX4 51 RX4 yX4_checkStreet wsX4_checkStreet) := goodIn_app (goodIn_of _ (by decide +kernel)) ggX4_squares_X4_checkStreet
set_option maxRecDepth 20000 in
theorem ggX4_squares_X1_countSquares : GoodIn wsX4_squares wsX1_countSquares := goodIn_r _ [13, 14, 15, 16, 17, 18, 19, 20, 21, 32, 33, 34, 35, 36] (by decide +kernel) (by decide +kernel)
set_option maxRecDepth 20000 in
theorem gX4_squares_X1_countSquares_n125 : GoodIn wsX4_squares (wsX1_countSquares) := ggX4_squares_X1_countSquares
theorem dX4_squares_0 : decode cX4_squares 0 = .ok (.aload_n 0, 1) := by decide +kernel
theorem dX4_squares_1 : decode cX4_squares 1 = .ok (.iload_n 1, 1) := by decide +kernel
theorem dX4_squares_2 : decode cX4_squares 2 = .ok (.invokevirtual 51, 3) := by decide +kernel
theorem dX4_squares_5 : decode cX4_squares 5 = .ok (.aload_n 0, 1) := by decide +kernel
theorem dX4_squares_6 : decode cX4_squares 6 = .ok (.getfield 15, 3) := by decide +kernel
theorem dX4_squares_9 : decode cX4_squares 9 = .ok (.iload_n 1, 1) := by decide +kernel
theorem dX4_squares_10 : decode cX4_squares 10 = .ok (.aaload, 1) := by decide +kernel
theorem dX4_squares_11 : decode cX4_squares 11 = .ok (.getfield 58, 3) := by decide +kernel
theorem dX4_squares_14 : decode cX4_squares 14 = .ok (.invokevirtual 125, 3) := by decide +kernel
theorem dX4_squares_17 : decode cX4_squares 17 = .ok (.ireturn, 1) := by decide +kernel
set_option maxRecDepth 20000 in
theorem ggX4_runs_X4_checkStreet : GoodIn wsX4_runs wsX4_checkStreet := goodIn_ca (goodIn_r _ [6, 7, 8, 9, 22, 23, 24, 25, 26, 27] (by decide +kernel) (by decide +kernel)) (goodIn_sub (fun _ h => List.mem_cons_of_mem _ (List.mem_append_right _ h)) (by decide +kernel))
set_option maxRecDepth 20000 in
theorem gX4_runs_X4_checkStreet : GoodIn wsX4_runs (wsV RX4 51 RX4 yX4_checkStreet wsX4_checkStreet) := goodIn_app (goodIn_of _ (by decide +kernel)) ggX4_runs_X4_checkStreet
set_option maxRecDepth 20000 in
theorem ggX4_runs_X1_countRuns : GoodIn wsX4_runs wsX1_countRuns := goodIn_r _ [13, 14, 15, 16, 17, 18, 19, 20, 21, 32, 33, 34, 35, 36] (by decide +kernel) (by decide +kernel)
set_option maxRecDepth 20000 in
theorem gX4_runs_X1_countRuns_n128 : GoodIn wsX4_runs (wsX1_countRuns) := ggX4_runs_X1_countRuns
theorem dX4_runs_0 : decode cX4_runs 0 = .ok (.aload_n 0, 1) := by decide +kernel
theorem dX4_runs_1 : decode cX4_runs 1 = .ok (.iload_n 1, 1) := by decide +kernel
theorem dX4_runs_2 : decode cX4_runs 2 = .ok (.invokevirtual 51, 3) := by decide +kernel
theorem dX4_runs_5 : decode cX4_runs 5 = .ok (.aload_n 0, 1) := by decide +kernel
theorem dX4_runs_6 : decode cX4_runs 6 = .ok (.getfield 15, 3) := by decide +kernel
theorem dX4_runs_9 : decode cX4_runs 9 = .ok (.iload_n 1, 1) := by decide +kernel
theorem dX4_runs_10 : decode cX4_runs 10 = .ok (.aaload, 1) := by decide +kernel
theorem dX4_runs_11 : decode cX4_runs 11 = .ok (.getfield 58, 3) := by decide +kernel
theorem dX4_runs_14 : decode cX4_runs 14 = .ok (.invokevirtual 128, 3) := by decide +kernel
theorem dX4_runs_17 : decode cX4_runs 17 = .ok (.ireturn, 1) := by decide +kernel
set_option maxRecDepth 20000 in
theorem ggX4_isOn_X4_checkStreet : GoodIn wsX4_isOn wsX4_checkStreet := goodIn_ca (goodIn_r _ [6, 7, 8, 9, 18, 19, 20, 21, 22, 23] (by decide +kernel) (by decide +kernel)) (goodIn_sub (fun _ h => List.mem_cons_of_mem _ (List.mem_append_right _ h)) (by decide +kernel))
set_option maxRecDepth 20000 in
theorem gX4_isOn_X4_checkStreet : GoodIn wsX4_isOn (wsV RX4 51 RX4 yX4_checkStreet wsX4_checkStreet) := goodIn_app (goodIn_of _ (by decide +kernel)) ggX4_isOn_X4_checkStreet
set_option maxRecDepth 20000 in
theorem ggX4_isOn_X4_checkSquare : GoodIn wsX4_isOn wsX4_checkSquare := goodIn_ca (goodIn_r _ [12, 7, 8] (by decide +kernel) (by decide +kernel)) (goodIn_sub (fun _ h => List.mem_cons_of_mem _ (List.mem_append_right _ h)) (by decide +kernel))
set_option maxRecDepth 20000 in
theorem gX4_isOn_X4_checkSquare : GoodIn wsX4_isOn (va_wsS RX4 55 yX4_checkSquare wsX4_checkSquare) := goodIn_app (goodIn_of _ (by decide +kernel)) ggX4_isOn_X4_checkSquare
set_option maxRecDepth 20000 in
theorem ggX4_isOn_X1_covers : GoodIn wsX4_isOn wsX1_covers := goodIn_r _ [16, 17, 28, 29, 30, 31, 32] (by decide +kernel) (by decide +kernel)
set_option maxRecDepth 20000 in
theorem gX4_isOn_X1_covers_n131 : GoodIn wsX4_isOn (wsX1_covers) := ggX4_isOn_X1_covers
theorem dX4_isOn_0 : decode cX4_isOn 0 = .ok (.aload_n 0, 1) := by decide +kernel
theorem dX4_isOn_1 : decode cX4_isOn 1 = .ok (.iload_n 1, 1) := by decide +kernel
theorem dX4_isOn_2 : decode cX4_isOn 2 = .ok (.invokevirtual 51, 3) := by decide +kernel
theorem dX4_isOn_5 : decode cX4_isOn 5 = .ok (.iload_n 2, 1) := by decide +kernel
theorem dX4_isOn_6 : decode cX4_isOn 6 = .ok (.iload_n 3, 1) := by decide +kernel
theorem dX4_isOn_7 : decode cX4_isOn 7 = .ok (.invokestatic 55, 3) := by decide +kernel
theorem dX4_isOn_10 : decode cX4_isOn 10 = .ok (.aload_n 0, 1) := by decide +kernel
theorem dX4_isOn_11 : decode cX4_isOn 11 = .ok (.getfield 15, 3) := by decide +kernel
theorem dX4_isOn_14 : decode cX4_isOn 14 = .ok (.iload_n 1, 1) := by decide +kernel
theorem dX4_isOn_15 : decode cX4_isOn 15 = .ok (.aaload, 1) := by decide +kernel
theorem dX4_isOn_16 : decode cX4_isOn 16 = .ok (.getfield 58, 3) := by decide +kernel
theorem dX4_isOn_19 : decode cX4_isOn 19 = .ok (.iload_n 2, 1) := by decide +kernel
theorem dX4_isOn_20 : decode cX4_isOn 20 = .ok (.iload_n 3, 1) := by decide +kernel
theorem dX4_isOn_21 : decode cX4_isOn 21 = .ok (.invokevirtual 131, 3) := by decide +kernel
theorem dX4_isOn_24 : decode cX4_isOn 24 = .ok (.ireturn, 1) := by decide +kernel
set_option maxRecDepth 20000 in
theorem ggX4_isOnTrack_X4_checkStreet : GoodIn wsX4_isOnTrack wsX4_checkStreet := goodIn_ca (goodIn_r _ [6, 7, 8, 9, 22, 23, 24, 25, 26, 27] (by decide +kernel) (by decide +kernel)) (goodIn_sub (fun _ h => List.mem_cons_of_mem _ (List.mem_append_right _ h)) (by decide +kernel))
set_option maxRecDepth 20000 in
theorem gX4_isOnTrack_X4_checkStreet : GoodIn wsX4_isOnTrack (wsV RX4 51 RX4 yX4_checkStreet wsX4_checkStreet) := goodIn_app (goodIn_of _ (by decide +kernel)) ggX4_isOnTrack_X4_checkStreet
set_option maxRecDepth 20000 in
theorem ggX4_isOnTrack_X4_checkSquare : GoodIn wsX4_isOnTrack wsX4_checkSquare := goodIn_ca (goodIn_r _ [12, 7, 8] (by decide +kernel) (by decide +kernel)) (goodIn_sub (fun _ h => List.mem_cons_of_mem _ (List.mem_append_right _ h)) (by decide +kernel))
set_option maxRecDepth 20000 in
theorem gX4_isOnTrack_X4_checkSquare : GoodIn wsX4_isOnTrack (va_wsS RX4 55 yX4_checkSquare wsX4_checkSquare) := goodIn_app (goodIn_of _ (by decide +kernel)) ggX4_isOnTrack_X4_checkSquare
set_option maxRecDepth 20000 in
theorem ggX4_isOnTrack_X4_squareOf : GoodIn wsX4_isOnTrack wsX4_squareOf := goodIn_r _ [15] (by decide +kernel) (by decide +kernel)
set_option maxRecDepth 20000 in
theorem gX4_isOnTrack_X4_squareOf : GoodIn wsX4_isOnTrack (va_wsS RX4 134 yX4_squareOf wsX4_squareOf) := goodIn_app (goodIn_of _ (by decide +kernel)) ggX4_isOnTrack_X4_squareOf
set_option maxRecDepth 20000 in
theorem ggX4_isOnTrack_X1_comesTo : GoodIn wsX4_isOnTrack wsX1_comesTo := goodIn_r _ [19, 20, 21, 32, 33, 34, 35, 36] (by decide +kernel) (by decide +kernel)
set_option maxRecDepth 20000 in
theorem gX4_isOnTrack_X1_comesTo_n137 : GoodIn wsX4_isOnTrack (wsX1_comesTo) := ggX4_isOnTrack_X1_comesTo
theorem dX4_isOnTrack_0 : decode cX4_isOnTrack 0 = .ok (.aload_n 0, 1) := by decide +kernel
theorem dX4_isOnTrack_1 : decode cX4_isOnTrack 1 = .ok (.iload_n 1, 1) := by decide +kernel
theorem dX4_isOnTrack_2 : decode cX4_isOnTrack 2 = .ok (.invokevirtual 51, 3) := by decide +kernel
theorem dX4_isOnTrack_5 : decode cX4_isOnTrack 5 = .ok (.iload_n 2, 1) := by decide +kernel
theorem dX4_isOnTrack_6 : decode cX4_isOnTrack 6 = .ok (.iload_n 3, 1) := by decide +kernel
theorem dX4_isOnTrack_7 : decode cX4_isOnTrack 7 = .ok (.invokestatic 55, 3) := by decide +kernel
theorem dX4_isOnTrack_10 : decode cX4_isOnTrack 10 = .ok (.aload_n 0, 1) := by decide +kernel
theorem dX4_isOnTrack_11 : decode cX4_isOnTrack 11 = .ok (.getfield 15, 3) := by decide +kernel
theorem dX4_isOnTrack_14 : decode cX4_isOnTrack 14 = .ok (.iload_n 1, 1) := by decide +kernel
theorem dX4_isOnTrack_15 : decode cX4_isOnTrack 15 = .ok (.aaload, 1) := by decide +kernel
theorem dX4_isOnTrack_16 : decode cX4_isOnTrack 16 = .ok (.getfield 58, 3) := by decide +kernel
theorem dX4_isOnTrack_19 : decode cX4_isOnTrack 19 = .ok (.iload_n 2, 1) := by decide +kernel
theorem dX4_isOnTrack_20 : decode cX4_isOnTrack 20 = .ok (.iload_n 3, 1) := by decide +kernel
theorem dX4_isOnTrack_21 : decode cX4_isOnTrack 21 = .ok (.invokestatic 134, 3) := by decide +kernel
theorem dX4_isOnTrack_24 : decode cX4_isOnTrack 24 = .ok (.invokevirtual 137, 3) := by decide +kernel
theorem dX4_isOnTrack_27 : decode cX4_isOnTrack 27 = .ok (.ireturn, 1) := by decide +kernel
set_option maxRecDepth 20000 in
theorem ggX4_streetsOf_X4_checkSquare : GoodIn wsX4_streetsOf wsX4_checkSquare := goodIn_ca (goodIn_r _ [6, 7, 8] (by decide +kernel) (by decide +kernel)) (goodIn_sub (fun _ h => List.mem_cons_of_mem _ (List.mem_append_right _ h)) (by decide +kernel))
set_option maxRecDepth 20000 in
theorem gX4_streetsOf_X4_checkSquare : GoodIn wsX4_streetsOf (va_wsS RX4 55 yX4_checkSquare wsX4_checkSquare) := goodIn_app (goodIn_of _ (by decide +kernel)) ggX4_streetsOf_X4_checkSquare
set_option maxRecDepth 20000 in
theorem ggX4_streetsOf_X1_covers : GoodIn wsX4_streetsOf wsX1_covers := goodIn_r _ [12, 13, 24, 25, 26, 27, 28] (by decide +kernel) (by decide +kernel)
set_option maxRecDepth 20000 in
theorem gX4_streetsOf_X1_covers_n131 : GoodIn wsX4_streetsOf (wsX1_covers) := ggX4_streetsOf_X1_covers
theorem dX4_streetsOf_0 : decode cX4_streetsOf 0 = .ok (.iload_n 1, 1) := by decide +kernel
theorem dX4_streetsOf_1 : decode cX4_streetsOf 1 = .ok (.iload_n 2, 1) := by decide +kernel
theorem dX4_streetsOf_2 : decode cX4_streetsOf 2 = .ok (.invokestatic 55, 3) := by decide +kernel
theorem dX4_streetsOf_5 : decode cX4_streetsOf 5 = .ok (.iconst 0, 1) := by decide +kernel
theorem dX4_streetsOf_6 : decode cX4_streetsOf 6 = .ok (.istore_n 3, 1) := by decide +kernel
theorem dX4_streetsOf_7 : decode cX4_streetsOf 7 = .ok (.iconst 0, 1) := by decide +kernel
theorem dX4_streetsOf_8 : decode cX4_streetsOf 8 = .ok (.istore 4, 2) := by decide +kernel
theorem dX4_streetsOf_10 : decode cX4_streetsOf 10 = .ok (.iload 4, 2) := by decide +kernel
theorem dX4_streetsOf_12 : decode cX4_streetsOf 12 = .ok (.aload_n 0, 1) := by decide +kernel
theorem dX4_streetsOf_13 : decode cX4_streetsOf 13 = .ok (.getfield 37, 3) := by decide +kernel
theorem dX4_streetsOf_16 : decode cX4_streetsOf 16 = .ok (.if_icmp .ge 34, 3) := by decide +kernel
theorem dX4_streetsOf_19 : decode cX4_streetsOf 19 = .ok (.aload_n 0, 1) := by decide +kernel
theorem dX4_streetsOf_20 : decode cX4_streetsOf 20 = .ok (.getfield 15, 3) := by decide +kernel
theorem dX4_streetsOf_23 : decode cX4_streetsOf 23 = .ok (.iload 4, 2) := by decide +kernel
theorem dX4_streetsOf_25 : decode cX4_streetsOf 25 = .ok (.aaload, 1) := by decide +kernel
theorem dX4_streetsOf_26 : decode cX4_streetsOf 26 = .ok (.getfield 58, 3) := by decide +kernel
theorem dX4_streetsOf_29 : decode cX4_streetsOf 29 = .ok (.iload_n 1, 1) := by decide +kernel
theorem dX4_streetsOf_30 : decode cX4_streetsOf 30 = .ok (.iload_n 2, 1) := by decide +kernel
theorem dX4_streetsOf_31 : decode cX4_streetsOf 31 = .ok (.invokevirtual 131, 3) := by decide +kernel
theorem dX4_streetsOf_34 : decode cX4_streetsOf 34 = .ok (.ifCond .eq 10, 3) := by decide +kernel
theorem dX4_streetsOf_37 : decode cX4_streetsOf 37 = .ok (.iload_n 3, 1) := by decide +kernel
theorem dX4_streetsOf_38 : decode cX4_streetsOf 38 = .ok (.iconst 1, 1) := by decide +kernel
theorem dX4_streetsOf_39 : decode cX4_streetsOf 39 = .ok (.iload 4, 2) := by decide +kernel
theorem dX4_streetsOf_41 : decode cX4_streetsOf 41 = .ok (.ishl, 1) := by decide +kernel
theorem dX4_streetsOf_42 : decode cX4_streetsOf 42 = .ok (.ior, 1) := by decide +kernel
theorem dX4_streetsOf_43 : decode cX4_streetsOf 43 = .ok (.istore_n 3, 1) := by decide +kernel
theorem dX4_streetsOf_44 : decode cX4_streetsOf 44 = .ok (.iinc 4 1, 3) := by decide +kernel
theorem dX4_streetsOf_47 : decode cX4_streetsOf 47 = .ok (.goto (-37), 3) := by decide +kernel
theorem dX4_streetsOf_50 : decode cX4_streetsOf 50 = .ok (.iload_n 3, 1) := by decide +kernel
theorem dX4_streetsOf_51 : decode cX4_streetsOf 51 = .ok (.ireturn, 1) := by decide +kernel
set_option maxRecDepth 20000 in
theorem ggX4_distance_X4_checkStreet : GoodIn wsX4_distance wsX4_checkStreet := goodIn_ca (goodIn_r _ [6, 7, 8, 9, 32, 33, 34, 35, 36, 37] (by decide +kernel) (by decide +kernel)) (goodIn_sub (fun _ h => List.mem_cons_of_mem _ (List.mem_append_right _ h)) (by decide +kernel))
set_option maxRecDepth 20000 in
theorem gX4_distance_X4_checkStreet : GoodIn wsX4_distance (wsV RX4 51 RX4 yX4_checkStreet wsX4_checkStreet) := goodIn_app (goodIn_of _ (by decide +kernel)) ggX4_distance_X4_checkStreet
set_option maxRecDepth 20000 in
theorem ggX4_distance_X4_checkSquare : GoodIn wsX4_distance wsX4_checkSquare := goodIn_ca (goodIn_r _ [12, 7, 8] (by decide +kernel) (by decide +kernel)) (goodIn_sub (fun _ h => List.mem_cons_of_mem _ (List.mem_append_right _ h)) (by decide +kernel))
set_option maxRecDepth 20000 in
theorem gX4_distance_X4_checkSquare : GoodIn wsX4_distance (va_wsS RX4 55 yX4_checkSquare wsX4_checkSquare) := goodIn_app (goodIn_of _ (by decide +kernel)) ggX4_distance_X4_checkSquare
set_option maxRecDepth 20000 in
theorem ggX4_distance_X1_nearestTo : GoodIn wsX4_distance wsX1_nearestTo := goodIn_r _ [16, 17, 18, 19, 14, 20, 21, 22, 5, 23, 24, 25, 26, 27, 28, 29, 30, 42, 43, 44, 45, 46] (by decide +kernel) (by decide +kernel)
set_option maxRecDepth 20000 in
theorem gX4_distance_X1_nearestTo_n141 : GoodIn wsX4_distance (wsX1_nearestTo) := ggX4_distance_X1_nearestTo
set_option maxRecDepth 20000 in
theorem ggX4_distance_X4_apart : GoodIn wsX4_distance wsX4_apart := goodIn_r _ [23, 24, 25, 26, 27, 28, 29, 30] (by decide +kernel) (by decide +kernel)
set_option maxRecDepth 20000 in
theorem gX4_distance_X4_apart : GoodIn wsX4_distance (va_wsS RX4 144 yX4_apart wsX4_apart) := goodIn_app (goodIn_of _ (by decide +kernel)) ggX4_distance_X4_apart
theorem dX4_distance_0 : decode cX4_distance 0 = .ok (.aload_n 0, 1) := by decide +kernel
theorem dX4_distance_1 : decode cX4_distance 1 = .ok (.iload_n 1, 1) := by decide +kernel
theorem dX4_distance_2 : decode cX4_distance 2 = .ok (.invokevirtual 51, 3) := by decide +kernel
theorem dX4_distance_5 : decode cX4_distance 5 = .ok (.iload_n 2, 1) := by decide +kernel
theorem dX4_distance_6 : decode cX4_distance 6 = .ok (.iload_n 3, 1) := by decide +kernel
theorem dX4_distance_7 : decode cX4_distance 7 = .ok (.invokestatic 55, 3) := by decide +kernel
theorem dX4_distance_10 : decode cX4_distance 10 = .ok (.aload_n 0, 1) := by decide +kernel
theorem dX4_distance_11 : decode cX4_distance 11 = .ok (.getfield 15, 3) := by decide +kernel
theorem dX4_distance_14 : decode cX4_distance 14 = .ok (.iload_n 1, 1) := by decide +kernel
theorem dX4_distance_15 : decode cX4_distance 15 = .ok (.aaload, 1) := by decide +kernel
theorem dX4_distance_16 : decode cX4_distance 16 = .ok (.getfield 58, 3) := by decide +kernel
theorem dX4_distance_19 : decode cX4_distance 19 = .ok (.iload_n 2, 1) := by decide +kernel
theorem dX4_distance_20 : decode cX4_distance 20 = .ok (.iload_n 3, 1) := by decide +kernel
theorem dX4_distance_21 : decode cX4_distance 21 = .ok (.invokevirtual 141, 3) := by decide +kernel
theorem dX4_distance_24 : decode cX4_distance 24 = .ok (.istore 4, 2) := by decide +kernel
theorem dX4_distance_26 : decode cX4_distance 26 = .ok (.iload 4, 2) := by decide +kernel
theorem dX4_distance_28 : decode cX4_distance 28 = .ok (.iconst (-1), 1) := by decide +kernel
theorem dX4_distance_29 : decode cX4_distance 29 = .ok (.if_icmp .ne 7, 3) := by decide +kernel
theorem dX4_distance_32 : decode cX4_distance 32 = .ok (.iconst (-1), 1) := by decide +kernel
theorem dX4_distance_33 : decode cX4_distance 33 = .ok (.goto 10, 3) := by decide +kernel
theorem dX4_distance_36 : decode cX4_distance 36 = .ok (.iload 4, 2) := by decide +kernel
theorem dX4_distance_38 : decode cX4_distance 38 = .ok (.iload_n 2, 1) := by decide +kernel
theorem dX4_distance_39 : decode cX4_distance 39 = .ok (.iload_n 3, 1) := by decide +kernel
theorem dX4_distance_40 : decode cX4_distance 40 = .ok (.invokestatic 144, 3) := by decide +kernel
theorem dX4_distance_43 : decode cX4_distance 43 = .ok (.ireturn, 1) := by decide +kernel
set_option maxRecDepth 20000 in
theorem ggX4_nearest_X4_checkStreet : GoodIn wsX4_nearest wsX4_checkStreet := goodIn_ca (goodIn_r _ [6, 7, 8, 9, 31, 32, 33, 34, 35, 36] (by decide +kernel) (by decide +kernel)) (goodIn_sub (fun _ h => List.mem_cons_of_mem _ (List.mem_append_right _ h)) (by decide +kernel))
set_option maxRecDepth 20000 in
theorem gX4_nearest_X4_checkStreet : GoodIn wsX4_nearest (wsV RX4 51 RX4 yX4_checkStreet wsX4_checkStreet) := goodIn_app (goodIn_of _ (by decide +kernel)) ggX4_nearest_X4_checkStreet
set_option maxRecDepth 20000 in
theorem ggX4_nearest_X4_checkSquare : GoodIn wsX4_nearest wsX4_checkSquare := goodIn_ca (goodIn_r _ [12, 7, 8] (by decide +kernel) (by decide +kernel)) (goodIn_sub (fun _ h => List.mem_cons_of_mem _ (List.mem_append_right _ h)) (by decide +kernel))
set_option maxRecDepth 20000 in
theorem gX4_nearest_X4_checkSquare : GoodIn wsX4_nearest (va_wsS RX4 55 yX4_checkSquare wsX4_checkSquare) := goodIn_app (goodIn_of _ (by decide +kernel)) ggX4_nearest_X4_checkSquare
set_option maxRecDepth 20000 in
theorem ggX4_nearest_X1_nearestTo : GoodIn wsX4_nearest wsX1_nearestTo := goodIn_r _ [16, 17, 18, 19, 14, 20, 21, 22, 5, 23, 24, 25, 26, 27, 28, 29, 30, 41, 42, 43, 44, 45] (by decide +kernel) (by decide +kernel)
set_option maxRecDepth 20000 in
theorem gX4_nearest_X1_nearestTo_n141 : GoodIn wsX4_nearest (wsX1_nearestTo) := ggX4_nearest_X1_nearestTo
theorem dX4_nearest_0 : decode cX4_nearest 0 = .ok (.aload_n 0, 1) := by decide +kernel
theorem dX4_nearest_1 : decode cX4_nearest 1 = .ok (.iload_n 1, 1) := by decide +kernel
theorem dX4_nearest_2 : decode cX4_nearest 2 = .ok (.invokevirtual 51, 3) := by decide +kernel
theorem dX4_nearest_5 : decode cX4_nearest 5 = .ok (.iload_n 2, 1) := by decide +kernel
theorem dX4_nearest_6 : decode cX4_nearest 6 = .ok (.iload_n 3, 1) := by decide +kernel
theorem dX4_nearest_7 : decode cX4_nearest 7 = .ok (.invokestatic 55, 3) := by decide +kernel
theorem dX4_nearest_10 : decode cX4_nearest 10 = .ok (.aload_n 0, 1) := by decide +kernel
theorem dX4_nearest_11 : decode cX4_nearest 11 = .ok (.getfield 15, 3) := by decide +kernel
theorem dX4_nearest_14 : decode cX4_nearest 14 = .ok (.iload_n 1, 1) := by decide +kernel
theorem dX4_nearest_15 : decode cX4_nearest 15 = .ok (.aaload, 1) := by decide +kernel
theorem dX4_nearest_16 : decode cX4_nearest 16 = .ok (.getfield 58, 3) := by decide +kernel
theorem dX4_nearest_19 : decode cX4_nearest 19 = .ok (.iload_n 2, 1) := by decide +kernel
theorem dX4_nearest_20 : decode cX4_nearest 20 = .ok (.iload_n 3, 1) := by decide +kernel
theorem dX4_nearest_21 : decode cX4_nearest 21 = .ok (.invokevirtual 141, 3) := by decide +kernel
theorem dX4_nearest_24 : decode cX4_nearest 24 = .ok (.ireturn, 1) := by decide +kernel
set_option maxRecDepth 20000 in
theorem ggX4_walk_X4_checkSquare : GoodIn wsX4_walk wsX4_checkSquare := goodIn_ca (goodIn_r _ [7, 8, 9] (by decide +kernel) (by decide +kernel)) (goodIn_sub (fun _ h => List.mem_cons_of_mem _ (List.mem_append_right _ h)) (by decide +kernel))
set_option maxRecDepth 20000 in
theorem gX4_walk_X4_checkSquare : GoodIn wsX4_walk (va_wsS RX4 55 yX4_checkSquare wsX4_checkSquare) := goodIn_app (goodIn_of _ (by decide +kernel)) ggX4_walk_X4_checkSquare
set_option maxRecDepth 20000 in
theorem ggX4_walk_X4_squareOf : GoodIn wsX4_walk wsX4_squareOf := goodIn_r _ [12] (by decide +kernel) (by decide +kernel)
set_option maxRecDepth 20000 in
theorem gX4_walk_X4_squareOf : GoodIn wsX4_walk (va_wsS RX4 134 yX4_squareOf wsX4_squareOf) := goodIn_app (goodIn_of _ (by decide +kernel)) ggX4_walk_X4_squareOf
set_option maxRecDepth 20000 in
theorem ggX4_walk_X2_spread : GoodIn wsX4_walk wsX2_spread := goodIn_r _ [16, 17, 18, 19, 20, 21, 14, 22, 23, 24, 25, 26, 27, 28, 29, 30, 31, 32, 33, 34, 35, 36, 37, 38, 39, 49, 50, 51, 52, 53, 54, 55, 56, 57, 58, 59, 60] (by decide +kernel) (by decide +kernel)
set_option maxRecDepth 20000 in
theorem gX4_walk_X2_spread_n148 : GoodIn wsX4_walk (wsX2_spread) := ggX4_walk_X2_spread
set_option maxRecDepth 20000 in
theorem ggX4_walk_X2_stepsOf : GoodIn wsX4_walk wsX2_stepsOf := goodIn_r _ [42, 17, 49, 50, 51] (by decide +kernel) (by decide +kernel)
set_option maxRecDepth 20000 in
theorem gX4_walk_X2_stepsOf_n152 : GoodIn wsX4_walk (wsX2_stepsOf) := ggX4_walk_X2_stepsOf
theorem dX4_walk_0 : decode cX4_walk 0 = .ok (.iload_n 1, 1) := by decide +kernel
theorem dX4_walk_1 : decode cX4_walk 1 = .ok (.iload_n 2, 1) := by decide +kernel
theorem dX4_walk_2 : decode cX4_walk 2 = .ok (.invokestatic 55, 3) := by decide +kernel
theorem dX4_walk_5 : decode cX4_walk 5 = .ok (.iload_n 3, 1) := by decide +kernel
theorem dX4_walk_6 : decode cX4_walk 6 = .ok (.iload 4, 2) := by decide +kernel
theorem dX4_walk_8 : decode cX4_walk 8 = .ok (.invokestatic 55, 3) := by decide +kernel
theorem dX4_walk_11 : decode cX4_walk 11 = .ok (.aload_n 0, 1) := by decide +kernel
theorem dX4_walk_12 : decode cX4_walk 12 = .ok (.getfield 28, 3) := by decide +kernel
theorem dX4_walk_15 : decode cX4_walk 15 = .ok (.aload_n 0, 1) := by decide +kernel
theorem dX4_walk_16 : decode cX4_walk 16 = .ok (.getfield 15, 3) := by decide +kernel
theorem dX4_walk_19 : decode cX4_walk 19 = .ok (.aload_n 0, 1) := by decide +kernel
theorem dX4_walk_20 : decode cX4_walk 20 = .ok (.getfield 37, 3) := by decide +kernel
theorem dX4_walk_23 : decode cX4_walk 23 = .ok (.iload_n 1, 1) := by decide +kernel
theorem dX4_walk_24 : decode cX4_walk 24 = .ok (.iload_n 2, 1) := by decide +kernel
theorem dX4_walk_25 : decode cX4_walk 25 = .ok (.invokestatic 134, 3) := by decide +kernel
theorem dX4_walk_28 : decode cX4_walk 28 = .ok (.invokevirtual 148, 3) := by decide +kernel
theorem dX4_walk_31 : decode cX4_walk 31 = .ok (.pop, 1) := by decide +kernel
theorem dX4_walk_32 : decode cX4_walk 32 = .ok (.aload_n 0, 1) := by decide +kernel
theorem dX4_walk_33 : decode cX4_walk 33 = .ok (.getfield 28, 3) := by decide +kernel
theorem dX4_walk_36 : decode cX4_walk 36 = .ok (.iload_n 3, 1) := by decide +kernel
theorem dX4_walk_37 : decode cX4_walk 37 = .ok (.iload 4, 2) := by decide +kernel
theorem dX4_walk_39 : decode cX4_walk 39 = .ok (.invokestatic 134, 3) := by decide +kernel
theorem dX4_walk_42 : decode cX4_walk 42 = .ok (.invokevirtual 152, 3) := by decide +kernel
theorem dX4_walk_45 : decode cX4_walk 45 = .ok (.ireturn, 1) := by decide +kernel
set_option maxRecDepth 20000 in
theorem ggX4_walkByRounds_X4_checkSquare : GoodIn wsX4_walkByRounds wsX4_checkSquare := goodIn_ca (goodIn_r _ [7, 8, 9] (by decide +kernel) (by decide +kernel)) (goodIn_sub (fun _ h => List.mem_cons_of_mem _ (List.mem_append_right _ h)) (by decide +kernel))
set_option maxRecDepth 20000 in
theorem gX4_walkByRounds_X4_checkSquare : GoodIn wsX4_walkByRounds (va_wsS RX4 55 yX4_checkSquare wsX4_checkSquare) := goodIn_app (goodIn_of _ (by decide +kernel)) ggX4_walkByRounds_X4_checkSquare
set_option maxRecDepth 20000 in
theorem ggX4_walkByRounds_X4_squareOf : GoodIn wsX4_walkByRounds wsX4_squareOf := goodIn_r _ [12] (by decide +kernel) (by decide +kernel)
set_option maxRecDepth 20000 in
theorem gX4_walkByRounds_X4_squareOf : GoodIn wsX4_walkByRounds (va_wsS RX4 134 yX4_squareOf wsX4_squareOf) := goodIn_app (goodIn_of _ (by decide +kernel)) ggX4_walkByRounds_X4_squareOf
set_option maxRecDepth 20000 in
theorem ggX4_walkByRounds_X2_tellBackwards : GoodIn wsX4_walkByRounds wsX2_tellBackwards := goodIn_r _ [16, 17, 18, 19, 20, 21, 22, 23, 24, 14, 25, 26, 27, 28, 29, 39, 40, 41, 42, 43, 44, 45, 46, 47, 48, 49, 50] (by decide +kernel) (by decide +kernel)
set_option maxRecDepth 20000 in
theorem gX4_walkByRounds_X2_tellBackwards_n155 : GoodIn wsX4_walkByRounds (wsX2_tellBackwards) := ggX4_walkByRounds_X2_tellBackwards
set_option maxRecDepth 20000 in
theorem ggX4_walkByRounds_X2_stepsOf : GoodIn wsX4_walkByRounds wsX2_stepsOf := goodIn_r _ [32, 17, 39, 40, 41] (by decide +kernel) (by decide +kernel)
set_option maxRecDepth 20000 in
theorem gX4_walkByRounds_X2_stepsOf_n152 : GoodIn wsX4_walkByRounds (wsX2_stepsOf) := ggX4_walkByRounds_X2_stepsOf
theorem dX4_walkByRounds_0 : decode cX4_walkByRounds 0 = .ok (.iload_n 1, 1) := by decide +kernel
theorem dX4_walkByRounds_1 : decode cX4_walkByRounds 1 = .ok (.iload_n 2, 1) := by decide +kernel
theorem dX4_walkByRounds_2 : decode cX4_walkByRounds 2 = .ok (.invokestatic 55, 3) := by decide +kernel
theorem dX4_walkByRounds_5 : decode cX4_walkByRounds 5 = .ok (.iload_n 3, 1) := by decide +kernel
theorem dX4_walkByRounds_6 : decode cX4_walkByRounds 6 = .ok (.iload 4, 2) := by decide +kernel
theorem dX4_walkByRounds_8 : decode cX4_walkByRounds 8 = .ok (.invokestatic 55, 3) := by decide +kernel
theorem dX4_walkByRounds_11 : decode cX4_walkByRounds 11 = .ok (.aload_n 0, 1) := by decide +kernel
theorem dX4_walkByRounds_12 : decode cX4_walkByRounds 12 = .ok (.getfield 28, 3) := by decide +kernel
theorem dX4_walkByRounds_15 : decode cX4_walkByRounds 15 = .ok (.aload_n 0, 1) := by decide +kernel
theorem dX4_walkByRounds_16 : decode cX4_walkByRounds 16 = .ok (.getfield 15, 3) := by decide +kernel
theorem dX4_walkByRounds_19 : decode cX4_walkByRounds 19 = .ok (.aload_n 0, 1) := by decide +kernel
theorem dX4_walkByRounds_20 : decode cX4_walkByRounds 20 = .ok (.getfield 37, 3) := by decide +kernel
theorem dX4_walkByRounds_23 : decode cX4_walkByRounds 23 = .ok (.iload_n 3, 1) := by decide +kernel
theorem dX4_walkByRounds_24 : decode cX4_walkByRounds 24 = .ok (.iload 4, 2) := by decide +kernel
theorem dX4_walkByRounds_26 : decode cX4_walkByRounds 26 = .ok (.invokestatic 134, 3) := by decide +kernel
theorem dX4_walkByRounds_29 : decode cX4_walkByRounds 29 = .ok (.invokevirtual 155, 3) := by decide +kernel
theorem dX4_walkByRounds_32 : decode cX4_walkByRounds 32 = .ok (.aload_n 0, 1) := by decide +kernel
theorem dX4_walkByRounds_33 : decode cX4_walkByRounds 33 = .ok (.getfield 28, 3) := by decide +kernel
theorem dX4_walkByRounds_36 : decode cX4_walkByRounds 36 = .ok (.iload_n 1, 1) := by decide +kernel
theorem dX4_walkByRounds_37 : decode cX4_walkByRounds 37 = .ok (.iload_n 2, 1) := by decide +kernel
theorem dX4_walkByRounds_38 : decode cX4_walkByRounds 38 = .ok (.invokestatic 134, 3) := by decide +kernel
theorem dX4_walkByRounds_41 : decode cX4_walkByRounds 41 = .ok (.invokevirtual 152, 3) := by decide +kernel
theorem dX4_walkByRounds_44 : decode cX4_walkByRounds 44 = .ok (.ireturn, 1) := by decide +kernel
set_option maxRecDepth 20000 in
theorem ggX4_reachable_X4_checkSquare : GoodIn wsX4_reachable wsX4_checkSquare := goodIn_ca (goodIn_r _ [7, 8, 9] (by decide +kernel) (by decide +kernel)) (goodIn_sub (fun _ h => List.mem_cons_of_mem _ (List.mem_append_right _ h)) (by decide +kernel))
set_option maxRecDepth 20000 in
theorem gX4_reachable_X4_checkSquare : GoodIn wsX4_reachable (va_wsS RX4 55 yX4_checkSquare wsX4_checkSquare) := goodIn_app (goodIn_of _ (by decide +kernel)) ggX4_reachable_X4_checkSquare
set_option maxRecDepth 20000 in
theorem ggX4_reachable_X4_squareOf : GoodIn wsX4_reachable wsX4_squareOf := goodIn_r _ [12] (by decide +kernel) (by decide +kernel)
set_option maxRecDepth 20000 in
theorem gX4_reachable_X4_squareOf : GoodIn wsX4_reachable (va_wsS RX4 134 yX4_squareOf wsX4_squareOf) := goodIn_app (goodIn_of _ (by decide +kernel)) ggX4_reachable_X4_squareOf
set_option maxRecDepth 20000 in
theorem ggX4_reachable_X2_spread : GoodIn wsX4_reachable wsX2_spread := goodIn_r _ [16, 17, 18, 19, 20, 21, 14, 22, 23, 24, 25, 26, 27, 28, 29, 30, 31, 32, 33, 34, 35, 36, 37, 38, 39, 46, 47, 48, 49, 50, 51, 52, 53, 54, 55, 56, 57] (by decide +kernel) (by decide +kernel)
set_option maxRecDepth 20000 in
theorem gX4_reachable_X2_spread_n148 : GoodIn wsX4_reachable (wsX2_spread) := ggX4_reachable_X2_spread
theorem dX4_reachable_0 : decode cX4_reachable 0 = .ok (.iload_n 1, 1) := by decide +kernel
theorem dX4_reachable_1 : decode cX4_reachable 1 = .ok (.iload_n 2, 1) := by decide +kernel
theorem dX4_reachable_2 : decode cX4_reachable 2 = .ok (.invokestatic 55, 3) := by decide +kernel
theorem dX4_reachable_5 : decode cX4_reachable 5 = .ok (.aload_n 0, 1) := by decide +kernel
theorem dX4_reachable_6 : decode cX4_reachable 6 = .ok (.getfield 28, 3) := by decide +kernel
theorem dX4_reachable_9 : decode cX4_reachable 9 = .ok (.aload_n 0, 1) := by decide +kernel
theorem dX4_reachable_10 : decode cX4_reachable 10 = .ok (.getfield 15, 3) := by decide +kernel
theorem dX4_reachable_13 : decode cX4_reachable 13 = .ok (.aload_n 0, 1) := by decide +kernel
theorem dX4_reachable_14 : decode cX4_reachable 14 = .ok (.getfield 37, 3) := by decide +kernel
theorem dX4_reachable_17 : decode cX4_reachable 17 = .ok (.iload_n 1, 1) := by decide +kernel
theorem dX4_reachable_18 : decode cX4_reachable 18 = .ok (.iload_n 2, 1) := by decide +kernel
theorem dX4_reachable_19 : decode cX4_reachable 19 = .ok (.invokestatic 134, 3) := by decide +kernel
theorem dX4_reachable_22 : decode cX4_reachable 22 = .ok (.invokevirtual 148, 3) := by decide +kernel
theorem dX4_reachable_25 : decode cX4_reachable 25 = .ok (.ireturn, 1) := by decide +kernel
theorem dX4_checkStreet_0 : decode cX4_checkStreet 0 = .ok (.iload_n 1, 1) := by decide +kernel
theorem dX4_checkStreet_1 : decode cX4_checkStreet 1 = .ok (.ifCond .lt 11, 3) := by decide +kernel
theorem dX4_checkStreet_4 : decode cX4_checkStreet 4 = .ok (.iload_n 1, 1) := by decide +kernel
theorem dX4_checkStreet_5 : decode cX4_checkStreet 5 = .ok (.aload_n 0, 1) := by decide +kernel
theorem dX4_checkStreet_6 : decode cX4_checkStreet 6 = .ok (.getfield 37, 3) := by decide +kernel
theorem dX4_checkStreet_9 : decode cX4_checkStreet 9 = .ok (.if_icmp .lt 13, 3) := by decide +kernel
theorem dX4_checkStreet_12 : decode cX4_checkStreet 12 = .ok (.new 93, 3) := by decide +kernel
theorem dX4_checkStreet_15 : decode cX4_checkStreet 15 = .ok (.dup, 1) := by decide +kernel
theorem dX4_checkStreet_16 : decode cX4_checkStreet 16 = .ok (.ldc 159, 2) := by decide +kernel
theorem dX4_checkStreet_18 : decode cX4_checkStreet 18 = .ok (.invokespecial 97, 3) := by decide +kernel
theorem dX4_checkStreet_21 : decode cX4_checkStreet 21 = .ok (.athrow, 1) := by decide +kernel
theorem dX4_checkStreet_22 : decode cX4_checkStreet 22 = .ok (.return_, 1) := by decide +kernel
theorem dX4_checkSquare_0 : decode cX4_checkSquare 0 = .ok (.iload_n 0, 1) := by decide +kernel
theorem dX4_checkSquare_1 : decode cX4_checkSquare 1 = .ok (.ifCond .lt 19, 3) := by decide +kernel
theorem dX4_checkSquare_4 : decode cX4_checkSquare 4 = .ok (.iload_n 0, 1) := by decide +kernel
theorem dX4_checkSquare_5 : decode cX4_checkSquare 5 = .ok (.bipush 12, 2) := by decide +kernel
theorem dX4_checkSquare_7 : decode cX4_checkSquare 7 = .ok (.if_icmp .ge 13, 3) := by decide +kernel
theorem dX4_checkSquare_10 : decode cX4_checkSquare 10 = .ok (.iload_n 1, 1) := by decide +kernel
theorem dX4_checkSquare_11 : decode cX4_checkSquare 11 = .ok (.ifCond .lt 9, 3) := by decide +kernel
theorem dX4_checkSquare_14 : decode cX4_checkSquare 14 = .ok (.iload_n 1, 1) := by decide +kernel
theorem dX4_checkSquare_15 : decode cX4_checkSquare 15 = .ok (.bipush 12, 2) := by decide +kernel
theorem dX4_checkSquare_17 : decode cX4_checkSquare 17 = .ok (.if_icmp .lt 13, 3) := by decide +kernel
theorem dX4_checkSquare_20 : decode cX4_checkSquare 20 = .ok (.new 93, 3) := by decide +kernel
theorem dX4_checkSquare_23 : decode cX4_checkSquare 23 = .ok (.dup, 1) := by decide +kernel
theorem dX4_checkSquare_24 : decode cX4_checkSquare 24 = .ok (.ldc 161, 2) := by decide +kernel
theorem dX4_checkSquare_26 : decode cX4_checkSquare 26 = .ok (.invokespecial 97, 3) := by decide +kernel
theorem dX4_checkSquare_29 : decode cX4_checkSquare 29 = .ok (.athrow, 1) := by decide +kernel
theorem dX4_checkSquare_30 : decode cX4_checkSquare 30 = .ok (.return_, 1) := by decide +kernel
set_option maxRecDepth 20000 in
theorem ggX4_checkName_X4_wordOf : GoodIn wsX4_checkName wsX4_wordOf := goodIn_r _ [6] (by decide +kernel) (by decide +kernel)
set_option maxRecDepth 20000 in
theorem gX4_checkName_X4_wordOf : GoodIn wsX4_checkName (va_wsS RX4 165 yX4_wordOf wsX4_wordOf) := goodIn_app (goodIn_of _ (by decide +kernel)) ggX4_checkName_X4_wordOf
theorem dX4_checkName_0 : decode cX4_checkName 0 = .ok (.iload_n 0, 1) := by decide +kernel
theorem dX4_checkName_1 : decode cX4_checkName 1 = .ok (.iconst 1, 1) := by decide +kernel
theorem dX4_checkName_2 : decode cX4_checkName 2 = .ok (.if_icmp .lt 8, 3) := by decide +kernel
theorem dX4_checkName_5 : decode cX4_checkName 5 = .ok (.iload_n 0, 1) := by decide +kernel
theorem dX4_checkName_6 : decode cX4_checkName 6 = .ok (.iconst 4, 1) := by decide +kernel
theorem dX4_checkName_7 : decode cX4_checkName 7 = .ok (.if_icmp .le 13, 3) := by decide +kernel
theorem dX4_checkName_10 : decode cX4_checkName 10 = .ok (.new 68, 3) := by decide +kernel
theorem dX4_checkName_13 : decode cX4_checkName 13 = .ok (.dup, 1) := by decide +kernel
theorem dX4_checkName_14 : decode cX4_checkName 14 = .ok (.ldc 163, 2) := by decide +kernel
theorem dX4_checkName_16 : decode cX4_checkName 16 = .ok (.invokespecial 72, 3) := by decide +kernel
theorem dX4_checkName_19 : decode cX4_checkName 19 = .ok (.athrow, 1) := by decide +kernel
theorem dX4_checkName_20 : decode cX4_checkName 20 = .ok (.iconst 0, 1) := by decide +kernel
theorem dX4_checkName_21 : decode cX4_checkName 21 = .ok (.istore_n 2, 1) := by decide +kernel
theorem dX4_checkName_22 : decode cX4_checkName 22 = .ok (.iload_n 2, 1) := by decide +kernel
theorem dX4_checkName_23 : decode cX4_checkName 23 = .ok (.iload_n 0, 1) := by decide +kernel
theorem dX4_checkName_24 : decode cX4_checkName 24 = .ok (.if_icmp .ge 29, 3) := by decide +kernel
theorem dX4_checkName_27 : decode cX4_checkName 27 = .ok (.iload_n 1, 1) := by decide +kernel
theorem dX4_checkName_28 : decode cX4_checkName 28 = .ok (.iload_n 2, 1) := by decide +kernel
theorem dX4_checkName_29 : decode cX4_checkName 29 = .ok (.invokestatic 165, 3) := by decide +kernel
theorem dX4_checkName_32 : decode cX4_checkName 32 = .ok (.bipush 24, 2) := by decide +kernel
theorem dX4_checkName_34 : decode cX4_checkName 34 = .ok (.if_icmp .lt 13, 3) := by decide +kernel
theorem dX4_checkName_37 : decode cX4_checkName 37 = .ok (.new 68, 3) := by decide +kernel
theorem dX4_checkName_40 : decode cX4_checkName 40 = .ok (.dup, 1) := by decide +kernel
theorem dX4_checkName_41 : decode cX4_checkName 41 = .ok (.ldc 95, 2) := by decide +kernel
theorem dX4_checkName_43 : decode cX4_checkName 43 = .ok (.invokespecial 72, 3) := by decide +kernel
theorem dX4_checkName_46 : decode cX4_checkName 46 = .ok (.athrow, 1) := by decide +kernel
theorem dX4_checkName_47 : decode cX4_checkName 47 = .ok (.iinc 2 1, 3) := by decide +kernel
theorem dX4_checkName_50 : decode cX4_checkName 50 = .ok (.goto (-28), 3) := by decide +kernel
theorem dX4_checkName_53 : decode cX4_checkName 53 = .ok (.return_, 1) := by decide +kernel
theorem dX4_wordOf_0 : decode cX4_wordOf 0 = .ok (.iload_n 0, 1) := by decide +kernel
theorem dX4_wordOf_1 : decode cX4_wordOf 1 = .ok (.bipush 8, 2) := by decide +kernel
theorem dX4_wordOf_3 : decode cX4_wordOf 3 = .ok (.iload_n 1, 1) := by decide +kernel
theorem dX4_wordOf_4 : decode cX4_wordOf 4 = .ok (.imul, 1) := by decide +kernel
theorem dX4_wordOf_5 : decode cX4_wordOf 5 = .ok (.iushr, 1) := by decide +kernel
theorem dX4_wordOf_6 : decode cX4_wordOf 6 = .ok (.sipush 255, 3) := by decide +kernel
theorem dX4_wordOf_9 : decode cX4_wordOf 9 = .ok (.iand, 1) := by decide +kernel
theorem dX4_wordOf_10 : decode cX4_wordOf 10 = .ok (.ireturn, 1) := by decide +kernel
theorem dX4_squareOf_0 : decode cX4_squareOf 0 = .ok (.bipush 12, 2) := by decide +kernel
theorem dX4_squareOf_2 : decode cX4_squareOf 2 = .ok (.iload_n 0, 1) := by decide +kernel
theorem dX4_squareOf_3 : decode cX4_squareOf 3 = .ok (.imul, 1) := by decide +kernel
theorem dX4_squareOf_4 : decode cX4_squareOf 4 = .ok (.iload_n 1, 1) := by decide +kernel
theorem dX4_squareOf_5 : decode cX4_squareOf 5 = .ok (.iadd, 1) := by decide +kernel
theorem dX4_squareOf_6 : decode cX4_squareOf 6 = .ok (.ireturn, 1) := by decide +kernel
theorem dX4_apart_0 : decode cX4_apart 0 = .ok (.iload_n 0, 1) := by decide +kernel
theorem dX4_apart_1 : decode cX4_apart 1 = .ok (.bipush 12, 2) := by decide +kernel
theorem dX4_apart_3 : decode cX4_apart 3 = .ok (.idiv, 1) := by decide +kernel
theorem dX4_apart_4 : decode cX4_apart 4 = .ok (.iload_n 1, 1) := by decide +kernel
theorem dX4_apart_5 : decode cX4_apart 5 = .ok (.isub, 1) := by decide +kernel
theorem dX4_apart_6 : decode cX4_apart 6 = .ok (.invokestatic 168, 3) := by decide +kernel
theorem dX4_apart_9 : decode cX4_apart 9 = .ok (.iload_n 0, 1) := by decide +kernel
theorem dX4_apart_10 : decode cX4_apart 10 = .ok (.bipush 12, 2) := by decide +kernel
theorem dX4_apart_12 : decode cX4_apart 12 = .ok (.irem, 1) := by decide +kernel
theorem dX4_apart_13 : decode cX4_apart 13 = .ok (.iload_n 2, 1) := by decide +kernel
theorem dX4_apart_14 : decode cX4_apart 14 = .ok (.isub, 1) := by decide +kernel
theorem dX4_apart_15 : decode cX4_apart 15 = .ok (.invokestatic 168, 3) := by decide +kernel
theorem dX4_apart_18 : decode cX4_apart 18 = .ok (.invokestatic 173, 3) := by decide +kernel
theorem dX4_apart_21 : decode cX4_apart 21 = .ok (.ireturn, 1) := by decide +kernel
set_option maxRecDepth 20000 in
theorem ggX4_countAhead_X4_indexOrder : GoodIn wsX4_countAhead wsX4_indexOrder := goodIn_r _ [6, 7, 8, 9, 10, 5, 11, 12, 13, 14, 15, 16, 17, 18, 19, 20, 21, 22, 23, 24, 25, 26, 27, 28, 29, 30, 31, 32, 33, 34, 35, 36, 37, 38, 39, 40, 41, 42, 43, 44, 45, 46, 47, 48, 49, 50, 51, 52, 53, 54, 55, 56, 57, 58, 59, 60, 61, 62, 63, 64, 65, 66, 67, 68, 69, 70, 71, 72, 73, 74, 75, 76, 77, 78, 79, 80, 81, 82, 83, 84, 85, 86, 87, 88, 89, 90, 91, 92, 93, 94, 95, 96, 97, 98, 99] (by decide +kernel) (by decide +kernel)
set_option maxRecDepth 20000 in
theorem gX4_countAhead_X4_indexOrder : GoodIn wsX4_countAhead (wsV RX4 176 RX4 yX4_indexOrder wsX4_indexOrder) := goodIn_app (goodIn_of _ (by decide +kernel)) ggX4_countAhead_X4_indexOrder
theorem dX4_countAhead_0 : decode cX4_countAhead 0 = .ok (.iconst 0, 1) := by decide +kernel
theorem dX4_countAhead_1 : decode cX4_countAhead 1 = .ok (.istore_n 2, 1) := by decide +kernel
theorem dX4_countAhead_2 : decode cX4_countAhead 2 = .ok (.iconst 0, 1) := by decide +kernel
theorem dX4_countAhead_3 : decode cX4_countAhead 3 = .ok (.istore_n 3, 1) := by decide +kernel
theorem dX4_countAhead_4 : decode cX4_countAhead 4 = .ok (.iload_n 3, 1) := by decide +kernel
theorem dX4_countAhead_5 : decode cX4_countAhead 5 = .ok (.aload_n 0, 1) := by decide +kernel
theorem dX4_countAhead_6 : decode cX4_countAhead 6 = .ok (.getfield 37, 3) := by decide +kernel
theorem dX4_countAhead_9 : decode cX4_countAhead 9 = .ok (.if_icmp .ge 21, 3) := by decide +kernel
theorem dX4_countAhead_12 : decode cX4_countAhead 12 = .ok (.aload_n 0, 1) := by decide +kernel
theorem dX4_countAhead_13 : decode cX4_countAhead 13 = .ok (.iload_n 3, 1) := by decide +kernel
theorem dX4_countAhead_14 : decode cX4_countAhead 14 = .ok (.iload_n 1, 1) := by decide +kernel
theorem dX4_countAhead_15 : decode cX4_countAhead 15 = .ok (.invokevirtual 176, 3) := by decide +kernel
theorem dX4_countAhead_18 : decode cX4_countAhead 18 = .ok (.ifCond .ge 6, 3) := by decide +kernel
theorem dX4_countAhead_21 : decode cX4_countAhead 21 = .ok (.iinc 2 1, 3) := by decide +kernel
theorem dX4_countAhead_24 : decode cX4_countAhead 24 = .ok (.iinc 3 1, 3) := by decide +kernel
theorem dX4_countAhead_27 : decode cX4_countAhead 27 = .ok (.goto (-23), 3) := by decide +kernel
theorem dX4_countAhead_30 : decode cX4_countAhead 30 = .ok (.iload_n 2, 1) := by decide +kernel
theorem dX4_countAhead_31 : decode cX4_countAhead 31 = .ok (.ireturn, 1) := by decide +kernel
set_option maxRecDepth 20000 in
theorem ggX4_indexOrder_X4_keyOrder : GoodIn wsX4_indexOrder wsX4_keyOrder := goodIn_r _ [6, 1, 7, 8, 9, 10, 11, 12, 13, 14, 15, 16, 17, 18, 19, 20, 21, 5, 22, 23, 24, 25, 26, 27, 28, 29, 30, 31, 32, 33, 34, 35, 36, 37, 38, 39, 40, 41, 42, 43, 44, 45, 46, 47, 48, 49, 50, 51, 52, 53, 54, 55, 56, 57, 58, 59, 60, 61, 62, 63, 64, 65, 66, 67, 68, 69, 70, 71, 72, 73, 74, 75, 76, 77, 78, 79, 80, 81, 85, 86, 87, 88, 89, 90, 91, 92, 93, 94] (by decide +kernel) (by decide +kernel)
set_option maxRecDepth 20000 in
theorem gX4_indexOrder_X4_keyOrder : GoodIn wsX4_indexOrder (wsV RX4 106 RX4 yX4_keyOrder wsX4_keyOrder) := goodIn_app (goodIn_of _ (by decide +kernel)) ggX4_indexOrder_X4_keyOrder
set_option maxRecDepth 20000 in
theorem ggX4_indexOrder_X4_nameOrder : GoodIn wsX4_indexOrder wsX4_nameOrder := goodIn_r _ [84, 20, 21, 5, 22, 23, 24, 25, 26, 27, 28, 29, 30, 31, 32, 33, 34, 35, 36, 37, 38, 39, 40, 41, 42, 43, 44, 45, 46, 47, 48, 49, 50, 51, 52, 53, 54, 55, 56, 57, 58, 59, 60, 61, 62, 63, 64, 65, 66, 67, 68, 69, 70, 71, 72, 73, 74, 75, 76, 77, 78, 79, 80, 81, 91, 92, 93, 94] (by decide +kernel) (by decide +kernel)
set_option maxRecDepth 20000 in
theorem gX4_indexOrder_X4_nameOrder : GoodIn wsX4_indexOrder (va_wsS RX4 179 yX4_nameOrder wsX4_nameOrder) := goodIn_app (goodIn_of _ (by decide +kernel)) ggX4_indexOrder_X4_nameOrder
set_option maxRecDepth 20000 in
theorem ggX4_indexOrder_X4_sign : GoodIn wsX4_indexOrder wsX4_sign := goodIn_r _ [81] (by decide +kernel) (by decide +kernel)
set_option maxRecDepth 20000 in
theorem gX4_indexOrder_X4_sign : GoodIn wsX4_indexOrder (va_wsS RX4 183 yX4_sign wsX4_sign) := goodIn_app (goodIn_of _ (by decide +kernel)) ggX4_indexOrder_X4_sign
theorem dX4_indexOrder_0 : decode cX4_indexOrder 0 = .ok (.aload_n 0, 1) := by decide +kernel
theorem dX4_indexOrder_1 : decode cX4_indexOrder 1 = .ok (.iload_n 1, 1) := by decide +kernel
theorem dX4_indexOrder_2 : decode cX4_indexOrder 2 = .ok (.iload_n 2, 1) := by decide +kernel
theorem dX4_indexOrder_3 : decode cX4_indexOrder 3 = .ok (.invokevirtual 106, 3) := by decide +kernel
theorem dX4_indexOrder_6 : decode cX4_indexOrder 6 = .ok (.istore_n 3, 1) := by decide +kernel
theorem dX4_indexOrder_7 : decode cX4_indexOrder 7 = .ok (.iload_n 3, 1) := by decide +kernel
theorem dX4_indexOrder_8 : decode cX4_indexOrder 8 = .ok (.ifCond .ne 19, 3) := by decide +kernel
theorem dX4_indexOrder_11 : decode cX4_indexOrder 11 = .ok (.aload_n 0, 1) := by decide +kernel
theorem dX4_indexOrder_12 : decode cX4_indexOrder 12 = .ok (.getfield 15, 3) := by decide +kernel
theorem dX4_indexOrder_15 : decode cX4_indexOrder 15 = .ok (.iload_n 1, 1) := by decide +kernel
theorem dX4_indexOrder_16 : decode cX4_indexOrder 16 = .ok (.aaload, 1) := by decide +kernel
theorem dX4_indexOrder_17 : decode cX4_indexOrder 17 = .ok (.aload_n 0, 1) := by decide +kernel
theorem dX4_indexOrder_18 : decode cX4_indexOrder 18 = .ok (.getfield 15, 3) := by decide +kernel
theorem dX4_indexOrder_21 : decode cX4_indexOrder 21 = .ok (.iload_n 2, 1) := by decide +kernel
theorem dX4_indexOrder_22 : decode cX4_indexOrder 22 = .ok (.aaload, 1) := by decide +kernel
theorem dX4_indexOrder_23 : decode cX4_indexOrder 23 = .ok (.invokestatic 179, 3) := by decide +kernel
theorem dX4_indexOrder_26 : decode cX4_indexOrder 26 = .ok (.istore_n 3, 1) := by decide +kernel
theorem dX4_indexOrder_27 : decode cX4_indexOrder 27 = .ok (.iload_n 3, 1) := by decide +kernel
theorem dX4_indexOrder_28 : decode cX4_indexOrder 28 = .ok (.ifCond .ne 12, 3) := by decide +kernel
theorem dX4_indexOrder_31 : decode cX4_indexOrder 31 = .ok (.iload_n 1, 1) := by decide +kernel
theorem dX4_indexOrder_32 : decode cX4_indexOrder 32 = .ok (.iload_n 2, 1) := by decide +kernel
theorem dX4_indexOrder_33 : decode cX4_indexOrder 33 = .ok (.isub, 1) := by decide +kernel
theorem dX4_indexOrder_34 : decode cX4_indexOrder 34 = .ok (.invokestatic 183, 3) := by decide +kernel
theorem dX4_indexOrder_37 : decode cX4_indexOrder 37 = .ok (.goto 4, 3) := by decide +kernel
theorem dX4_indexOrder_40 : decode cX4_indexOrder 40 = .ok (.iload_n 3, 1) := by decide +kernel
theorem dX4_indexOrder_41 : decode cX4_indexOrder 41 = .ok (.ireturn, 1) := by decide +kernel
set_option maxRecDepth 20000 in
theorem ggX4_keyOrder_X0_putKey : GoodIn wsX4_keyOrder wsX0_putKey := goodIn_r _ [8, 9, 10, 11, 6, 12, 13, 14, 84, 85, 86, 87] (by decide +kernel) (by decide +kernel)
set_option maxRecDepth 20000 in
theorem gX4_keyOrder_X0_putKey_n186 : GoodIn wsX4_keyOrder (wsX0_putKey) := ggX4_keyOrder_X0_putKey
set_option maxRecDepth 20000 in
theorem ggX4_keyOrder_X4_wordsOrder : GoodIn wsX4_keyOrder wsX4_wordsOrder := goodIn_r _ [18, 19, 20, 21, 22, 23, 24, 17, 25, 26, 27, 28, 29, 30, 31, 32, 33, 34, 35, 36, 37, 38, 39, 40, 41, 42, 43, 44, 45, 46, 47, 48, 49, 50, 51, 52, 53, 54, 55, 56, 57, 58, 59, 60, 61, 62, 63, 64, 65, 66, 67, 68, 69, 70, 71, 72, 73, 74, 75, 76, 77] (by decide +kernel) (by decide +kernel)
set_option maxRecDepth 20000 in
theorem gX4_keyOrder_X4_wordsOrder : GoodIn wsX4_keyOrder (va_wsS RX4 190 yX4_wordsOrder wsX4_wordsOrder) := goodIn_app (goodIn_of _ (by decide +kernel)) ggX4_keyOrder_X4_wordsOrder
theorem dX4_keyOrder_0 : decode cX4_keyOrder 0 = .ok (.aload_n 0, 1) := by decide +kernel
theorem dX4_keyOrder_1 : decode cX4_keyOrder 1 = .ok (.getfield 15, 3) := by decide +kernel
theorem dX4_keyOrder_4 : decode cX4_keyOrder 4 = .ok (.iload_n 1, 1) := by decide +kernel
theorem dX4_keyOrder_5 : decode cX4_keyOrder 5 = .ok (.aaload, 1) := by decide +kernel
theorem dX4_keyOrder_6 : decode cX4_keyOrder 6 = .ok (.aload_n 0, 1) := by decide +kernel
theorem dX4_keyOrder_7 : decode cX4_keyOrder 7 = .ok (.getfield 9, 3) := by decide +kernel
theorem dX4_keyOrder_10 : decode cX4_keyOrder 10 = .ok (.aload_n 0, 1) := by decide +kernel
theorem dX4_keyOrder_11 : decode cX4_keyOrder 11 = .ok (.getfield 19, 3) := by decide +kernel
theorem dX4_keyOrder_14 : decode cX4_keyOrder 14 = .ok (.invokevirtual 186, 3) := by decide +kernel
theorem dX4_keyOrder_17 : decode cX4_keyOrder 17 = .ok (.istore_n 3, 1) := by decide +kernel
theorem dX4_keyOrder_18 : decode cX4_keyOrder 18 = .ok (.aload_n 0, 1) := by decide +kernel
theorem dX4_keyOrder_19 : decode cX4_keyOrder 19 = .ok (.getfield 15, 3) := by decide +kernel
theorem dX4_keyOrder_22 : decode cX4_keyOrder 22 = .ok (.iload_n 2, 1) := by decide +kernel
theorem dX4_keyOrder_23 : decode cX4_keyOrder 23 = .ok (.aaload, 1) := by decide +kernel
theorem dX4_keyOrder_24 : decode cX4_keyOrder 24 = .ok (.aload_n 0, 1) := by decide +kernel
theorem dX4_keyOrder_25 : decode cX4_keyOrder 25 = .ok (.getfield 9, 3) := by decide +kernel
theorem dX4_keyOrder_28 : decode cX4_keyOrder 28 = .ok (.aload_n 0, 1) := by decide +kernel
theorem dX4_keyOrder_29 : decode cX4_keyOrder 29 = .ok (.getfield 22, 3) := by decide +kernel
theorem dX4_keyOrder_32 : decode cX4_keyOrder 32 = .ok (.invokevirtual 186, 3) := by decide +kernel
theorem dX4_keyOrder_35 : decode cX4_keyOrder 35 = .ok (.istore 4, 2) := by decide +kernel
theorem dX4_keyOrder_37 : decode cX4_keyOrder 37 = .ok (.aload_n 0, 1) := by decide +kernel
theorem dX4_keyOrder_38 : decode cX4_keyOrder 38 = .ok (.getfield 19, 3) := by decide +kernel
theorem dX4_keyOrder_41 : decode cX4_keyOrder 41 = .ok (.iload_n 3, 1) := by decide +kernel
theorem dX4_keyOrder_42 : decode cX4_keyOrder 42 = .ok (.aload_n 0, 1) := by decide +kernel
theorem dX4_keyOrder_43 : decode cX4_keyOrder 43 = .ok (.getfield 22, 3) := by decide +kernel
theorem dX4_keyOrder_46 : decode cX4_keyOrder 46 = .ok (.iload 4, 2) := by decide +kernel
theorem dX4_keyOrder_48 : decode cX4_keyOrder 48 = .ok (.invokestatic 190, 3) := by decide +kernel
theorem dX4_keyOrder_51 : decode cX4_keyOrder 51 = .ok (.ireturn, 1) := by decide +kernel
set_option maxRecDepth 20000 in
theorem ggX4_nameOrder_X4_wordsOrder : GoodIn wsX4_nameOrder wsX4_wordsOrder := goodIn_r _ [4, 5, 6, 7, 8, 9, 10, 3, 11, 12, 13, 14, 15, 16, 17, 18, 19, 20, 21, 22, 23, 24, 25, 26, 27, 28, 29, 30, 31, 32, 33, 34, 35, 36, 37, 38, 39, 40, 41, 42, 43, 44, 45, 46, 47, 48, 49, 50, 51, 52, 53, 54, 55, 56, 57, 58, 59, 60, 61, 62, 63] (by decide +kernel) (by decide +kernel)
set_option maxRecDepth 20000 in
theorem gX4_nameOrder_X4_wordsOrder : GoodIn wsX4_nameOrder (va_wsS RX4 190 yX4_wordsOrder wsX4_wordsOrder) := goodIn_app (goodIn_of _ (by decide +kernel)) ggX4_nameOrder_X4_wordsOrder
theorem dX4_nameOrder_0 : decode cX4_nameOrder 0 = .ok (.aload_n 0, 1) := by decide +kernel
theorem dX4_nameOrder_1 : decode cX4_nameOrder 1 = .ok (.getfield 194, 3) := by decide +kernel
theorem dX4_nameOrder_4 : decode cX4_nameOrder 4 = .ok (.aload_n 0, 1) := by decide +kernel
theorem dX4_nameOrder_5 : decode cX4_nameOrder 5 = .ok (.getfield 197, 3) := by decide +kernel
theorem dX4_nameOrder_8 : decode cX4_nameOrder 8 = .ok (.aload_n 1, 1) := by decide +kernel
theorem dX4_nameOrder_9 : decode cX4_nameOrder 9 = .ok (.getfield 194, 3) := by decide +kernel
theorem dX4_nameOrder_12 : decode cX4_nameOrder 12 = .ok (.aload_n 1, 1) := by decide +kernel
theorem dX4_nameOrder_13 : decode cX4_nameOrder 13 = .ok (.getfield 197, 3) := by decide +kernel
theorem dX4_nameOrder_16 : decode cX4_nameOrder 16 = .ok (.invokestatic 190, 3) := by decide +kernel
theorem dX4_nameOrder_19 : decode cX4_nameOrder 19 = .ok (.ireturn, 1) := by decide +kernel
set_option maxRecDepth 20000 in
theorem ggX4_wordsOrder_X4_lettersOrder : GoodIn wsX4_wordsOrder wsX4_lettersOrder := goodIn_r _ [8, 1, 2, 3, 4, 9, 10, 11, 12, 13, 14, 15, 16, 17, 18, 19, 20, 21, 22, 23, 24, 25, 26, 27, 28, 29, 30, 31, 32, 33, 34, 35, 36, 37, 38, 39, 40, 41, 42, 43, 44, 45, 46, 47, 48, 49, 50, 51, 52, 53, 54, 55, 56, 57, 58, 59, 7, 60] (by decide +kernel) (by decide +kernel)
set_option maxRecDepth 20000 in
theorem gX4_wordsOrder_X4_lettersOrder : GoodIn wsX4_wordsOrder (va_wsS RX4 213 yX4_lettersOrder wsX4_lettersOrder) := goodIn_app (goodIn_of _ (by decide +kernel)) ggX4_wordsOrder_X4_lettersOrder
set_option maxRecDepth 20000 in
theorem ggX4_wordsOrder_X4_sign : GoodIn wsX4_wordsOrder wsX4_sign := goodIn_r _ [60] (by decide +kernel) (by decide +kernel)
set_option maxRecDepth 20000 in
theorem gX4_wordsOrder_X4_sign : GoodIn wsX4_wordsOrder (va_wsS RX4 183 yX4_sign wsX4_sign) := goodIn_app (goodIn_of _ (by decide +kernel)) ggX4_wordsOrder_X4_sign
theorem dX4_wordsOrder_0 : decode cX4_wordsOrder 0 = .ok (.iload_n 1, 1) := by decide +kernel
theorem dX4_wordsOrder_1 : decode cX4_wordsOrder 1 = .ok (.iload_n 3, 1) := by decide +kernel
theorem dX4_wordsOrder_2 : decode cX4_wordsOrder 2 = .ok (.invokestatic 200, 3) := by decide +kernel
theorem dX4_wordsOrder_5 : decode cX4_wordsOrder 5 = .ok (.istore 4, 2) := by decide +kernel
theorem dX4_wordsOrder_7 : decode cX4_wordsOrder 7 = .ok (.iconst 0, 1) := by decide +kernel
theorem dX4_wordsOrder_8 : decode cX4_wordsOrder 8 = .ok (.istore 5, 2) := by decide +kernel
theorem dX4_wordsOrder_10 : decode cX4_wordsOrder 10 = .ok (.iload 5, 2) := by decide +kernel
theorem dX4_wordsOrder_12 : decode cX4_wordsOrder 12 = .ok (.iload 4, 2) := by decide +kernel
theorem dX4_wordsOrder_14 : decode cX4_wordsOrder 14 = .ok (.if_icmp .ge 44, 3) := by decide +kernel
theorem dX4_wordsOrder_17 : decode cX4_wordsOrder 17 = .ok (.getstatic 203, 3) := by decide +kernel
theorem dX4_wordsOrder_20 : decode cX4_wordsOrder 20 = .ok (.aload_n 0, 1) := by decide +kernel
theorem dX4_wordsOrder_21 : decode cX4_wordsOrder 21 = .ok (.iload 5, 2) := by decide +kernel
theorem dX4_wordsOrder_23 : decode cX4_wordsOrder 23 = .ok (.iaload, 1) := by decide +kernel
theorem dX4_wordsOrder_24 : decode cX4_wordsOrder 24 = .ok (.aaload, 1) := by decide +kernel
theorem dX4_wordsOrder_25 : decode cX4_wordsOrder 25 = .ok (.getfield 209, 3) := by decide +kernel
theorem dX4_wordsOrder_28 : decode cX4_wordsOrder 28 = .ok (.getstatic 203, 3) := by decide +kernel
theorem dX4_wordsOrder_31 : decode cX4_wordsOrder 31 = .ok (.aload_n 2, 1) := by decide +kernel
theorem dX4_wordsOrder_32 : decode cX4_wordsOrder 32 = .ok (.iload 5, 2) := by decide +kernel
theorem dX4_wordsOrder_34 : decode cX4_wordsOrder 34 = .ok (.iaload, 1) := by decide +kernel
theorem dX4_wordsOrder_35 : decode cX4_wordsOrder 35 = .ok (.aaload, 1) := by decide +kernel
theorem dX4_wordsOrder_36 : decode cX4_wordsOrder 36 = .ok (.getfield 209, 3) := by decide +kernel
theorem dX4_wordsOrder_39 : decode cX4_wordsOrder 39 = .ok (.invokestatic 213, 3) := by decide +kernel
theorem dX4_wordsOrder_42 : decode cX4_wordsOrder 42 = .ok (.istore 6, 2) := by decide +kernel
theorem dX4_wordsOrder_44 : decode cX4_wordsOrder 44 = .ok (.iload 6, 2) := by decide +kernel
theorem dX4_wordsOrder_46 : decode cX4_wordsOrder 46 = .ok (.ifCond .eq 6, 3) := by decide +kernel
theorem dX4_wordsOrder_49 : decode cX4_wordsOrder 49 = .ok (.iload 6, 2) := by decide +kernel
theorem dX4_wordsOrder_51 : decode cX4_wordsOrder 51 = .ok (.ireturn, 1) := by decide +kernel
theorem dX4_wordsOrder_52 : decode cX4_wordsOrder 52 = .ok (.iinc 5 1, 3) := by decide +kernel
theorem dX4_wordsOrder_55 : decode cX4_wordsOrder 55 = .ok (.goto (-45), 3) := by decide +kernel
theorem dX4_wordsOrder_58 : decode cX4_wordsOrder 58 = .ok (.iload_n 1, 1) := by decide +kernel
theorem dX4_wordsOrder_59 : decode cX4_wordsOrder 59 = .ok (.iload_n 3, 1) := by decide +kernel
theorem dX4_wordsOrder_60 : decode cX4_wordsOrder 60 = .ok (.isub, 1) := by decide +kernel
theorem dX4_wordsOrder_61 : decode cX4_wordsOrder 61 = .ok (.invokestatic 183, 3) := by decide +kernel
theorem dX4_wordsOrder_64 : decode cX4_wordsOrder 64 = .ok (.ireturn, 1) := by decide +kernel
set_option maxRecDepth 20000 in
theorem ggX4_lettersOrder_J0_length_8abf5 : GoodIn wsX4_lettersOrder wsJ0_length_8abf5 := goodIn_r _ [9, 10, 11, 12, 13, 8, 14, 15, 16] (by decide +kernel) (by decide +kernel)
set_option maxRecDepth 20000 in
theorem gX4_lettersOrder_J0_length_8abf5 : GoodIn wsX4_lettersOrder (wsV RX4 217 RJ0 yJ0_length_8abf5 wsJ0_length_8abf5) := goodIn_app (goodIn_of _ (by decide +kernel)) ggX4_lettersOrder_J0_length_8abf5
set_option maxRecDepth 20000 in
theorem ggX4_lettersOrder_J0_charAt_5068e : GoodIn wsX4_lettersOrder wsJ0_charAt_5068e := goodIn_r _ [20, 10, 21, 22, 23, 8, 24, 15, 16, 25, 26, 27, 28, 29, 30, 31, 32, 33, 34, 35, 36, 37, 38, 39, 40, 41, 42, 43, 44, 45, 46, 47, 48, 49, 50, 51, 52, 53] (by decide +kernel) (by decide +kernel)
set_option maxRecDepth 20000 in
theorem gX4_lettersOrder_J0_charAt_5068e : GoodIn wsX4_lettersOrder (wsV RX4 220 RJ0 yJ0_charAt_5068e wsJ0_charAt_5068e) := goodIn_app (goodIn_of _ (by decide +kernel)) ggX4_lettersOrder_J0_charAt_5068e
set_option maxRecDepth 20000 in
theorem ggX4_lettersOrder_X4_sign : GoodIn wsX4_lettersOrder wsX4_sign := goodIn_r _ [57] (by decide +kernel) (by decide +kernel)
set_option maxRecDepth 20000 in
theorem gX4_lettersOrder_X4_sign : GoodIn wsX4_lettersOrder (va_wsS RX4 183 yX4_sign wsX4_sign) := goodIn_app (goodIn_of _ (by decide +kernel)) ggX4_lettersOrder_X4_sign
theorem dX4_lettersOrder_0 : decode cX4_lettersOrder 0 = .ok (.aload_n 0, 1) := by decide +kernel
theorem dX4_lettersOrder_1 : decode cX4_lettersOrder 1 = .ok (.invokevirtual 217, 3) := by decide +kernel
theorem dX4_lettersOrder_4 : decode cX4_lettersOrder 4 = .ok (.aload_n 1, 1) := by decide +kernel
theorem dX4_lettersOrder_5 : decode cX4_lettersOrder 5 = .ok (.invokevirtual 217, 3) := by decide +kernel
theorem dX4_lettersOrder_8 : decode cX4_lettersOrder 8 = .ok (.invokestatic 200, 3) := by decide +kernel
theorem dX4_lettersOrder_11 : decode cX4_lettersOrder 11 = .ok (.istore_n 2, 1) := by decide +kernel
theorem dX4_lettersOrder_12 : decode cX4_lettersOrder 12 = .ok (.iconst 0, 1) := by decide +kernel
theorem dX4_lettersOrder_13 : decode cX4_lettersOrder 13 = .ok (.istore_n 3, 1) := by decide +kernel
theorem dX4_lettersOrder_14 : decode cX4_lettersOrder 14 = .ok (.iload_n 3, 1) := by decide +kernel
theorem dX4_lettersOrder_15 : decode cX4_lettersOrder 15 = .ok (.iload_n 2, 1) := by decide +kernel
theorem dX4_lettersOrder_16 : decode cX4_lettersOrder 16 = .ok (.if_icmp .ge 41, 3) := by decide +kernel
theorem dX4_lettersOrder_19 : decode cX4_lettersOrder 19 = .ok (.aload_n 0, 1) := by decide +kernel
theorem dX4_lettersOrder_20 : decode cX4_lettersOrder 20 = .ok (.iload_n 3, 1) := by decide +kernel
theorem dX4_lettersOrder_21 : decode cX4_lettersOrder 21 = .ok (.invokevirtual 220, 3) := by decide +kernel
theorem dX4_lettersOrder_24 : decode cX4_lettersOrder 24 = .ok (.aload_n 1, 1) := by decide +kernel
theorem dX4_lettersOrder_25 : decode cX4_lettersOrder 25 = .ok (.iload_n 3, 1) := by decide +kernel
theorem dX4_lettersOrder_26 : decode cX4_lettersOrder 26 = .ok (.invokevirtual 220, 3) := by decide +kernel
theorem dX4_lettersOrder_29 : decode cX4_lettersOrder 29 = .ok (.if_icmp .eq 22, 3) := by decide +kernel
theorem dX4_lettersOrder_32 : decode cX4_lettersOrder 32 = .ok (.aload_n 0, 1) := by decide +kernel
theorem dX4_lettersOrder_33 : decode cX4_lettersOrder 33 = .ok (.iload_n 3, 1) := by decide +kernel
theorem dX4_lettersOrder_34 : decode cX4_lettersOrder 34 = .ok (.invokevirtual 220, 3) := by decide +kernel
theorem dX4_lettersOrder_37 : decode cX4_lettersOrder 37 = .ok (.aload_n 1, 1) := by decide +kernel
theorem dX4_lettersOrder_38 : decode cX4_lettersOrder 38 = .ok (.iload_n 3, 1) := by decide +kernel
theorem dX4_lettersOrder_39 : decode cX4_lettersOrder 39 = .ok (.invokevirtual 220, 3) := by decide +kernel
theorem dX4_lettersOrder_42 : decode cX4_lettersOrder 42 = .ok (.if_icmp .ge 7, 3) := by decide +kernel
theorem dX4_lettersOrder_45 : decode cX4_lettersOrder 45 = .ok (.iconst (-1), 1) := by decide +kernel
theorem dX4_lettersOrder_46 : decode cX4_lettersOrder 46 = .ok (.goto 4, 3) := by decide +kernel
theorem dX4_lettersOrder_49 : decode cX4_lettersOrder 49 = .ok (.iconst 1, 1) := by decide +kernel
theorem dX4_lettersOrder_50 : decode cX4_lettersOrder 50 = .ok (.ireturn, 1) := by decide +kernel
theorem dX4_lettersOrder_51 : decode cX4_lettersOrder 51 = .ok (.iinc 3 1, 3) := by decide +kernel
theorem dX4_lettersOrder_54 : decode cX4_lettersOrder 54 = .ok (.goto (-40), 3) := by decide +kernel
theorem dX4_lettersOrder_57 : decode cX4_lettersOrder 57 = .ok (.aload_n 0, 1) := by decide +kernel
theorem dX4_lettersOrder_58 : decode cX4_lettersOrder 58 = .ok (.invokevirtual 217, 3) := by decide +kernel
theorem dX4_lettersOrder_61 : decode cX4_lettersOrder 61 = .ok (.aload_n 1, 1) := by decide +kernel
theorem dX4_lettersOrder_62 : decode cX4_lettersOrder 62 = .ok (.invokevirtual 217, 3) := by decide +kernel
theorem dX4_lettersOrder_65 : decode cX4_lettersOrder 65 = .ok (.isub, 1) := by decide +kernel
theorem dX4_lettersOrder_66 : decode cX4_lettersOrder 66 = .ok (.invokestatic 183, 3) := by decide +kernel
theorem dX4_lettersOrder_69 : decode cX4_lettersOrder 69 = .ok (.ireturn, 1) := by decide +kernel
theorem dX4_sign_0 : decode cX4_sign 0 = .ok (.iload_n 0, 1) := by decide +kernel
theorem dX4_sign_1 : decode cX4_sign 1 = .ok (.ifCond .ne 5, 3) := by decide +kernel
theorem dX4_sign_4 : decode cX4_sign 4 = .ok (.iconst 0, 1) := by decide +kernel
theorem dX4_sign_5 : decode cX4_sign 5 = .ok (.ireturn, 1) := by decide +kernel
theorem dX4_sign_6 : decode cX4_sign 6 = .ok (.iload_n 0, 1) := by decide +kernel
theorem dX4_sign_7 : decode cX4_sign 7 = .ok (.ifCond .ge 7, 3) := by decide +kernel
theorem dX4_sign_10 : decode cX4_sign 10 = .ok (.iconst (-1), 1) := by decide +kernel
theorem dX4_sign_11 : decode cX4_sign 11 = .ok (.goto 4, 3) := by decide +kernel
theorem dX4_sign_14 : decode cX4_sign 14 = .ok (.iconst 1, 1) := by decide +kernel
theorem dX4_sign_15 : decode cX4_sign 15 = .ok (.ireturn, 1) := by decide +kernel
set_option maxRecDepth 20000 in
theorem ggX4_lineOf_J4_init_da8c8 : GoodIn wsX4_lineOf wsJ4_init_da8c8 := goodIn_r _ [6, 7, 8, 9, 10, 11, 12, 13, 14, 15, 16, 17, 18, 19, 20, 21, 22, 23, 24, 25, 241, 242, 243, 244] (by decide +kernel) (by decide +kernel)
set_option maxRecDepth 20000 in
theorem gX4_lineOf_J4_init_da8c8 : GoodIn wsX4_lineOf (wsJ4_init_da8c8) := ggX4_lineOf_J4_init_da8c8
set_option maxRecDepth 20000 in
theorem ggX4_lineOf_X4_appendName : GoodIn wsX4_lineOf wsX4_appendName := goodIn_r _ [30, 31, 32, 33, 34, 35, 36, 37, 38, 39, 40, 29, 41, 42, 43, 44, 3, 45, 46, 47, 48, 49, 9, 50, 51, 16, 52, 53, 54, 55, 56, 17, 57, 58, 59, 60, 61, 62, 63, 64, 65, 66, 67, 68, 69, 70, 71, 72, 73, 74, 75, 76, 77, 78, 79, 80, 81, 82, 83, 84, 15, 85, 86, 87, 88, 89, 90, 91, 92, 93, 94, 95, 96, 14, 97, 98, 99, 100, 101, 102, 103, 104, 105, 18, 19, 20, 21, 22, 23, 24, 25, 106, 107, 108, 109, 110, 111, 112, 113, 114, 115, 116, 117, 118, 119, 120, 121, 122, 123, 124, 125, 126, 127, 128, 129, 130, 131, 132, 133, 134, 135, 136, 137, 138, 139, 140, 141, 142, 143, 144, 145, 146, 147, 148, 149, 150, 151, 152, 153, 154, 155, 156, 157, 158, 159, 160, 161, 162, 163, 164, 165, 166, 167, 168, 169, 170, 171, 172, 173, 174, 175, 176, 177, 178, 179, 180, 181, 182, 183, 184, 185, 186, 187, 188, 189, 190, 191, 192, 193, 194, 195, 196, 197, 254, 255, 256, 257, 258, 259, 245, 246, 247, 248, 241, 242, 243, 244] (by decide +kernel) (by decide +kernel)
set_option maxRecDepth 20000 in
theorem gX4_lineOf_X4_appendName : GoodIn wsX4_lineOf (wsV RX4 222 RX4 yX4_appendName wsX4_appendName) := goodIn_app (goodIn_of _ (by decide +kernel)) ggX4_lineOf_X4_appendName
set_option maxRecDepth 20000 in
theorem ggX4_lineOf_J4_append_cf468 : GoodIn wsX4_lineOf wsJ4_append_cf468 := goodIn_r _ [45, 46, 47, 48, 49, 9, 50, 51, 16, 52, 53, 54, 55, 56, 17, 57, 58, 59, 60, 61, 62, 63, 64, 65, 66, 67, 68, 69, 70, 71, 72, 73, 74, 75, 76, 77, 78, 79, 80, 81, 82, 83, 84, 15, 85, 86, 87, 88, 89, 90, 91, 92, 93, 94, 95, 96, 14, 97, 98, 99, 100, 101, 102, 103, 104, 105, 18, 19, 20, 21, 22, 23, 24, 25, 106, 107, 108, 109, 110, 111, 112, 113, 114, 115, 116, 117, 118, 119, 120, 121, 122, 123, 124, 125, 126, 127, 128, 129, 130, 131, 132, 133, 134, 135, 136, 137, 138, 139, 140, 141, 142, 143, 144, 241, 242, 243, 244] (by decide +kernel) (by decide +kernel)
set_option maxRecDepth 20000 in
theorem gX4_lineOf_J4_append_cf468 : GoodIn wsX4_lineOf (wsV RX4 226 RJ4 yJ4_append_cf468 wsJ4_append_cf468) := goodIn_app (goodIn_of _ (by decide +kernel)) ggX4_lineOf_J4_append_cf468
set_option maxRecDepth 20000 in
theorem ggX4_lineOf_X4_appendRuns : GoodIn wsX4_lineOf wsX4_appendRuns := goodIn_r _ [200, 201, 202, 203, 204, 205, 206, 207, 208, 209, 210, 211, 212, 213, 214, 29, 215, 42, 43, 44, 3, 45, 46, 47, 48, 49, 9, 50, 51, 16, 52, 53, 54, 55, 56, 17, 57, 58, 59, 60, 61, 62, 63, 64, 65, 66, 67, 68, 69, 70, 71, 72, 73, 74, 75, 76, 77, 78, 79, 80, 81, 82, 83, 84, 15, 85, 86, 87, 88, 89, 90, 91, 92, 93, 94, 95, 96, 14, 97, 98, 99, 100, 101, 102, 103, 104, 105, 18, 19, 20, 21, 22, 23, 24, 25, 106, 107, 108, 109, 110, 111, 112, 113, 114, 115, 116, 117, 118, 119, 120, 121, 122, 123, 124, 125, 126, 127, 128, 129, 130, 131, 132, 133, 134, 135, 136, 137, 138, 139, 140, 141, 142, 143, 144, 216, 217, 218, 219, 220, 221, 222, 223, 224, 225, 226, 227, 228, 229, 230, 231, 232, 233, 234, 235, 161, 162, 163, 164, 165, 166, 167, 168, 169, 236, 237, 238, 239, 240, 249, 250, 251, 252, 253, 241, 242, 243, 244] (by decide +kernel) (by decide +kernel)
set_option maxRecDepth 20000 in
theorem gX4_lineOf_X4_appendRuns : GoodIn wsX4_lineOf (va_wsS RX4 230 yX4_appendRuns wsX4_appendRuns) := goodIn_app (goodIn_of _ (by decide +kernel)) ggX4_lineOf_X4_appendRuns
theorem dX4_lineOf_0 : decode cX4_lineOf 0 = .ok (.new 115, 3) := by decide +kernel
theorem dX4_lineOf_3 : decode cX4_lineOf 3 = .ok (.dup, 1) := by decide +kernel
theorem dX4_lineOf_4 : decode cX4_lineOf 4 = .ok (.invokespecial 221, 3) := by decide +kernel
theorem dX4_lineOf_7 : decode cX4_lineOf 7 = .ok (.astore_n 2, 1) := by decide +kernel
theorem dX4_lineOf_8 : decode cX4_lineOf 8 = .ok (.aload_n 0, 1) := by decide +kernel
theorem dX4_lineOf_9 : decode cX4_lineOf 9 = .ok (.aload_n 2, 1) := by decide +kernel
theorem dX4_lineOf_10 : decode cX4_lineOf 10 = .ok (.aload_n 1, 1) := by decide +kernel
theorem dX4_lineOf_11 : decode cX4_lineOf 11 = .ok (.invokevirtual 222, 3) := by decide +kernel
theorem dX4_lineOf_14 : decode cX4_lineOf 14 = .ok (.aload_n 1, 1) := by decide +kernel
theorem dX4_lineOf_15 : decode cX4_lineOf 15 = .ok (.getfield 58, 3) := by decide +kernel
theorem dX4_lineOf_18 : decode cX4_lineOf 18 = .ok (.getfield 81, 3) := by decide +kernel
theorem dX4_lineOf_21 : decode cX4_lineOf 21 = .ok (.ifCond .le 18, 3) := by decide +kernel
theorem dX4_lineOf_24 : decode cX4_lineOf 24 = .ok (.aload_n 2, 1) := by decide +kernel
theorem dX4_lineOf_25 : decode cX4_lineOf 25 = .ok (.bipush 58, 2) := by decide +kernel
theorem dX4_lineOf_27 : decode cX4_lineOf 27 = .ok (.invokevirtual 226, 3) := by decide +kernel
theorem dX4_lineOf_30 : decode cX4_lineOf 30 = .ok (.pop, 1) := by decide +kernel
theorem dX4_lineOf_31 : decode cX4_lineOf 31 = .ok (.aload_n 2, 1) := by decide +kernel
theorem dX4_lineOf_32 : decode cX4_lineOf 32 = .ok (.aload_n 1, 1) := by decide +kernel
theorem dX4_lineOf_33 : decode cX4_lineOf 33 = .ok (.getfield 58, 3) := by decide +kernel
theorem dX4_lineOf_36 : decode cX4_lineOf 36 = .ok (.invokestatic 230, 3) := by decide +kernel
theorem dX4_lineOf_39 : decode cX4_lineOf 39 = .ok (.aload_n 2, 1) := by decide +kernel
theorem dX4_lineOf_40 : decode cX4_lineOf 40 = .ok (.areturn, 1) := by decide +kernel
set_option maxRecDepth 20000 in
theorem ggX4_appendName_X0_countMoved : GoodIn wsX4_appendName wsX0_countMoved := goodIn_r _ [5, 6, 7, 189, 190, 191, 192] (by decide +kernel) (by decide +kernel)
set_option maxRecDepth 20000 in
theorem gX4_appendName_X0_countMoved_n234 : GoodIn wsX4_appendName (wsX0_countMoved) := ggX4_appendName_X0_countMoved
set_option maxRecDepth 20000 in
theorem ggX4_appendName_X4_appendWords : GoodIn wsX4_appendName wsX4_appendWords := goodIn_r _ [12, 1, 13, 14, 15, 16, 17, 18, 19, 20, 21, 22, 23, 24, 25, 26, 27, 28, 29, 30, 31, 32, 33, 34, 35, 36, 37, 38, 39, 40, 41, 42, 43, 44, 45, 46, 47, 48, 49, 50, 51, 52, 53, 54, 55, 56, 57, 58, 59, 60, 61, 62, 63, 64, 65, 66, 67, 68, 69, 70, 71, 72, 73, 74, 75, 76, 77, 78, 79, 80, 81, 82, 83, 84, 85, 86, 87, 88, 89, 90, 91, 92, 93, 94, 95, 96, 97, 98, 99, 100, 101, 102, 103, 104, 105, 106, 107, 108, 109, 110, 111, 112, 113, 114, 115, 116, 117, 118, 119, 120, 121, 122, 123, 124, 125, 126, 127, 128, 129, 130, 131, 132, 133, 134, 135, 136, 137, 138, 139, 140, 141, 142, 143, 144, 145, 146, 147, 148, 149, 150, 151, 152, 153, 154, 155, 156, 157, 158, 159, 160, 161, 162, 163, 164, 165, 166, 167, 168, 169, 170, 171, 172, 173, 174, 175, 176, 177, 178, 179, 180, 181, 182, 189, 190, 191, 192, 183, 184, 185, 186, 187, 188, 193, 194, 195, 196] (by decide +kernel) (by decide +kernel)
set_option maxRecDepth 20000 in
theorem gX4_appendName_X4_appendWords : GoodIn wsX4_appendName (wsV RX4 238 RX4 yX4_appendWords wsX4_appendWords) := goodIn_app (goodIn_of _ (by decide +kernel)) ggX4_appendName_X4_appendWords
set_option maxRecDepth 20000 in
theorem ggX4_appendName_J4_append_15ec4 : GoodIn wsX4_appendName wsJ4_append_15ec4 := goodIn_r _ [133, 134, 135, 20, 136, 22, 137, 24, 138, 139, 140, 141, 142, 25, 26, 27, 28, 29, 30, 31, 32, 33, 34, 35, 36, 37, 38, 39, 40, 41, 42, 43, 44, 45, 46, 47, 48, 49, 50, 51, 52, 53, 54, 55, 56, 57, 58, 59, 60, 61, 62, 63, 64, 65, 66, 67, 68, 69, 70, 71, 72, 73, 143, 144, 85, 145, 115, 146, 147, 148, 100, 101, 102, 149, 150, 105, 151, 107, 152, 153, 110, 154, 112, 113, 114, 116, 117, 155, 156, 157, 158, 159, 160, 161, 162, 163, 164, 165, 166, 167, 168, 169, 170, 171, 172, 173, 174, 175, 176, 78, 79, 80, 81, 82, 83, 84, 86, 87, 88, 89, 90, 91, 92, 76, 93, 94, 95, 96, 97, 98, 99, 103, 104, 106, 108, 109, 111, 177, 178, 179, 180, 181, 182, 193, 194, 195, 196] (by decide +kernel) (by decide +kernel)
set_option maxRecDepth 20000 in
theorem gX4_appendName_J4_append_15ec4 : GoodIn wsX4_appendName (wsV RX4 244 RJ4 yJ4_append_15ec4 wsJ4_append_15ec4) := goodIn_app (goodIn_of _ (by decide +kernel)) ggX4_appendName_J4_append_15ec4
theorem dX4_appendName_0 : decode cX4_appendName 0 = .ok (.aload_n 2, 1) := by decide +kernel
theorem dX4_appendName_1 : decode cX4_appendName 1 = .ok (.aload_n 0, 1) := by decide +kernel
theorem dX4_appendName_2 : decode cX4_appendName 2 = .ok (.getfield 9, 3) := by decide +kernel
theorem dX4_appendName_5 : decode cX4_appendName 5 = .ok (.invokevirtual 234, 3) := by decide +kernel
theorem dX4_appendName_8 : decode cX4_appendName 8 = .ok (.istore_n 3, 1) := by decide +kernel
theorem dX4_appendName_9 : decode cX4_appendName 9 = .ok (.aload_n 2, 1) := by decide +kernel
theorem dX4_appendName_10 : decode cX4_appendName 10 = .ok (.getfield 197, 3) := by decide +kernel
theorem dX4_appendName_13 : decode cX4_appendName 13 = .ok (.iload_n 3, 1) := by decide +kernel
theorem dX4_appendName_14 : decode cX4_appendName 14 = .ok (.isub, 1) := by decide +kernel
theorem dX4_appendName_15 : decode cX4_appendName 15 = .ok (.istore 4, 2) := by decide +kernel
theorem dX4_appendName_17 : decode cX4_appendName 17 = .ok (.aload_n 0, 1) := by decide +kernel
theorem dX4_appendName_18 : decode cX4_appendName 18 = .ok (.aload_n 1, 1) := by decide +kernel
theorem dX4_appendName_19 : decode cX4_appendName 19 = .ok (.aload_n 2, 1) := by decide +kernel
theorem dX4_appendName_20 : decode cX4_appendName 20 = .ok (.iconst 0, 1) := by decide +kernel
theorem dX4_appendName_21 : decode cX4_appendName 21 = .ok (.invokevirtual 238, 3) := by decide +kernel
theorem dX4_appendName_24 : decode cX4_appendName 24 = .ok (.iload 4, 2) := by decide +kernel
theorem dX4_appendName_26 : decode cX4_appendName 26 = .ok (.ifCond .le 14, 3) := by decide +kernel
theorem dX4_appendName_29 : decode cX4_appendName 29 = .ok (.iload_n 3, 1) := by decide +kernel
theorem dX4_appendName_30 : decode cX4_appendName 30 = .ok (.ifCond .le 10, 3) := by decide +kernel
theorem dX4_appendName_33 : decode cX4_appendName 33 = .ok (.aload_n 1, 1) := by decide +kernel
theorem dX4_appendName_34 : decode cX4_appendName 34 = .ok (.ldc 242, 2) := by decide +kernel
theorem dX4_appendName_36 : decode cX4_appendName 36 = .ok (.invokevirtual 244, 3) := by decide +kernel
theorem dX4_appendName_39 : decode cX4_appendName 39 = .ok (.pop, 1) := by decide +kernel
theorem dX4_appendName_40 : decode cX4_appendName 40 = .ok (.aload_n 0, 1) := by decide +kernel
theorem dX4_appendName_41 : decode cX4_appendName 41 = .ok (.aload_n 1, 1) := by decide +kernel
theorem dX4_appendName_42 : decode cX4_appendName 42 = .ok (.aload_n 2, 1) := by decide +kernel
theorem dX4_appendName_43 : decode cX4_appendName 43 = .ok (.iconst 1, 1) := by decide +kernel
theorem dX4_appendName_44 : decode cX4_appendName 44 = .ok (.invokevirtual 238, 3) := by decide +kernel
theorem dX4_appendName_47 : decode cX4_appendName 47 = .ok (.return_, 1) := by decide +kernel
set_option maxRecDepth 20000 in
theorem ggX4_appendWords_J4_append_cf468 : GoodIn wsX4_appendWords wsJ4_append_cf468 := goodIn_r _ [6, 7, 8, 9, 10, 11, 12, 13, 14, 15, 16, 17, 18, 19, 20, 21, 22, 23, 24, 25, 26, 27, 28, 29, 30, 31, 32, 33, 34, 35, 36, 37, 38, 39, 40, 41, 42, 43, 44, 45, 46, 47, 48, 49, 50, 51, 52, 53, 54, 55, 56, 57, 58, 59, 60, 61, 62, 63, 64, 65, 66, 67, 68, 69, 70, 71, 72, 73, 74, 75, 76, 77, 78, 79, 80, 81, 82, 83, 84, 85, 86, 87, 88, 89, 90, 91, 92, 93, 94, 95, 96, 97, 98, 99, 100, 101, 102, 103, 104, 105, 106, 107, 108, 109, 110, 111, 112, 113, 114, 115, 116, 117, 118, 182, 183, 184, 185] (by decide +kernel) (by decide +kernel)
set_option maxRecDepth 20000 in
theorem gX4_appendWords_J4_append_cf468 : GoodIn wsX4_appendWords (wsV RX4 226 RJ4 yJ4_append_cf468 wsJ4_append_cf468) := goodIn_app (goodIn_of _ (by decide +kernel)) ggX4_appendWords_J4_append_cf468
set_option maxRecDepth 20000 in
theorem ggX4_appendWords_J4_append_15ec4 : GoodIn wsX4_appendWords wsJ4_append_15ec4 := goodIn_r _ [122, 123, 124, 9, 125, 11, 126, 13, 127, 128, 129, 130, 131, 14, 15, 16, 17, 18, 19, 20, 21, 22, 23, 24, 25, 26, 27, 28, 29, 30, 31, 32, 33, 34, 35, 36, 37, 38, 39, 40, 41, 42, 43, 44, 45, 46, 47, 48, 49, 50, 51, 52, 53, 54, 55, 56, 57, 58, 59, 60, 61, 62, 132, 133, 74, 134, 104, 135, 136, 137, 89, 90, 91, 138, 139, 94, 140, 96, 141, 142, 99, 143, 101, 102, 103, 105, 106, 144, 145, 146, 147, 148, 149, 150, 151, 152, 153, 154, 155, 156, 157, 158, 159, 160, 161, 162, 163, 164, 165, 67, 68, 69, 70, 71, 72, 73, 75, 76, 77, 78, 79, 80, 81, 65, 82, 83, 84, 85, 86, 87, 88, 92, 93, 95, 97, 98, 100, 166, 167, 168, 169, 170, 171, 182, 183, 184, 185] (by decide +kernel) (by decide +kernel)
set_option maxRecDepth 20000 in
theorem gX4_appendWords_J4_append_15ec4 : GoodIn wsX4_appendWords (wsV RX4 244 RJ4 yJ4_append_15ec4 wsJ4_append_15ec4) := goodIn_app (goodIn_of _ (by decide +kernel)) ggX4_appendWords_J4_append_15ec4
theorem dX4_appendWords_0 : decode cX4_appendWords 0 = .ok (.iconst 1, 1) := by decide +kernel
theorem dX4_appendWords_1 : decode cX4_appendWords 1 = .ok (.istore 4, 2) := by decide +kernel
theorem dX4_appendWords_3 : decode cX4_appendWords 3 = .ok (.iconst 0, 1) := by decide +kernel
theorem dX4_appendWords_4 : decode cX4_appendWords 4 = .ok (.istore 5, 2) := by decide +kernel
theorem dX4_appendWords_6 : decode cX4_appendWords 6 = .ok (.iload 5, 2) := by decide +kernel
theorem dX4_appendWords_8 : decode cX4_appendWords 8 = .ok (.aload_n 2, 1) := by decide +kernel
theorem dX4_appendWords_9 : decode cX4_appendWords 9 = .ok (.getfield 197, 3) := by decide +kernel
theorem dX4_appendWords_12 : decode cX4_appendWords 12 = .ok (.if_icmp .ge 67, 3) := by decide +kernel
theorem dX4_appendWords_15 : decode cX4_appendWords 15 = .ok (.aload_n 2, 1) := by decide +kernel
theorem dX4_appendWords_16 : decode cX4_appendWords 16 = .ok (.getfield 194, 3) := by decide +kernel
theorem dX4_appendWords_19 : decode cX4_appendWords 19 = .ok (.iload 5, 2) := by decide +kernel
theorem dX4_appendWords_21 : decode cX4_appendWords 21 = .ok (.iaload, 1) := by decide +kernel
theorem dX4_appendWords_22 : decode cX4_appendWords 22 = .ok (.istore 6, 2) := by decide +kernel
theorem dX4_appendWords_24 : decode cX4_appendWords 24 = .ok (.aload_n 0, 1) := by decide +kernel
theorem dX4_appendWords_25 : decode cX4_appendWords 25 = .ok (.getfield 9, 3) := by decide +kernel
theorem dX4_appendWords_28 : decode cX4_appendWords 28 = .ok (.iload 6, 2) := by decide +kernel
theorem dX4_appendWords_30 : decode cX4_appendWords 30 = .ok (.iaload, 1) := by decide +kernel
theorem dX4_appendWords_31 : decode cX4_appendWords 31 = .ok (.iconst 2, 1) := by decide +kernel
theorem dX4_appendWords_32 : decode cX4_appendWords 32 = .ok (.if_icmp .ne 7, 3) := by decide +kernel
theorem dX4_appendWords_35 : decode cX4_appendWords 35 = .ok (.iconst 1, 1) := by decide +kernel
theorem dX4_appendWords_36 : decode cX4_appendWords 36 = .ok (.goto 4, 3) := by decide +kernel
theorem dX4_appendWords_39 : decode cX4_appendWords 39 = .ok (.iconst 0, 1) := by decide +kernel
theorem dX4_appendWords_40 : decode cX4_appendWords 40 = .ok (.iload_n 3, 1) := by decide +kernel
theorem dX4_appendWords_41 : decode cX4_appendWords 41 = .ok (.if_icmp .ne 32, 3) := by decide +kernel
theorem dX4_appendWords_44 : decode cX4_appendWords 44 = .ok (.iload 4, 2) := by decide +kernel
theorem dX4_appendWords_46 : decode cX4_appendWords 46 = .ok (.ifCond .ne 10, 3) := by decide +kernel
theorem dX4_appendWords_49 : decode cX4_appendWords 49 = .ok (.aload_n 1, 1) := by decide +kernel
theorem dX4_appendWords_50 : decode cX4_appendWords 50 = .ok (.bipush 32, 2) := by decide +kernel
theorem dX4_appendWords_52 : decode cX4_appendWords 52 = .ok (.invokevirtual 226, 3) := by decide +kernel
theorem dX4_appendWords_55 : decode cX4_appendWords 55 = .ok (.pop, 1) := by decide +kernel
theorem dX4_appendWords_56 : decode cX4_appendWords 56 = .ok (.aload_n 1, 1) := by decide +kernel
theorem dX4_appendWords_57 : decode cX4_appendWords 57 = .ok (.getstatic 203, 3) := by decide +kernel
theorem dX4_appendWords_60 : decode cX4_appendWords 60 = .ok (.iload 6, 2) := by decide +kernel
theorem dX4_appendWords_62 : decode cX4_appendWords 62 = .ok (.aaload, 1) := by decide +kernel
theorem dX4_appendWords_63 : decode cX4_appendWords 63 = .ok (.getfield 209, 3) := by decide +kernel
theorem dX4_appendWords_66 : decode cX4_appendWords 66 = .ok (.invokevirtual 244, 3) := by decide +kernel
theorem dX4_appendWords_69 : decode cX4_appendWords 69 = .ok (.pop, 1) := by decide +kernel
theorem dX4_appendWords_70 : decode cX4_appendWords 70 = .ok (.iconst 0, 1) := by decide +kernel
theorem dX4_appendWords_71 : decode cX4_appendWords 71 = .ok (.istore 4, 2) := by decide +kernel
theorem dX4_appendWords_73 : decode cX4_appendWords 73 = .ok (.iinc 5 1, 3) := by decide +kernel
theorem dX4_appendWords_76 : decode cX4_appendWords 76 = .ok (.goto (-70), 3) := by decide +kernel
theorem dX4_appendWords_79 : decode cX4_appendWords 79 = .ok (.return_, 1) := by decide +kernel
set_option maxRecDepth 20000 in
theorem ggX4_appendRuns_X1_beginsRun : GoodIn wsX4_appendRuns wsX1_beginsRun := goodIn_r _ [4, 5, 6, 7, 2, 8, 9, 168, 169, 170, 171, 172] (by decide +kernel) (by decide +kernel)
set_option maxRecDepth 20000 in
theorem gX4_appendRuns_X1_beginsRun_n247 : GoodIn wsX4_appendRuns (wsX1_beginsRun) := ggX4_appendRuns_X1_beginsRun
set_option maxRecDepth 20000 in
theorem ggX4_appendRuns_X1_endOfRun : GoodIn wsX4_appendRuns wsX1_endOfRun := goodIn_r _ [12, 5, 6, 7, 2, 8, 9, 168, 169, 170, 171, 172] (by decide +kernel) (by decide +kernel)
set_option maxRecDepth 20000 in
theorem gX4_appendRuns_X1_endOfRun_n250 : GoodIn wsX4_appendRuns (wsX1_endOfRun) := ggX4_appendRuns_X1_endOfRun
set_option maxRecDepth 20000 in
theorem ggX4_appendRuns_X4_appendRun : GoodIn wsX4_appendRuns wsX4_appendRun := goodIn_r _ [16, 17, 18, 19, 20, 21, 22, 23, 24, 25, 26, 27, 28, 29, 30, 31, 32, 33, 34, 35, 36, 37, 38, 39, 40, 41, 42, 43, 44, 45, 46, 47, 48, 49, 50, 51, 52, 53, 54, 55, 56, 57, 58, 59, 60, 61, 62, 63, 64, 65, 66, 67, 68, 69, 70, 71, 72, 73, 74, 75, 76, 77, 78, 79, 80, 81, 82, 83, 84, 85, 86, 87, 88, 89, 90, 91, 92, 93, 94, 95, 96, 97, 98, 99, 100, 101, 102, 103, 104, 105, 106, 107, 108, 109, 110, 111, 112, 113, 114, 115, 116, 117, 118, 119, 120, 121, 122, 123, 124, 125, 126, 127, 128, 129, 130, 131, 132, 133, 134, 135, 136, 137, 138, 139, 140, 141, 142, 143, 144, 145, 146, 147, 148, 149, 150, 151, 152, 153, 154, 155, 156, 157, 158, 159, 160, 161, 162, 163, 164, 165, 166, 167, 173, 174, 175, 176] (by decide +kernel) (by decide +kernel)
set_option maxRecDepth 20000 in
theorem gX4_appendRuns_X4_appendRun : GoodIn wsX4_appendRuns (va_wsS RX4 253 yX4_appendRun wsX4_appendRun) := goodIn_app (goodIn_of _ (by decide +kernel)) ggX4_appendRuns_X4_appendRun
theorem dX4_appendRuns_0 : decode cX4_appendRuns 0 = .ok (.iconst 0, 1) := by decide +kernel
theorem dX4_appendRuns_1 : decode cX4_appendRuns 1 = .ok (.istore_n 2, 1) := by decide +kernel
theorem dX4_appendRuns_2 : decode cX4_appendRuns 2 = .ok (.iload_n 2, 1) := by decide +kernel
theorem dX4_appendRuns_3 : decode cX4_appendRuns 3 = .ok (.bipush 12, 2) := by decide +kernel
theorem dX4_appendRuns_5 : decode cX4_appendRuns 5 = .ok (.if_icmp .ge 44, 3) := by decide +kernel
theorem dX4_appendRuns_8 : decode cX4_appendRuns 8 = .ok (.iconst 0, 1) := by decide +kernel
theorem dX4_appendRuns_9 : decode cX4_appendRuns 9 = .ok (.istore_n 3, 1) := by decide +kernel
theorem dX4_appendRuns_10 : decode cX4_appendRuns 10 = .ok (.iload_n 3, 1) := by decide +kernel
theorem dX4_appendRuns_11 : decode cX4_appendRuns 11 = .ok (.bipush 12, 2) := by decide +kernel
theorem dX4_appendRuns_13 : decode cX4_appendRuns 13 = .ok (.if_icmp .ge 30, 3) := by decide +kernel
theorem dX4_appendRuns_16 : decode cX4_appendRuns 16 = .ok (.aload_n 1, 1) := by decide +kernel
theorem dX4_appendRuns_17 : decode cX4_appendRuns 17 = .ok (.iload_n 2, 1) := by decide +kernel
theorem dX4_appendRuns_18 : decode cX4_appendRuns 18 = .ok (.iload_n 3, 1) := by decide +kernel
theorem dX4_appendRuns_19 : decode cX4_appendRuns 19 = .ok (.invokevirtual 247, 3) := by decide +kernel
theorem dX4_appendRuns_22 : decode cX4_appendRuns 22 = .ok (.ifCond .eq 15, 3) := by decide +kernel
theorem dX4_appendRuns_25 : decode cX4_appendRuns 25 = .ok (.aload_n 0, 1) := by decide +kernel
theorem dX4_appendRuns_26 : decode cX4_appendRuns 26 = .ok (.iload_n 2, 1) := by decide +kernel
theorem dX4_appendRuns_27 : decode cX4_appendRuns 27 = .ok (.iload_n 3, 1) := by decide +kernel
theorem dX4_appendRuns_28 : decode cX4_appendRuns 28 = .ok (.aload_n 1, 1) := by decide +kernel
theorem dX4_appendRuns_29 : decode cX4_appendRuns 29 = .ok (.iload_n 2, 1) := by decide +kernel
theorem dX4_appendRuns_30 : decode cX4_appendRuns 30 = .ok (.iload_n 3, 1) := by decide +kernel
theorem dX4_appendRuns_31 : decode cX4_appendRuns 31 = .ok (.invokevirtual 250, 3) := by decide +kernel
theorem dX4_appendRuns_34 : decode cX4_appendRuns 34 = .ok (.invokestatic 253, 3) := by decide +kernel
theorem dX4_appendRuns_37 : decode cX4_appendRuns 37 = .ok (.iinc 3 1, 3) := by decide +kernel
theorem dX4_appendRuns_40 : decode cX4_appendRuns 40 = .ok (.goto (-30), 3) := by decide +kernel
theorem dX4_appendRuns_43 : decode cX4_appendRuns 43 = .ok (.iinc 2 1, 3) := by decide +kernel
theorem dX4_appendRuns_46 : decode cX4_appendRuns 46 = .ok (.goto (-44), 3) := by decide +kernel
theorem dX4_appendRuns_49 : decode cX4_appendRuns 49 = .ok (.return_, 1) := by decide +kernel
set_option maxRecDepth 20000 in
theorem ggX4_appendRun_J4_append_cf468 : GoodIn wsX4_appendRun wsJ4_append_cf468 := goodIn_r _ [5, 6, 7, 8, 9, 10, 11, 12, 13, 14, 15, 16, 17, 18, 19, 20, 21, 22, 23, 24, 25, 26, 27, 28, 29, 30, 31, 32, 33, 34, 35, 36, 37, 38, 39, 40, 41, 42, 43, 44, 45, 46, 47, 48, 49, 50, 51, 52, 53, 54, 55, 56, 57, 58, 59, 60, 61, 62, 63, 64, 65, 66, 67, 68, 69, 70, 71, 72, 73, 74, 75, 76, 77, 78, 79, 80, 81, 82, 83, 84, 85, 86, 87, 88, 89, 90, 91, 92, 93, 94, 95, 96, 97, 98, 99, 100, 101, 102, 103, 104, 105, 106, 107, 108, 109, 110, 111, 112, 113, 114, 115, 116, 117, 152, 153, 154, 155] (by decide +kernel) (by decide +kernel)
set_option maxRecDepth 20000 in
theorem gX4_appendRun_J4_append_cf468 : GoodIn wsX4_appendRun (wsV RX4 226 RJ4 yJ4_append_cf468 wsJ4_append_cf468) := goodIn_app (goodIn_of _ (by decide +kernel)) ggX4_appendRun_J4_append_cf468
set_option maxRecDepth 20000 in
theorem ggX4_appendRun_J4_append_bf812 : GoodIn wsX4_appendRun wsJ4_append_bf812 := goodIn_r _ [121, 122, 123, 8, 124, 10, 125, 12, 13, 126, 127, 128, 129, 14, 15, 16, 17, 18, 19, 20, 21, 22, 23, 24, 25, 26, 27, 28, 29, 30, 31, 32, 33, 34, 35, 36, 37, 38, 39, 40, 41, 42, 43, 44, 45, 46, 47, 48, 49, 50, 51, 52, 53, 54, 55, 56, 57, 58, 59, 60, 61, 130, 131, 132, 133, 134, 135, 136, 73, 137, 103, 138, 139, 140, 88, 89, 90, 141, 142, 93, 143, 95, 144, 145, 98, 146, 147, 148, 149, 150, 151, 100, 101, 102, 104, 105, 152, 153, 154, 155] (by decide +kernel) (by decide +kernel)
set_option maxRecDepth 20000 in
theorem gX4_appendRun_J4_append_bf812 : GoodIn wsX4_appendRun (wsV RX4 257 RJ4 yJ4_append_bf812 wsJ4_append_bf812) := goodIn_app (goodIn_of _ (by decide +kernel)) ggX4_appendRun_J4_append_bf812
theorem dX4_appendRun_0 : decode cX4_appendRun 0 = .ok (.aload_n 0, 1) := by decide +kernel
theorem dX4_appendRun_1 : decode cX4_appendRun 1 = .ok (.bipush 32, 2) := by decide +kernel
theorem dX4_appendRun_3 : decode cX4_appendRun 3 = .ok (.invokevirtual 226, 3) := by decide +kernel
theorem dX4_appendRun_6 : decode cX4_appendRun 6 = .ok (.pop, 1) := by decide +kernel
theorem dX4_appendRun_7 : decode cX4_appendRun 7 = .ok (.aload_n 0, 1) := by decide +kernel
theorem dX4_appendRun_8 : decode cX4_appendRun 8 = .ok (.bipush 65, 2) := by decide +kernel
theorem dX4_appendRun_10 : decode cX4_appendRun 10 = .ok (.iload_n 1, 1) := by decide +kernel
theorem dX4_appendRun_11 : decode cX4_appendRun 11 = .ok (.iadd, 1) := by decide +kernel
theorem dX4_appendRun_12 : decode cX4_appendRun 12 = .ok (.i2c, 1) := by decide +kernel
theorem dX4_appendRun_13 : decode cX4_appendRun 13 = .ok (.invokevirtual 226, 3) := by decide +kernel
theorem dX4_appendRun_16 : decode cX4_appendRun 16 = .ok (.pop, 1) := by decide +kernel
theorem dX4_appendRun_17 : decode cX4_appendRun 17 = .ok (.aload_n 0, 1) := by decide +kernel
theorem dX4_appendRun_18 : decode cX4_appendRun 18 = .ok (.iload_n 2, 1) := by decide +kernel
theorem dX4_appendRun_19 : decode cX4_appendRun 19 = .ok (.iconst 1, 1) := by decide +kernel
theorem dX4_appendRun_20 : decode cX4_appendRun 20 = .ok (.iadd, 1) := by decide +kernel
theorem dX4_appendRun_21 : decode cX4_appendRun 21 = .ok (.invokevirtual 257, 3) := by decide +kernel
theorem dX4_appendRun_24 : decode cX4_appendRun 24 = .ok (.pop, 1) := by decide +kernel
theorem dX4_appendRun_25 : decode cX4_appendRun 25 = .ok (.iload_n 3, 1) := by decide +kernel
theorem dX4_appendRun_26 : decode cX4_appendRun 26 = .ok (.iload_n 2, 1) := by decide +kernel
theorem dX4_appendRun_27 : decode cX4_appendRun 27 = .ok (.if_icmp .le 18, 3) := by decide +kernel
theorem dX4_appendRun_30 : decode cX4_appendRun 30 = .ok (.aload_n 0, 1) := by decide +kernel
theorem dX4_appendRun_31 : decode cX4_appendRun 31 = .ok (.bipush 45, 2) := by decide +kernel
theorem dX4_appendRun_33 : decode cX4_appendRun 33 = .ok (.invokevirtual 226, 3) := by decide +kernel
theorem dX4_appendRun_36 : decode cX4_appendRun 36 = .ok (.pop, 1) := by decide +kernel
theorem dX4_appendRun_37 : decode cX4_appendRun 37 = .ok (.aload_n 0, 1) := by decide +kernel
theorem dX4_appendRun_38 : decode cX4_appendRun 38 = .ok (.iload_n 3, 1) := by decide +kernel
theorem dX4_appendRun_39 : decode cX4_appendRun 39 = .ok (.iconst 1, 1) := by decide +kernel
theorem dX4_appendRun_40 : decode cX4_appendRun 40 = .ok (.iadd, 1) := by decide +kernel
theorem dX4_appendRun_41 : decode cX4_appendRun 41 = .ok (.invokevirtual 257, 3) := by decide +kernel
theorem dX4_appendRun_44 : decode cX4_appendRun 44 = .ok (.pop, 1) := by decide +kernel
theorem dX4_appendRun_45 : decode cX4_appendRun 45 = .ok (.return_, 1) := by decide +kernel
end
section
set_option maxRecDepth 20000 in
theorem ggX5_init_X5_spell : GoodIn wsX5_init wsX5_spell := goodIn_r _ [23, 5, 24, 25, 26, 27, 28, 29, 30, 31, 32, 33, 34, 35, 36, 37, 38, 39, 40] (by decide +kernel) (by decide +kernel)
set_option maxRecDepth 20000 in
theorem gX5_init_X5_spell : GoodIn wsX5_init (wsV RX5 50 RX5 yX5_spell wsX5_spell) := goodIn_app (goodIn_of _ (by decide +kernel)) ggX5_init_X5_spell
theorem dX5_init_0 : decode cX5_init 0 = .ok (.aload_n 0, 1) := by decide +kernel
theorem dX5_init_1 : decode cX5_init 1 = .ok (.invokespecial 1, 3) := by decide +kernel
theorem dX5_init_4 : decode cX5_init 4 = .ok (.aload_n 0, 1) := by decide +kernel
theorem dX5_init_5 : decode cX5_init 5 = .ok (.sipush 192, 3) := by decide +kernel
theorem dX5_init_8 : decode cX5_init 8 = .ok (.newarray .int, 2) := by decide +kernel
theorem dX5_init_10 : decode cX5_init 10 = .ok (.putfield 7, 3) := by decide +kernel
theorem dX5_init_13 : decode cX5_init 13 = .ok (.aload_n 0, 1) := by decide +kernel
theorem dX5_init_14 : decode cX5_init 14 = .ok (.bipush 24, 2) := by decide +kernel
theorem dX5_init_16 : decode cX5_init 16 = .ok (.newarray .int, 2) := by decide +kernel
theorem dX5_init_18 : decode cX5_init 18 = .ok (.putfield 13, 3) := by decide +kernel
theorem dX5_init_21 : decode cX5_init 21 = .ok (.aload_n 0, 1) := by decide +kernel
theorem dX5_init_22 : decode cX5_init 22 = .ok (.bipush 64, 2) := by decide +kernel
theorem dX5_init_24 : decode cX5_init 24 = .ok (.newarray .int, 2) := by decide +kernel
theorem dX5_init_26 : decode cX5_init 26 = .ok (.putfield 16, 3) := by decide +kernel
theorem dX5_init_29 : decode cX5_init 29 = .ok (.aload_n 0, 1) := by decide +kernel
theorem dX5_init_30 : decode cX5_init 30 = .ok (.bipush 16, 2) := by decide +kernel
theorem dX5_init_32 : decode cX5_init 32 = .ok (.newarray .int, 2) := by decide +kernel
theorem dX5_init_34 : decode cX5_init 34 = .ok (.putfield 19, 3) := by decide +kernel
theorem dX5_init_37 : decode cX5_init 37 = .ok (.aload_n 0, 1) := by decide +kernel
theorem dX5_init_38 : decode cX5_init 38 = .ok (.sipush 160, 3) := by decide +kernel
theorem dX5_init_41 : decode cX5_init 41 = .ok (.newarray .int, 2) := by decide +kernel
theorem dX5_init_43 : decode cX5_init 43 = .ok (.putfield 22, 3) := by decide +kernel
theorem dX5_init_46 : decode cX5_init 46 = .ok (.aload_n 0, 1) := by decide +kernel
theorem dX5_init_47 : decode cX5_init 47 = .ok (.bipush 16, 2) := by decide +kernel
theorem dX5_init_49 : decode cX5_init 49 = .ok (.newarray .int, 2) := by decide +kernel
theorem dX5_init_51 : decode cX5_init 51 = .ok (.putfield 25, 3) := by decide +kernel
theorem dX5_init_54 : decode cX5_init 54 = .ok (.aload_n 0, 1) := by decide +kernel
theorem dX5_init_55 : decode cX5_init 55 = .ok (.bipush 16, 2) := by decide +kernel
theorem dX5_init_57 : decode cX5_init 57 = .ok (.newarray .boolean, 2) := by decide +kernel
theorem dX5_init_59 : decode cX5_init 59 = .ok (.putfield 28, 3) := by decide +kernel
theorem dX5_init_62 : decode cX5_init 62 = .ok (.aload_n 0, 1) := by decide +kernel
theorem dX5_init_63 : decode cX5_init 63 = .ok (.bipush 100, 2) := by decide +kernel
theorem dX5_init_65 : decode cX5_init 65 = .ok (.newarray .int, 2) := by decide +kernel
theorem dX5_init_67 : decode cX5_init 67 = .ok (.putfield 32, 3) := by decide +kernel
theorem dX5_init_70 : decode cX5_init 70 = .ok (.aload_n 0, 1) := by decide +kernel
theorem dX5_init_71 : decode cX5_init 71 = .ok (.sipush 144, 3) := by decide +kernel
theorem dX5_init_74 : decode cX5_init 74 = .ok (.newarray .boolean, 2) := by decide +kernel
theorem dX5_init_76 : decode cX5_init 76 = .ok (.putfield 35, 3) := by decide +kernel
theorem dX5_init_79 : decode cX5_init 79 = .ok (.aload_n 0, 1) := by decide +kernel
theorem dX5_init_80 : decode cX5_init 80 = .ok (.iconst 4, 1) := by decide +kernel
theorem dX5_init_81 : decode cX5_init 81 = .ok (.newarray .int, 2) := by decide +kernel
theorem dX5_init_83 : decode cX5_init 83 = .ok (.putfield 38, 3) := by decide +kernel
theorem dX5_init_86 : decode cX5_init 86 = .ok (.aload_n 0, 1) := by decide +kernel
theorem dX5_init_87 : decode cX5_init 87 = .ok (.iconst 4, 1) := by decide +kernel
theorem dX5_init_88 : decode cX5_init 88 = .ok (.newarray .int, 2) := by decide +kernel
theorem dX5_init_90 : decode cX5_init 90 = .ok (.putfield 41, 3) := by decide +kernel
theorem dX5_init_93 : decode cX5_init 93 = .ok (.aload_n 0, 1) := by decide +kernel
theorem dX5_init_94 : decode cX5_init 94 = .ok (.sipush 800, 3) := by decide +kernel
theorem dX5_init_97 : decode cX5_init 97 = .ok (.newarray .int, 2) := by decide +kernel
theorem dX5_init_99 : decode cX5_init 99 = .ok (.putfield 44, 3) := by decide +kernel
theorem dX5_init_102 : decode cX5_init 102 = .ok (.aload_n 0, 1) := by decide +kernel
theorem dX5_init_103 : decode cX5_init 103 = .ok (.sipush 144, 3) := by decide +kernel
theorem dX5_init_106 : decode cX5_init 106 = .ok (.newarray .int, 2) := by decide +kernel
theorem dX5_init_108 : decode cX5_init 108 = .ok (.putfield 47, 3) := by decide +kernel
theorem dX5_init_111 : decode cX5_init 111 = .ok (.aload_n 0, 1) := by decide +kernel
theorem dX5_init_112 : decode cX5_init 112 = .ok (.iconst 0, 1) := by decide +kernel
theorem dX5_init_113 : decode cX5_init 113 = .ok (.bipush 116, 2) := by decide +kernel
theorem dX5_init_115 : decode cX5_init 115 = .ok (.bipush 104, 2) := by decide +kernel
theorem dX5_init_117 : decode cX5_init 117 = .ok (.bipush 101, 2) := by decide +kernel
theorem dX5_init_119 : decode cX5_init 119 = .ok (.iconst 0, 1) := by decide +kernel
theorem dX5_init_120 : decode cX5_init 120 = .ok (.iconst 0, 1) := by decide +kernel
theorem dX5_init_121 : decode cX5_init 121 = .ok (.iconst 0, 1) := by decide +kernel
theorem dX5_init_122 : decode cX5_init 122 = .ok (.iconst 0, 1) := by decide +kernel
theorem dX5_init_123 : decode cX5_init 123 = .ok (.invokevirtual 50, 3) := by decide +kernel
theorem dX5_init_126 : decode cX5_init 126 = .ok (.aload_n 0, 1) := by decide +kernel
theorem dX5_init_127 : decode cX5_init 127 = .ok (.iconst 1, 1) := by decide +kernel
theorem dX5_init_128 : decode cX5_init 128 = .ok (.bipush 111, 2) := by decide +kernel
theorem dX5_init_130 : decode cX5_init 130 = .ok (.bipush 102, 2) := by decide +kernel
theorem dX5_init_132 : decode cX5_init 132 = .ok (.iconst 0, 1) := by decide +kernel
theorem dX5_init_133 : decode cX5_init 133 = .ok (.iconst 0, 1) := by decide +kernel
theorem dX5_init_134 : decode cX5_init 134 = .ok (.iconst 0, 1) := by decide +kernel
theorem dX5_init_135 : decode cX5_init 135 = .ok (.iconst 0, 1) := by decide +kernel
theorem dX5_init_136 : decode cX5_init 136 = .ok (.iconst 0, 1) := by decide +kernel
theorem dX5_init_137 : decode cX5_init 137 = .ok (.invokevirtual 50, 3) := by decide +kernel
theorem dX5_init_140 : decode cX5_init 140 = .ok (.aload_n 0, 1) := by decide +kernel
theorem dX5_init_141 : decode cX5_init 141 = .ok (.iconst 2, 1) := by decide +kernel
theorem dX5_init_142 : decode cX5_init 142 = .ok (.bipush 111, 2) := by decide +kernel
theorem dX5_init_144 : decode cX5_init 144 = .ok (.bipush 110, 2) := by decide +kernel
theorem dX5_init_146 : decode cX5_init 146 = .ok (.iconst 0, 1) := by decide +kernel
theorem dX5_init_147 : decode cX5_init 147 = .ok (.iconst 0, 1) := by decide +kernel
theorem dX5_init_148 : decode cX5_init 148 = .ok (.iconst 0, 1) := by decide +kernel
theorem dX5_init_149 : decode cX5_init 149 = .ok (.iconst 0, 1) := by decide +kernel
theorem dX5_init_150 : decode cX5_init 150 = .ok (.iconst 0, 1) := by decide +kernel
theorem dX5_init_151 : decode cX5_init 151 = .ok (.invokevirtual 50, 3) := by decide +kernel
theorem dX5_init_154 : decode cX5_init 154 = .ok (.aload_n 0, 1) := by decide +kernel
theorem dX5_init_155 : decode cX5_init 155 = .ok (.iconst 3, 1) := by decide +kernel
theorem dX5_init_156 : decode cX5_init 156 = .ok (.bipush 117, 2) := by decide +kernel
theorem dX5_init_158 : decode cX5_init 158 = .ok (.bipush 112, 2) := by decide +kernel
theorem dX5_init_160 : decode cX5_init 160 = .ok (.bipush 111, 2) := by decide +kernel
theorem dX5_init_162 : decode cX5_init 162 = .ok (.bipush 110, 2) := by decide +kernel
theorem dX5_init_164 : decode cX5_init 164 = .ok (.iconst 0, 1) := by decide +kernel
theorem dX5_init_165 : decode cX5_init 165 = .ok (.iconst 0, 1) := by decide +kernel
theorem dX5_init_166 : decode cX5_init 166 = .ok (.iconst 0, 1) := by decide +kernel
theorem dX5_init_167 : decode cX5_init 167 = .ok (.invokevirtual 50, 3) := by decide +kernel
theorem dX5_init_170 : decode cX5_init 170 = .ok (.aload_n 0, 1) := by decide +kernel
theorem dX5_init_171 : decode cX5_init 171 = .ok (.iconst 4, 1) := by decide +kernel
theorem dX5_init_172 : decode cX5_init 172 = .ok (.bipush 111, 2) := by decide +kernel
theorem dX5_init_174 : decode cX5_init 174 = .ok (.bipush 108, 2) := by decide +kernel
theorem dX5_init_176 : decode cX5_init 176 = .ok (.bipush 100, 2) := by decide +kernel
theorem dX5_init_178 : decode cX5_init 178 = .ok (.iconst 0, 1) := by decide +kernel
theorem dX5_init_179 : decode cX5_init 179 = .ok (.iconst 0, 1) := by decide +kernel
theorem dX5_init_180 : decode cX5_init 180 = .ok (.iconst 0, 1) := by decide +kernel
theorem dX5_init_181 : decode cX5_init 181 = .ok (.iconst 0, 1) := by decide +kernel
theorem dX5_init_182 : decode cX5_init 182 = .ok (.invokevirtual 50, 3) := by decide +kernel
theorem dX5_init_185 : decode cX5_init 185 = .ok (.aload_n 0, 1) := by decide +kernel
theorem dX5_init_186 : decode cX5_init 186 = .ok (.iconst 5, 1) := by decide +kernel
theorem dX5_init_187 : decode cX5_init 187 = .ok (.bipush 110, 2) := by decide +kernel
theorem dX5_init_189 : decode cX5_init 189 = .ok (.bipush 101, 2) := by decide +kernel
theorem dX5_init_191 : decode cX5_init 191 = .ok (.bipush 119, 2) := by decide +kernel
theorem dX5_init_193 : decode cX5_init 193 = .ok (.iconst 0, 1) := by decide +kernel
theorem dX5_init_194 : decode cX5_init 194 = .ok (.iconst 0, 1) := by decide +kernel
theorem dX5_init_195 : decode cX5_init 195 = .ok (.iconst 0, 1) := by decide +kernel
theorem dX5_init_196 : decode cX5_init 196 = .ok (.iconst 0, 1) := by decide +kernel
theorem dX5_init_197 : decode cX5_init 197 = .ok (.invokevirtual 50, 3) := by decide +kernel
theorem dX5_init_200 : decode cX5_init 200 = .ok (.aload_n 0, 1) := by decide +kernel
theorem dX5_init_201 : decode cX5_init 201 = .ok (.bipush 6, 2) := by decide +kernel
theorem dX5_init_203 : decode cX5_init 203 = .ok (.bipush 117, 2) := by decide +kernel
theorem dX5_init_205 : decode cX5_init 205 = .ok (.bipush 112, 2) := by decide +kernel
theorem dX5_init_207 : decode cX5_init 207 = .ok (.bipush 112, 2) := by decide +kernel
theorem dX5_init_209 : decode cX5_init 209 = .ok (.bipush 101, 2) := by decide +kernel
theorem dX5_init_211 : decode cX5_init 211 = .ok (.bipush 114, 2) := by decide +kernel
theorem dX5_init_213 : decode cX5_init 213 = .ok (.iconst 0, 1) := by decide +kernel
theorem dX5_init_214 : decode cX5_init 214 = .ok (.iconst 0, 1) := by decide +kernel
theorem dX5_init_215 : decode cX5_init 215 = .ok (.invokevirtual 50, 3) := by decide +kernel
theorem dX5_init_218 : decode cX5_init 218 = .ok (.aload_n 0, 1) := by decide +kernel
theorem dX5_init_219 : decode cX5_init 219 = .ok (.bipush 7, 2) := by decide +kernel
theorem dX5_init_221 : decode cX5_init 221 = .ok (.bipush 108, 2) := by decide +kernel
theorem dX5_init_223 : decode cX5_init 223 = .ok (.bipush 111, 2) := by decide +kernel
theorem dX5_init_225 : decode cX5_init 225 = .ok (.bipush 119, 2) := by decide +kernel
theorem dX5_init_227 : decode cX5_init 227 = .ok (.bipush 101, 2) := by decide +kernel
theorem dX5_init_229 : decode cX5_init 229 = .ok (.bipush 114, 2) := by decide +kernel
theorem dX5_init_231 : decode cX5_init 231 = .ok (.iconst 0, 1) := by decide +kernel
theorem dX5_init_232 : decode cX5_init 232 = .ok (.iconst 0, 1) := by decide +kernel
theorem dX5_init_233 : decode cX5_init 233 = .ok (.invokevirtual 50, 3) := by decide +kernel
theorem dX5_init_236 : decode cX5_init 236 = .ok (.aload_n 0, 1) := by decide +kernel
theorem dX5_init_237 : decode cX5_init 237 = .ok (.bipush 8, 2) := by decide +kernel
theorem dX5_init_239 : decode cX5_init 239 = .ok (.bipush 103, 2) := by decide +kernel
theorem dX5_init_241 : decode cX5_init 241 = .ok (.bipush 114, 2) := by decide +kernel
theorem dX5_init_243 : decode cX5_init 243 = .ok (.bipush 101, 2) := by decide +kernel
theorem dX5_init_245 : decode cX5_init 245 = .ok (.bipush 97, 2) := by decide +kernel
theorem dX5_init_247 : decode cX5_init 247 = .ok (.bipush 116, 2) := by decide +kernel
theorem dX5_init_249 : decode cX5_init 249 = .ok (.iconst 0, 1) := by decide +kernel
theorem dX5_init_250 : decode cX5_init 250 = .ok (.iconst 0, 1) := by decide +kernel
theorem dX5_init_251 : decode cX5_init 251 = .ok (.invokevirtual 50, 3) := by decide +kernel
theorem dX5_init_254 : decode cX5_init 254 = .ok (.aload_n 0, 1) := by decide +kernel
theorem dX5_init_255 : decode cX5_init 255 = .ok (.bipush 9, 2) := by decide +kernel
theorem dX5_init_257 : decode cX5_init 257 = .ok (.bipush 108, 2) := by decide +kernel
theorem dX5_init_259 : decode cX5_init 259 = .ok (.bipush 105, 2) := by decide +kernel
theorem dX5_init_261 : decode cX5_init 261 = .ok (.bipush 116, 2) := by decide +kernel
theorem dX5_init_263 : decode cX5_init 263 = .ok (.bipush 116, 2) := by decide +kernel
theorem dX5_init_265 : decode cX5_init 265 = .ok (.bipush 108, 2) := by decide +kernel
theorem dX5_init_267 : decode cX5_init 267 = .ok (.bipush 101, 2) := by decide +kernel
theorem dX5_init_269 : decode cX5_init 269 = .ok (.iconst 0, 1) := by decide +kernel
theorem dX5_init_270 : decode cX5_init 270 = .ok (.invokevirtual 50, 3) := by decide +kernel
theorem dX5_init_273 : decode cX5_init 273 = .ok (.aload_n 0, 1) := by decide +kernel
theorem dX5_init_274 : decode cX5_init 274 = .ok (.bipush 10, 2) := by decide +kernel
theorem dX5_init_276 : decode cX5_init 276 = .ok (.bipush 115, 2) := by decide +kernel
theorem dX5_init_278 : decode cX5_init 278 = .ok (.bipush 97, 2) := by decide +kernel
theorem dX5_init_280 : decode cX5_init 280 = .ok (.bipush 105, 2) := by decide +kernel
theorem dX5_init_282 : decode cX5_init 282 = .ok (.bipush 110, 2) := by decide +kernel
theorem dX5_init_284 : decode cX5_init 284 = .ok (.bipush 116, 2) := by decide +kernel
theorem dX5_init_286 : decode cX5_init 286 = .ok (.iconst 0, 1) := by decide +kernel
theorem dX5_init_287 : decode cX5_init 287 = .ok (.iconst 0, 1) := by decide +kernel
theorem dX5_init_288 : decode cX5_init 288 = .ok (.invokevirtual 50, 3) := by decide +kernel
theorem dX5_init_291 : decode cX5_init 291 = .ok (.aload_n 0, 1) := by decide +kernel
theorem dX5_init_292 : decode cX5_init 292 = .ok (.bipush 11, 2) := by decide +kernel
theorem dX5_init_294 : decode cX5_init 294 = .ok (.bipush 107, 2) := by decide +kernel
theorem dX5_init_296 : decode cX5_init 296 = .ok (.bipush 105, 2) := by decide +kernel
theorem dX5_init_298 : decode cX5_init 298 = .ok (.bipush 110, 2) := by decide +kernel
theorem dX5_init_300 : decode cX5_init 300 = .ok (.bipush 103, 2) := by decide +kernel
theorem dX5_init_302 : decode cX5_init 302 = .ok (.iconst 0, 1) := by decide +kernel
theorem dX5_init_303 : decode cX5_init 303 = .ok (.iconst 0, 1) := by decide +kernel
theorem dX5_init_304 : decode cX5_init 304 = .ok (.iconst 0, 1) := by decide +kernel
theorem dX5_init_305 : decode cX5_init 305 = .ok (.invokevirtual 50, 3) := by decide +kernel
theorem dX5_init_308 : decode cX5_init 308 = .ok (.aload_n 0, 1) := by decide +kernel
theorem dX5_init_309 : decode cX5_init 309 = .ok (.bipush 12, 2) := by decide +kernel
theorem dX5_init_311 : decode cX5_init 311 = .ok (.bipush 109, 2) := by decide +kernel
theorem dX5_init_313 : decode cX5_init 313 = .ok (.bipush 105, 2) := by decide +kernel
theorem dX5_init_315 : decode cX5_init 315 = .ok (.bipush 108, 2) := by decide +kernel
theorem dX5_init_317 : decode cX5_init 317 = .ok (.bipush 108, 2) := by decide +kernel
theorem dX5_init_319 : decode cX5_init 319 = .ok (.iconst 0, 1) := by decide +kernel
theorem dX5_init_320 : decode cX5_init 320 = .ok (.iconst 0, 1) := by decide +kernel
theorem dX5_init_321 : decode cX5_init 321 = .ok (.iconst 0, 1) := by decide +kernel
theorem dX5_init_322 : decode cX5_init 322 = .ok (.invokevirtual 50, 3) := by decide +kernel
theorem dX5_init_325 : decode cX5_init 325 = .ok (.aload_n 0, 1) := by decide +kernel
theorem dX5_init_326 : decode cX5_init 326 = .ok (.bipush 13, 2) := by decide +kernel
theorem dX5_init_328 : decode cX5_init 328 = .ok (.bipush 111, 2) := by decide +kernel
theorem dX5_init_330 : decode cX5_init 330 = .ok (.bipush 97, 2) := by decide +kernel
theorem dX5_init_332 : decode cX5_init 332 = .ok (.bipush 107, 2) := by decide +kernel
theorem dX5_init_334 : decode cX5_init 334 = .ok (.iconst 0, 1) := by decide +kernel
theorem dX5_init_335 : decode cX5_init 335 = .ok (.iconst 0, 1) := by decide +kernel
theorem dX5_init_336 : decode cX5_init 336 = .ok (.iconst 0, 1) := by decide +kernel
theorem dX5_init_337 : decode cX5_init 337 = .ok (.iconst 0, 1) := by decide +kernel
theorem dX5_init_338 : decode cX5_init 338 = .ok (.invokevirtual 50, 3) := by decide +kernel
theorem dX5_init_341 : decode cX5_init 341 = .ok (.aload_n 0, 1) := by decide +kernel
theorem dX5_init_342 : decode cX5_init 342 = .ok (.bipush 14, 2) := by decide +kernel
theorem dX5_init_344 : decode cX5_init 344 = .ok (.bipush 101, 2) := by decide +kernel
theorem dX5_init_346 : decode cX5_init 346 = .ok (.bipush 108, 2) := by decide +kernel
theorem dX5_init_348 : decode cX5_init 348 = .ok (.bipush 109, 2) := by decide +kernel
theorem dX5_init_350 : decode cX5_init 350 = .ok (.iconst 0, 1) := by decide +kernel
theorem dX5_init_351 : decode cX5_init 351 = .ok (.iconst 0, 1) := by decide +kernel
theorem dX5_init_352 : decode cX5_init 352 = .ok (.iconst 0, 1) := by decide +kernel
theorem dX5_init_353 : decode cX5_init 353 = .ok (.iconst 0, 1) := by decide +kernel
theorem dX5_init_354 : decode cX5_init 354 = .ok (.invokevirtual 50, 3) := by decide +kernel
theorem dX5_init_357 : decode cX5_init 357 = .ok (.aload_n 0, 1) := by decide +kernel
theorem dX5_init_358 : decode cX5_init 358 = .ok (.bipush 15, 2) := by decide +kernel
theorem dX5_init_360 : decode cX5_init 360 = .ok (.bipush 98, 2) := by decide +kernel
theorem dX5_init_362 : decode cX5_init 362 = .ok (.bipush 114, 2) := by decide +kernel
theorem dX5_init_364 : decode cX5_init 364 = .ok (.bipush 105, 2) := by decide +kernel
theorem dX5_init_366 : decode cX5_init 366 = .ok (.bipush 100, 2) := by decide +kernel
theorem dX5_init_368 : decode cX5_init 368 = .ok (.bipush 103, 2) := by decide +kernel
theorem dX5_init_370 : decode cX5_init 370 = .ok (.bipush 101, 2) := by decide +kernel
theorem dX5_init_372 : decode cX5_init 372 = .ok (.iconst 0, 1) := by decide +kernel
theorem dX5_init_373 : decode cX5_init 373 = .ok (.invokevirtual 50, 3) := by decide +kernel
theorem dX5_init_376 : decode cX5_init 376 = .ok (.aload_n 0, 1) := by decide +kernel
theorem dX5_init_377 : decode cX5_init 377 = .ok (.bipush 16, 2) := by decide +kernel
theorem dX5_init_379 : decode cX5_init 379 = .ok (.bipush 109, 2) := by decide +kernel
theorem dX5_init_381 : decode cX5_init 381 = .ok (.bipush 97, 2) := by decide +kernel
theorem dX5_init_383 : decode cX5_init 383 = .ok (.bipush 114, 2) := by decide +kernel
theorem dX5_init_385 : decode cX5_init 385 = .ok (.bipush 107, 2) := by decide +kernel
theorem dX5_init_387 : decode cX5_init 387 = .ok (.bipush 101, 2) := by decide +kernel
theorem dX5_init_389 : decode cX5_init 389 = .ok (.bipush 116, 2) := by decide +kernel
theorem dX5_init_391 : decode cX5_init 391 = .ok (.iconst 0, 1) := by decide +kernel
theorem dX5_init_392 : decode cX5_init 392 = .ok (.invokevirtual 50, 3) := by decide +kernel
theorem dX5_init_395 : decode cX5_init 395 = .ok (.aload_n 0, 1) := by decide +kernel
theorem dX5_init_396 : decode cX5_init 396 = .ok (.bipush 17, 2) := by decide +kernel
theorem dX5_init_398 : decode cX5_init 398 = .ok (.bipush 99, 2) := by decide +kernel
theorem dX5_init_400 : decode cX5_init 400 = .ok (.bipush 104, 2) := by decide +kernel
theorem dX5_init_402 : decode cX5_init 402 = .ok (.bipush 117, 2) := by decide +kernel
theorem dX5_init_404 : decode cX5_init 404 = .ok (.bipush 114, 2) := by decide +kernel
theorem dX5_init_406 : decode cX5_init 406 = .ok (.bipush 99, 2) := by decide +kernel
theorem dX5_init_408 : decode cX5_init 408 = .ok (.bipush 104, 2) := by decide +kernel
theorem dX5_init_410 : decode cX5_init 410 = .ok (.iconst 0, 1) := by decide +kernel
theorem dX5_init_411 : decode cX5_init 411 = .ok (.invokevirtual 50, 3) := by decide +kernel
theorem dX5_init_414 : decode cX5_init 414 = .ok (.aload_n 0, 1) := by decide +kernel
theorem dX5_init_415 : decode cX5_init 415 = .ok (.bipush 18, 2) := by decide +kernel
theorem dX5_init_417 : decode cX5_init 417 = .ok (.bipush 115, 2) := by decide +kernel
theorem dX5_init_419 : decode cX5_init 419 = .ok (.bipush 116, 2) := by decide +kernel
theorem dX5_init_421 : decode cX5_init 421 = .ok (.bipush 97, 2) := by decide +kernel
theorem dX5_init_423 : decode cX5_init 423 = .ok (.bipush 116, 2) := by decide +kernel
theorem dX5_init_425 : decode cX5_init 425 = .ok (.bipush 105, 2) := by decide +kernel
theorem dX5_init_427 : decode cX5_init 427 = .ok (.bipush 111, 2) := by decide +kernel
theorem dX5_init_429 : decode cX5_init 429 = .ok (.bipush 110, 2) := by decide +kernel
theorem dX5_init_431 : decode cX5_init 431 = .ok (.invokevirtual 50, 3) := by decide +kernel
theorem dX5_init_434 : decode cX5_init 434 = .ok (.aload_n 0, 1) := by decide +kernel
theorem dX5_init_435 : decode cX5_init 435 = .ok (.bipush 19, 2) := by decide +kernel
theorem dX5_init_437 : decode cX5_init 437 = .ok (.bipush 115, 2) := by decide +kernel
theorem dX5_init_439 : decode cX5_init 439 = .ok (.bipush 116, 2) := by decide +kernel
theorem dX5_init_441 : decode cX5_init 441 = .ok (.bipush 114, 2) := by decide +kernel
theorem dX5_init_443 : decode cX5_init 443 = .ok (.bipush 101, 2) := by decide +kernel
theorem dX5_init_445 : decode cX5_init 445 = .ok (.bipush 101, 2) := by decide +kernel
theorem dX5_init_447 : decode cX5_init 447 = .ok (.bipush 116, 2) := by decide +kernel
theorem dX5_init_449 : decode cX5_init 449 = .ok (.iconst 0, 1) := by decide +kernel
theorem dX5_init_450 : decode cX5_init 450 = .ok (.invokevirtual 50, 3) := by decide +kernel
theorem dX5_init_453 : decode cX5_init 453 = .ok (.aload_n 0, 1) := by decide +kernel
theorem dX5_init_454 : decode cX5_init 454 = .ok (.bipush 20, 2) := by decide +kernel
theorem dX5_init_456 : decode cX5_init 456 = .ok (.bipush 108, 2) := by decide +kernel
theorem dX5_init_458 : decode cX5_init 458 = .ok (.bipush 97, 2) := by decide +kernel
theorem dX5_init_460 : decode cX5_init 460 = .ok (.bipush 110, 2) := by decide +kernel
theorem dX5_init_462 : decode cX5_init 462 = .ok (.bipush 101, 2) := by decide +kernel
theorem dX5_init_464 : decode cX5_init 464 = .ok (.iconst 0, 1) := by decide +kernel
theorem dX5_init_465 : decode cX5_init 465 = .ok (.iconst 0, 1) := by decide +kernel
theorem dX5_init_466 : decode cX5_init 466 = .ok (.iconst 0, 1) := by decide +kernel
theorem dX5_init_467 : decode cX5_init 467 = .ok (.invokevirtual 50, 3) := by decide +kernel
theorem dX5_init_470 : decode cX5_init 470 = .ok (.aload_n 0, 1) := by decide +kernel
theorem dX5_init_471 : decode cX5_init 471 = .ok (.bipush 21, 2) := by decide +kernel
theorem dX5_init_473 : decode cX5_init 473 = .ok (.bipush 114, 2) := by decide +kernel
theorem dX5_init_475 : decode cX5_init 475 = .ok (.bipush 111, 2) := by decide +kernel
theorem dX5_init_477 : decode cX5_init 477 = .ok (.bipush 97, 2) := by decide +kernel
theorem dX5_init_479 : decode cX5_init 479 = .ok (.bipush 100, 2) := by decide +kernel
theorem dX5_init_481 : decode cX5_init 481 = .ok (.iconst 0, 1) := by decide +kernel
theorem dX5_init_482 : decode cX5_init 482 = .ok (.iconst 0, 1) := by decide +kernel
theorem dX5_init_483 : decode cX5_init 483 = .ok (.iconst 0, 1) := by decide +kernel
theorem dX5_init_484 : decode cX5_init 484 = .ok (.invokevirtual 50, 3) := by decide +kernel
theorem dX5_init_487 : decode cX5_init 487 = .ok (.aload_n 0, 1) := by decide +kernel
theorem dX5_init_488 : decode cX5_init 488 = .ok (.bipush 22, 2) := by decide +kernel
theorem dX5_init_490 : decode cX5_init 490 = .ok (.bipush 114, 2) := by decide +kernel
theorem dX5_init_492 : decode cX5_init 492 = .ok (.bipush 111, 2) := by decide +kernel
theorem dX5_init_494 : decode cX5_init 494 = .ok (.bipush 119, 2) := by decide +kernel
theorem dX5_init_496 : decode cX5_init 496 = .ok (.iconst 0, 1) := by decide +kernel
theorem dX5_init_497 : decode cX5_init 497 = .ok (.iconst 0, 1) := by decide +kernel
theorem dX5_init_498 : decode cX5_init 498 = .ok (.iconst 0, 1) := by decide +kernel
theorem dX5_init_499 : decode cX5_init 499 = .ok (.iconst 0, 1) := by decide +kernel
theorem dX5_init_500 : decode cX5_init 500 = .ok (.invokevirtual 50, 3) := by decide +kernel
theorem dX5_init_503 : decode cX5_init 503 = .ok (.aload_n 0, 1) := by decide +kernel
theorem dX5_init_504 : decode cX5_init 504 = .ok (.bipush 23, 2) := by decide +kernel
theorem dX5_init_506 : decode cX5_init 506 = .ok (.bipush 104, 2) := by decide +kernel
theorem dX5_init_508 : decode cX5_init 508 = .ok (.bipush 105, 2) := by decide +kernel
theorem dX5_init_510 : decode cX5_init 510 = .ok (.bipush 108, 2) := by decide +kernel
theorem dX5_init_512 : decode cX5_init 512 = .ok (.bipush 108, 2) := by decide +kernel
theorem dX5_init_514 : decode cX5_init 514 = .ok (.iconst 0, 1) := by decide +kernel
theorem dX5_init_515 : decode cX5_init 515 = .ok (.iconst 0, 1) := by decide +kernel
theorem dX5_init_516 : decode cX5_init 516 = .ok (.iconst 0, 1) := by decide +kernel
theorem dX5_init_517 : decode cX5_init 517 = .ok (.invokevirtual 50, 3) := by decide +kernel
theorem dX5_init_520 : decode cX5_init 520 = .ok (.iconst 0, 1) := by decide +kernel
theorem dX5_init_521 : decode cX5_init 521 = .ok (.istore_n 1, 1) := by decide +kernel
theorem dX5_init_522 : decode cX5_init 522 = .ok (.iload_n 1, 1) := by decide +kernel
theorem dX5_init_523 : decode cX5_init 523 = .ok (.iconst 4, 1) := by decide +kernel
theorem dX5_init_524 : decode cX5_init 524 = .ok (.if_icmp .ge 16, 3) := by decide +kernel
theorem dX5_init_527 : decode cX5_init 527 = .ok (.aload_n 0, 1) := by decide +kernel
theorem dX5_init_528 : decode cX5_init 528 = .ok (.getfield 13, 3) := by decide +kernel
theorem dX5_init_531 : decode cX5_init 531 = .ok (.iload_n 1, 1) := by decide +kernel
theorem dX5_init_532 : decode cX5_init 532 = .ok (.iconst 1, 1) := by decide +kernel
theorem dX5_init_533 : decode cX5_init 533 = .ok (.iastore, 1) := by decide +kernel
theorem dX5_init_534 : decode cX5_init 534 = .ok (.iinc 1 1, 3) := by decide +kernel
theorem dX5_init_537 : decode cX5_init 537 = .ok (.goto (-15), 3) := by decide +kernel
theorem dX5_init_540 : decode cX5_init 540 = .ok (.return_, 1) := by decide +kernel
theorem dX5_spell_0 : decode cX5_spell 0 = .ok (.aload_n 0, 1) := by decide +kernel
theorem dX5_spell_1 : decode cX5_spell 1 = .ok (.getfield 7, 3) := by decide +kernel
theorem dX5_spell_4 : decode cX5_spell 4 = .ok (.bipush 8, 2) := by decide +kernel
theorem dX5_spell_6 : decode cX5_spell 6 = .ok (.iload_n 1, 1) := by decide +kernel
theorem dX5_spell_7 : decode cX5_spell 7 = .ok (.imul, 1) := by decide +kernel
theorem dX5_spell_8 : decode cX5_spell 8 = .ok (.iload_n 2, 1) := by decide +kernel
theorem dX5_spell_9 : decode cX5_spell 9 = .ok (.iastore, 1) := by decide +kernel
theorem dX5_spell_10 : decode cX5_spell 10 = .ok (.aload_n 0, 1) := by decide +kernel
theorem dX5_spell_11 : decode cX5_spell 11 = .ok (.getfield 7, 3) := by decide +kernel
theorem dX5_spell_14 : decode cX5_spell 14 = .ok (.bipush 8, 2) := by decide +kernel
theorem dX5_spell_16 : decode cX5_spell 16 = .ok (.iload_n 1, 1) := by decide +kernel
theorem dX5_spell_17 : decode cX5_spell 17 = .ok (.imul, 1) := by decide +kernel
theorem dX5_spell_18 : decode cX5_spell 18 = .ok (.iconst 1, 1) := by decide +kernel
theorem dX5_spell_19 : decode cX5_spell 19 = .ok (.iadd, 1) := by decide +kernel
theorem dX5_spell_20 : decode cX5_spell 20 = .ok (.iload_n 3, 1) := by decide +kernel
theorem dX5_spell_21 : decode cX5_spell 21 = .ok (.iastore, 1) := by decide +kernel
theorem dX5_spell_22 : decode cX5_spell 22 = .ok (.aload_n 0, 1) := by decide +kernel
theorem dX5_spell_23 : decode cX5_spell 23 = .ok (.getfield 7, 3) := by decide +kernel
theorem dX5_spell_26 : decode cX5_spell 26 = .ok (.bipush 8, 2) := by decide +kernel
theorem dX5_spell_28 : decode cX5_spell 28 = .ok (.iload_n 1, 1) := by decide +kernel
theorem dX5_spell_29 : decode cX5_spell 29 = .ok (.imul, 1) := by decide +kernel
theorem dX5_spell_30 : decode cX5_spell 30 = .ok (.iconst 2, 1) := by decide +kernel
theorem dX5_spell_31 : decode cX5_spell 31 = .ok (.iadd, 1) := by decide +kernel
theorem dX5_spell_32 : decode cX5_spell 32 = .ok (.iload 4, 2) := by decide +kernel
theorem dX5_spell_34 : decode cX5_spell 34 = .ok (.iastore, 1) := by decide +kernel
theorem dX5_spell_35 : decode cX5_spell 35 = .ok (.aload_n 0, 1) := by decide +kernel
theorem dX5_spell_36 : decode cX5_spell 36 = .ok (.getfield 7, 3) := by decide +kernel
theorem dX5_spell_39 : decode cX5_spell 39 = .ok (.bipush 8, 2) := by decide +kernel
theorem dX5_spell_41 : decode cX5_spell 41 = .ok (.iload_n 1, 1) := by decide +kernel
theorem dX5_spell_42 : decode cX5_spell 42 = .ok (.imul, 1) := by decide +kernel
theorem dX5_spell_43 : decode cX5_spell 43 = .ok (.iconst 3, 1) := by decide +kernel
theorem dX5_spell_44 : decode cX5_spell 44 = .ok (.iadd, 1) := by decide +kernel
theorem dX5_spell_45 : decode cX5_spell 45 = .ok (.iload 5, 2) := by decide +kernel
theorem dX5_spell_47 : decode cX5_spell 47 = .ok (.iastore, 1) := by decide +kernel
theorem dX5_spell_48 : decode cX5_spell 48 = .ok (.aload_n 0, 1) := by decide +kernel
theorem dX5_spell_49 : decode cX5_spell 49 = .ok (.getfield 7, 3) := by decide +kernel
theorem dX5_spell_52 : decode cX5_spell 52 = .ok (.bipush 8, 2) := by decide +kernel
theorem dX5_spell_54 : decode cX5_spell 54 = .ok (.iload_n 1, 1) := by decide +kernel
theorem dX5_spell_55 : decode cX5_spell 55 = .ok (.imul, 1) := by decide +kernel
theorem dX5_spell_56 : decode cX5_spell 56 = .ok (.iconst 4, 1) := by decide +kernel
theorem dX5_spell_57 : decode cX5_spell 57 = .ok (.iadd, 1) := by decide +kernel
theorem dX5_spell_58 : decode cX5_spell 58 = .ok (.iload 6, 2) := by decide +kernel
theorem dX5_spell_60 : decode cX5_spell 60 = .ok (.iastore, 1) := by decide +kernel
theorem dX5_spell_61 : decode cX5_spell 61 = .ok (.aload_n 0, 1) := by decide +kernel
theorem dX5_spell_62 : decode cX5_spell 62 = .ok (.getfield 7, 3) := by decide +kernel
theorem dX5_spell_65 : decode cX5_spell 65 = .ok (.bipush 8, 2) := by decide +kernel
theorem dX5_spell_67 : decode cX5_spell 67 = .ok (.iload_n 1, 1) := by decide +kernel
theorem dX5_spell_68 : decode cX5_spell 68 = .ok (.imul, 1) := by decide +kernel
theorem dX5_spell_69 : decode cX5_spell 69 = .ok (.iconst 5, 1) := by decide +kernel
theorem dX5_spell_70 : decode cX5_spell 70 = .ok (.iadd, 1) := by decide +kernel
theorem dX5_spell_71 : decode cX5_spell 71 = .ok (.iload 7, 2) := by decide +kernel
theorem dX5_spell_73 : decode cX5_spell 73 = .ok (.iastore, 1) := by decide +kernel
theorem dX5_spell_74 : decode cX5_spell 74 = .ok (.aload_n 0, 1) := by decide +kernel
theorem dX5_spell_75 : decode cX5_spell 75 = .ok (.getfield 7, 3) := by decide +kernel
theorem dX5_spell_78 : decode cX5_spell 78 = .ok (.bipush 8, 2) := by decide +kernel
theorem dX5_spell_80 : decode cX5_spell 80 = .ok (.iload_n 1, 1) := by decide +kernel
theorem dX5_spell_81 : decode cX5_spell 81 = .ok (.imul, 1) := by decide +kernel
theorem dX5_spell_82 : decode cX5_spell 82 = .ok (.bipush 6, 2) := by decide +kernel
theorem dX5_spell_84 : decode cX5_spell 84 = .ok (.iadd, 1) := by decide +kernel
theorem dX5_spell_85 : decode cX5_spell 85 = .ok (.iload 8, 2) := by decide +kernel
theorem dX5_spell_87 : decode cX5_spell 87 = .ok (.iastore, 1) := by decide +kernel
theorem dX5_spell_88 : decode cX5_spell 88 = .ok (.return_, 1) := by decide +kernel
theorem dX5_thrown_0 : decode cX5_thrown 0 = .ok (.aload_n 0, 1) := by decide +kernel
theorem dX5_thrown_1 : decode cX5_thrown 1 = .ok (.getfield 54, 3) := by decide +kernel
theorem dX5_thrown_4 : decode cX5_thrown 4 = .ok (.ireturn, 1) := by decide +kernel
theorem dX5_in_0 : decode cX5_in 0 = .ok (.iload_n 0, 1) := by decide +kernel
theorem dX5_in_1 : decode cX5_in 1 = .ok (.iload_n 1, 1) := by decide +kernel
theorem dX5_in_2 : decode cX5_in 2 = .ok (.if_icmp .lt 12, 3) := by decide +kernel
theorem dX5_in_5 : decode cX5_in 5 = .ok (.iload_n 0, 1) := by decide +kernel
theorem dX5_in_6 : decode cX5_in 6 = .ok (.iload_n 2, 1) := by decide +kernel
theorem dX5_in_7 : decode cX5_in 7 = .ok (.if_icmp .gt 7, 3) := by decide +kernel
theorem dX5_in_10 : decode cX5_in 10 = .ok (.iconst 1, 1) := by decide +kernel
theorem dX5_in_11 : decode cX5_in 11 = .ok (.goto 4, 3) := by decide +kernel
theorem dX5_in_14 : decode cX5_in 14 = .ok (.iconst 0, 1) := by decide +kernel
theorem dX5_in_15 : decode cX5_in 15 = .ok (.ireturn, 1) := by decide +kernel
theorem dX5_goes_0 : decode cX5_goes 0 = .ok (.aload_n 0, 1) := by decide +kernel
theorem dX5_goes_1 : decode cX5_goes 1 = .ok (.iload_n 1, 1) := by decide +kernel
theorem dX5_goes_2 : decode cX5_goes 2 = .ok (.ifCond .ne 7, 3) := by decide +kernel
theorem dX5_goes_5 : decode cX5_goes 5 = .ok (.iconst 1, 1) := by decide +kernel
theorem dX5_goes_6 : decode cX5_goes 6 = .ok (.goto 20, 3) := by decide +kernel
theorem dX5_goes_9 : decode cX5_goes 9 = .ok (.iload_n 2, 1) := by decide +kernel
theorem dX5_goes_10 : decode cX5_goes 10 = .ok (.ifCond .ne 7, 3) := by decide +kernel
theorem dX5_goes_13 : decode cX5_goes 13 = .ok (.iconst 2, 1) := by decide +kernel
theorem dX5_goes_14 : decode cX5_goes 14 = .ok (.goto 12, 3) := by decide +kernel
theorem dX5_goes_17 : decode cX5_goes 17 = .ok (.iload_n 3, 1) := by decide +kernel
theorem dX5_goes_18 : decode cX5_goes 18 = .ok (.ifCond .eq 7, 3) := by decide +kernel
theorem dX5_goes_21 : decode cX5_goes 21 = .ok (.iconst 0, 1) := by decide +kernel
theorem dX5_goes_22 : decode cX5_goes 22 = .ok (.goto 4, 3) := by decide +kernel
theorem dX5_goes_25 : decode cX5_goes 25 = .ok (.iconst 3, 1) := by decide +kernel
theorem dX5_goes_26 : decode cX5_goes 26 = .ok (.putfield 54, 3) := by decide +kernel
theorem dX5_goes_29 : decode cX5_goes 29 = .ok (.aload_n 0, 1) := by decide +kernel
theorem dX5_goes_30 : decode cX5_goes 30 = .ok (.getfield 54, 3) := by decide +kernel
theorem dX5_goes_33 : decode cX5_goes 33 = .ok (.ifCond .ne 7, 3) := by decide +kernel
theorem dX5_goes_36 : decode cX5_goes 36 = .ok (.iconst 1, 1) := by decide +kernel
theorem dX5_goes_37 : decode cX5_goes 37 = .ok (.goto 4, 3) := by decide +kernel
theorem dX5_goes_40 : decode cX5_goes 40 = .ok (.iconst 0, 1) := by decide +kernel
theorem dX5_goes_41 : decode cX5_goes 41 = .ok (.ireturn, 1) := by decide +kernel
set_option maxRecDepth 20000 in
theorem ggX5_isStreet_X5_in : GoodIn wsX5_isStreet wsX5_in := goodIn_r _ [5] (by decide +kernel) (by decide +kernel)
set_option maxRecDepth 20000 in
theorem gX5_isStreet_X5_in : GoodIn wsX5_isStreet (va_wsS RX5 61 yX5_in wsX5_in) := goodIn_app (goodIn_of _ (by decide +kernel)) ggX5_isStreet_X5_in
theorem dX5_isStreet_0 : decode cX5_isStreet 0 = .ok (.iload_n 1, 1) := by decide +kernel
theorem dX5_isStreet_1 : decode cX5_isStreet 1 = .ok (.iconst 0, 1) := by decide +kernel
theorem dX5_isStreet_2 : decode cX5_isStreet 2 = .ok (.aload_n 0, 1) := by decide +kernel
theorem dX5_isStreet_3 : decode cX5_isStreet 3 = .ok (.getfield 58, 3) := by decide +kernel
theorem dX5_isStreet_6 : decode cX5_isStreet 6 = .ok (.iconst 1, 1) := by decide +kernel
theorem dX5_isStreet_7 : decode cX5_isStreet 7 = .ok (.isub, 1) := by decide +kernel
theorem dX5_isStreet_8 : decode cX5_isStreet 8 = .ok (.invokestatic 61, 3) := by decide +kernel
theorem dX5_isStreet_11 : decode cX5_isStreet 11 = .ok (.ireturn, 1) := by decide +kernel
set_option maxRecDepth 20000 in
theorem ggX5_isSquare_X5_in : GoodIn wsX5_isSquare wsX5_in := goodIn_r _ [4] (by decide +kernel) (by decide +kernel)
set_option maxRecDepth 20000 in
theorem gX5_isSquare_X5_in : GoodIn wsX5_isSquare (va_wsS RX5 61 yX5_in wsX5_in) := goodIn_app (goodIn_of _ (by decide +kernel)) ggX5_isSquare_X5_in
theorem dX5_isSquare_0 : decode cX5_isSquare 0 = .ok (.iload_n 0, 1) := by decide +kernel
theorem dX5_isSquare_1 : decode cX5_isSquare 1 = .ok (.iconst 0, 1) := by decide +kernel
theorem dX5_isSquare_2 : decode cX5_isSquare 2 = .ok (.bipush 11, 2) := by decide +kernel
theorem dX5_isSquare_4 : decode cX5_isSquare 4 = .ok (.invokestatic 61, 3) := by decide +kernel
theorem dX5_isSquare_7 : decode cX5_isSquare 7 = .ok (.ifCond .eq 17, 3) := by decide +kernel
theorem dX5_isSquare_10 : decode cX5_isSquare 10 = .ok (.iload_n 1, 1) := by decide +kernel
theorem dX5_isSquare_11 : decode cX5_isSquare 11 = .ok (.iconst 0, 1) := by decide +kernel
theorem dX5_isSquare_12 : decode cX5_isSquare 12 = .ok (.bipush 11, 2) := by decide +kernel
theorem dX5_isSquare_14 : decode cX5_isSquare 14 = .ok (.invokestatic 61, 3) := by decide +kernel
theorem dX5_isSquare_17 : decode cX5_isSquare 17 = .ok (.ifCond .eq 7, 3) := by decide +kernel
theorem dX5_isSquare_20 : decode cX5_isSquare 20 = .ok (.iconst 1, 1) := by decide +kernel
theorem dX5_isSquare_21 : decode cX5_isSquare 21 = .ok (.goto 4, 3) := by decide +kernel
theorem dX5_isSquare_24 : decode cX5_isSquare 24 = .ok (.iconst 0, 1) := by decide +kernel
theorem dX5_isSquare_25 : decode cX5_isSquare 25 = .ok (.ireturn, 1) := by decide +kernel
set_option maxRecDepth 20000 in
theorem ggX5_isName_X5_in : GoodIn wsX5_isName wsX5_in := goodIn_r _ [4] (by decide +kernel) (by decide +kernel)
set_option maxRecDepth 20000 in
theorem gX5_isName_X5_in : GoodIn wsX5_isName (va_wsS RX5 61 yX5_in wsX5_in) := goodIn_app (goodIn_of _ (by decide +kernel)) ggX5_isName_X5_in
theorem dX5_isName_0 : decode cX5_isName 0 = .ok (.iload_n 0, 1) := by decide +kernel
theorem dX5_isName_1 : decode cX5_isName 1 = .ok (.iconst 1, 1) := by decide +kernel
theorem dX5_isName_2 : decode cX5_isName 2 = .ok (.iconst 4, 1) := by decide +kernel
theorem dX5_isName_3 : decode cX5_isName 3 = .ok (.invokestatic 61, 3) := by decide +kernel
theorem dX5_isName_6 : decode cX5_isName 6 = .ok (.istore_n 2, 1) := by decide +kernel
theorem dX5_isName_7 : decode cX5_isName 7 = .ok (.iconst 0, 1) := by decide +kernel
theorem dX5_isName_8 : decode cX5_isName 8 = .ok (.istore_n 3, 1) := by decide +kernel
theorem dX5_isName_9 : decode cX5_isName 9 = .ok (.iload_n 3, 1) := by decide +kernel
theorem dX5_isName_10 : decode cX5_isName 10 = .ok (.iload_n 0, 1) := by decide +kernel
theorem dX5_isName_11 : decode cX5_isName 11 = .ok (.if_icmp .ge 34, 3) := by decide +kernel
theorem dX5_isName_14 : decode cX5_isName 14 = .ok (.iload_n 2, 1) := by decide +kernel
theorem dX5_isName_15 : decode cX5_isName 15 = .ok (.ifCond .eq 30, 3) := by decide +kernel
theorem dX5_isName_18 : decode cX5_isName 18 = .ok (.iload_n 1, 1) := by decide +kernel
theorem dX5_isName_19 : decode cX5_isName 19 = .ok (.bipush 8, 2) := by decide +kernel
theorem dX5_isName_21 : decode cX5_isName 21 = .ok (.iload_n 3, 1) := by decide +kernel
theorem dX5_isName_22 : decode cX5_isName 22 = .ok (.imul, 1) := by decide +kernel
theorem dX5_isName_23 : decode cX5_isName 23 = .ok (.ishr, 1) := by decide +kernel
theorem dX5_isName_24 : decode cX5_isName 24 = .ok (.sipush 255, 3) := by decide +kernel
theorem dX5_isName_27 : decode cX5_isName 27 = .ok (.iand, 1) := by decide +kernel
theorem dX5_isName_28 : decode cX5_isName 28 = .ok (.bipush 24, 2) := by decide +kernel
theorem dX5_isName_30 : decode cX5_isName 30 = .ok (.if_icmp .ge 7, 3) := by decide +kernel
theorem dX5_isName_33 : decode cX5_isName 33 = .ok (.iconst 1, 1) := by decide +kernel
theorem dX5_isName_34 : decode cX5_isName 34 = .ok (.goto 4, 3) := by decide +kernel
theorem dX5_isName_37 : decode cX5_isName 37 = .ok (.iconst 0, 1) := by decide +kernel
theorem dX5_isName_38 : decode cX5_isName 38 = .ok (.istore_n 2, 1) := by decide +kernel
theorem dX5_isName_39 : decode cX5_isName 39 = .ok (.iinc 3 1, 3) := by decide +kernel
theorem dX5_isName_42 : decode cX5_isName 42 = .ok (.goto (-33), 3) := by decide +kernel
theorem dX5_isName_45 : decode cX5_isName 45 = .ok (.iload_n 2, 1) := by decide +kernel
theorem dX5_isName_46 : decode cX5_isName 46 = .ok (.ireturn, 1) := by decide +kernel
theorem dX5_gives_0 : decode cX5_gives 0 = .ok (.aload_n 0, 1) := by decide +kernel
theorem dX5_gives_1 : decode cX5_gives 1 = .ok (.getfield 19, 3) := by decide +kernel
theorem dX5_gives_4 : decode cX5_gives 4 = .ok (.iload_n 1, 1) := by decide +kernel
theorem dX5_gives_5 : decode cX5_gives 5 = .ok (.iload_n 2, 1) := by decide +kernel
theorem dX5_gives_6 : decode cX5_gives 6 = .ok (.iastore, 1) := by decide +kernel
theorem dX5_gives_7 : decode cX5_gives 7 = .ok (.iconst 0, 1) := by decide +kernel
theorem dX5_gives_8 : decode cX5_gives 8 = .ok (.istore 4, 2) := by decide +kernel
theorem dX5_gives_10 : decode cX5_gives 10 = .ok (.iload 4, 2) := by decide +kernel
theorem dX5_gives_12 : decode cX5_gives 12 = .ok (.iload_n 2, 1) := by decide +kernel
theorem dX5_gives_13 : decode cX5_gives 13 = .ok (.if_icmp .ge 31, 3) := by decide +kernel
theorem dX5_gives_16 : decode cX5_gives 16 = .ok (.aload_n 0, 1) := by decide +kernel
theorem dX5_gives_17 : decode cX5_gives 17 = .ok (.getfield 16, 3) := by decide +kernel
theorem dX5_gives_20 : decode cX5_gives 20 = .ok (.iconst 4, 1) := by decide +kernel
theorem dX5_gives_21 : decode cX5_gives 21 = .ok (.iload_n 1, 1) := by decide +kernel
theorem dX5_gives_22 : decode cX5_gives 22 = .ok (.imul, 1) := by decide +kernel
theorem dX5_gives_23 : decode cX5_gives 23 = .ok (.iload 4, 2) := by decide +kernel
theorem dX5_gives_25 : decode cX5_gives 25 = .ok (.iadd, 1) := by decide +kernel
theorem dX5_gives_26 : decode cX5_gives 26 = .ok (.iload_n 3, 1) := by decide +kernel
theorem dX5_gives_27 : decode cX5_gives 27 = .ok (.bipush 8, 2) := by decide +kernel
theorem dX5_gives_29 : decode cX5_gives 29 = .ok (.iload 4, 2) := by decide +kernel
theorem dX5_gives_31 : decode cX5_gives 31 = .ok (.imul, 1) := by decide +kernel
theorem dX5_gives_32 : decode cX5_gives 32 = .ok (.ishr, 1) := by decide +kernel
theorem dX5_gives_33 : decode cX5_gives 33 = .ok (.sipush 255, 3) := by decide +kernel
theorem dX5_gives_36 : decode cX5_gives 36 = .ok (.iand, 1) := by decide +kernel
theorem dX5_gives_37 : decode cX5_gives 37 = .ok (.iastore, 1) := by decide +kernel
theorem dX5_gives_38 : decode cX5_gives 38 = .ok (.iinc 4 1, 3) := by decide +kernel
theorem dX5_gives_41 : decode cX5_gives 41 = .ok (.goto (-31), 3) := by decide +kernel
theorem dX5_gives_44 : decode cX5_gives 44 = .ok (.return_, 1) := by decide +kernel
theorem dX5_compareWords_0 : decode cX5_compareWords 0 = .ok (.iconst 0, 1) := by decide +kernel
theorem dX5_compareWords_1 : decode cX5_compareWords 1 = .ok (.istore_n 3, 1) := by decide +kernel
theorem dX5_compareWords_2 : decode cX5_compareWords 2 = .ok (.iconst 0, 1) := by decide +kernel
theorem dX5_compareWords_3 : decode cX5_compareWords 3 = .ok (.istore 4, 2) := by decide +kernel
theorem dX5_compareWords_5 : decode cX5_compareWords 5 = .ok (.iload 4, 2) := by decide +kernel
theorem dX5_compareWords_7 : decode cX5_compareWords 7 = .ok (.bipush 8, 2) := by decide +kernel
theorem dX5_compareWords_9 : decode cX5_compareWords 9 = .ok (.if_icmp .ge 39, 3) := by decide +kernel
theorem dX5_compareWords_12 : decode cX5_compareWords 12 = .ok (.iload_n 3, 1) := by decide +kernel
theorem dX5_compareWords_13 : decode cX5_compareWords 13 = .ok (.ifCond .ne 35, 3) := by decide +kernel
theorem dX5_compareWords_16 : decode cX5_compareWords 16 = .ok (.aload_n 0, 1) := by decide +kernel
theorem dX5_compareWords_17 : decode cX5_compareWords 17 = .ok (.getfield 7, 3) := by decide +kernel
theorem dX5_compareWords_20 : decode cX5_compareWords 20 = .ok (.bipush 8, 2) := by decide +kernel
theorem dX5_compareWords_22 : decode cX5_compareWords 22 = .ok (.iload_n 1, 1) := by decide +kernel
theorem dX5_compareWords_23 : decode cX5_compareWords 23 = .ok (.imul, 1) := by decide +kernel
theorem dX5_compareWords_24 : decode cX5_compareWords 24 = .ok (.iload 4, 2) := by decide +kernel
theorem dX5_compareWords_26 : decode cX5_compareWords 26 = .ok (.iadd, 1) := by decide +kernel
theorem dX5_compareWords_27 : decode cX5_compareWords 27 = .ok (.iaload, 1) := by decide +kernel
theorem dX5_compareWords_28 : decode cX5_compareWords 28 = .ok (.aload_n 0, 1) := by decide +kernel
theorem dX5_compareWords_29 : decode cX5_compareWords 29 = .ok (.getfield 7, 3) := by decide +kernel
theorem dX5_compareWords_32 : decode cX5_compareWords 32 = .ok (.bipush 8, 2) := by decide +kernel
theorem dX5_compareWords_34 : decode cX5_compareWords 34 = .ok (.iload_n 2, 1) := by decide +kernel
theorem dX5_compareWords_35 : decode cX5_compareWords 35 = .ok (.imul, 1) := by decide +kernel
theorem dX5_compareWords_36 : decode cX5_compareWords 36 = .ok (.iload 4, 2) := by decide +kernel
theorem dX5_compareWords_38 : decode cX5_compareWords 38 = .ok (.iadd, 1) := by decide +kernel
theorem dX5_compareWords_39 : decode cX5_compareWords 39 = .ok (.iaload, 1) := by decide +kernel
theorem dX5_compareWords_40 : decode cX5_compareWords 40 = .ok (.isub, 1) := by decide +kernel
theorem dX5_compareWords_41 : decode cX5_compareWords 41 = .ok (.istore_n 3, 1) := by decide +kernel
theorem dX5_compareWords_42 : decode cX5_compareWords 42 = .ok (.iinc 4 1, 3) := by decide +kernel
theorem dX5_compareWords_45 : decode cX5_compareWords 45 = .ok (.goto (-40), 3) := by decide +kernel
theorem dX5_compareWords_48 : decode cX5_compareWords 48 = .ok (.iload_n 3, 1) := by decide +kernel
theorem dX5_compareWords_49 : decode cX5_compareWords 49 = .ok (.ireturn, 1) := by decide +kernel
theorem dX5_keyOf_0 : decode cX5_keyOf 0 = .ok (.iconst 0, 1) := by decide +kernel
theorem dX5_keyOf_1 : decode cX5_keyOf 1 = .ok (.istore_n 3, 1) := by decide +kernel
theorem dX5_keyOf_2 : decode cX5_keyOf 2 = .ok (.iconst 0, 1) := by decide +kernel
theorem dX5_keyOf_3 : decode cX5_keyOf 3 = .ok (.istore 4, 2) := by decide +kernel
theorem dX5_keyOf_5 : decode cX5_keyOf 5 = .ok (.iload 4, 2) := by decide +kernel
theorem dX5_keyOf_7 : decode cX5_keyOf 7 = .ok (.iconst 3, 1) := by decide +kernel
theorem dX5_keyOf_8 : decode cX5_keyOf 8 = .ok (.if_icmp .ge 67, 3) := by decide +kernel
theorem dX5_keyOf_11 : decode cX5_keyOf 11 = .ok (.iconst 0, 1) := by decide +kernel
theorem dX5_keyOf_12 : decode cX5_keyOf 12 = .ok (.istore 5, 2) := by decide +kernel
theorem dX5_keyOf_14 : decode cX5_keyOf 14 = .ok (.iload 5, 2) := by decide +kernel
theorem dX5_keyOf_16 : decode cX5_keyOf 16 = .ok (.aload_n 0, 1) := by decide +kernel
theorem dX5_keyOf_17 : decode cX5_keyOf 17 = .ok (.getfield 19, 3) := by decide +kernel
theorem dX5_keyOf_20 : decode cX5_keyOf 20 = .ok (.iload_n 1, 1) := by decide +kernel
theorem dX5_keyOf_21 : decode cX5_keyOf 21 = .ok (.iaload, 1) := by decide +kernel
theorem dX5_keyOf_22 : decode cX5_keyOf 22 = .ok (.if_icmp .ge 47, 3) := by decide +kernel
theorem dX5_keyOf_25 : decode cX5_keyOf 25 = .ok (.aload_n 0, 1) := by decide +kernel
theorem dX5_keyOf_26 : decode cX5_keyOf 26 = .ok (.getfield 13, 3) := by decide +kernel
theorem dX5_keyOf_29 : decode cX5_keyOf 29 = .ok (.aload_n 0, 1) := by decide +kernel
theorem dX5_keyOf_30 : decode cX5_keyOf 30 = .ok (.getfield 16, 3) := by decide +kernel
theorem dX5_keyOf_33 : decode cX5_keyOf 33 = .ok (.iconst 4, 1) := by decide +kernel
theorem dX5_keyOf_34 : decode cX5_keyOf 34 = .ok (.iload_n 1, 1) := by decide +kernel
theorem dX5_keyOf_35 : decode cX5_keyOf 35 = .ok (.imul, 1) := by decide +kernel
theorem dX5_keyOf_36 : decode cX5_keyOf 36 = .ok (.iload 5, 2) := by decide +kernel
theorem dX5_keyOf_38 : decode cX5_keyOf 38 = .ok (.iadd, 1) := by decide +kernel
theorem dX5_keyOf_39 : decode cX5_keyOf 39 = .ok (.iaload, 1) := by decide +kernel
theorem dX5_keyOf_40 : decode cX5_keyOf 40 = .ok (.iaload, 1) := by decide +kernel
theorem dX5_keyOf_41 : decode cX5_keyOf 41 = .ok (.iload 4, 2) := by decide +kernel
theorem dX5_keyOf_43 : decode cX5_keyOf 43 = .ok (.if_icmp .ne 20, 3) := by decide +kernel
theorem dX5_keyOf_46 : decode cX5_keyOf 46 = .ok (.aload_n 2, 1) := by decide +kernel
theorem dX5_keyOf_47 : decode cX5_keyOf 47 = .ok (.iload_n 3, 1) := by decide +kernel
theorem dX5_keyOf_48 : decode cX5_keyOf 48 = .ok (.aload_n 0, 1) := by decide +kernel
theorem dX5_keyOf_49 : decode cX5_keyOf 49 = .ok (.getfield 16, 3) := by decide +kernel
theorem dX5_keyOf_52 : decode cX5_keyOf 52 = .ok (.iconst 4, 1) := by decide +kernel
theorem dX5_keyOf_53 : decode cX5_keyOf 53 = .ok (.iload_n 1, 1) := by decide +kernel
theorem dX5_keyOf_54 : decode cX5_keyOf 54 = .ok (.imul, 1) := by decide +kernel
theorem dX5_keyOf_55 : decode cX5_keyOf 55 = .ok (.iload 5, 2) := by decide +kernel
theorem dX5_keyOf_57 : decode cX5_keyOf 57 = .ok (.iadd, 1) := by decide +kernel
theorem dX5_keyOf_58 : decode cX5_keyOf 58 = .ok (.iaload, 1) := by decide +kernel
theorem dX5_keyOf_59 : decode cX5_keyOf 59 = .ok (.iastore, 1) := by decide +kernel
theorem dX5_keyOf_60 : decode cX5_keyOf 60 = .ok (.iinc 3 1, 3) := by decide +kernel
theorem dX5_keyOf_63 : decode cX5_keyOf 63 = .ok (.iinc 5 1, 3) := by decide +kernel
theorem dX5_keyOf_66 : decode cX5_keyOf 66 = .ok (.goto (-52), 3) := by decide +kernel
theorem dX5_keyOf_69 : decode cX5_keyOf 69 = .ok (.iinc 4 2, 3) := by decide +kernel
theorem dX5_keyOf_72 : decode cX5_keyOf 72 = .ok (.goto (-67), 3) := by decide +kernel
theorem dX5_keyOf_75 : decode cX5_keyOf 75 = .ok (.iconst 0, 1) := by decide +kernel
theorem dX5_keyOf_76 : decode cX5_keyOf 76 = .ok (.istore 4, 2) := by decide +kernel
theorem dX5_keyOf_78 : decode cX5_keyOf 78 = .ok (.iload 4, 2) := by decide +kernel
theorem dX5_keyOf_80 : decode cX5_keyOf 80 = .ok (.aload_n 0, 1) := by decide +kernel
theorem dX5_keyOf_81 : decode cX5_keyOf 81 = .ok (.getfield 19, 3) := by decide +kernel
theorem dX5_keyOf_84 : decode cX5_keyOf 84 = .ok (.iload_n 1, 1) := by decide +kernel
theorem dX5_keyOf_85 : decode cX5_keyOf 85 = .ok (.iaload, 1) := by decide +kernel
theorem dX5_keyOf_86 : decode cX5_keyOf 86 = .ok (.if_icmp .ge 28, 3) := by decide +kernel
theorem dX5_keyOf_89 : decode cX5_keyOf 89 = .ok (.iload_n 3, 1) := by decide +kernel
theorem dX5_keyOf_90 : decode cX5_keyOf 90 = .ok (.ifCond .ne 24, 3) := by decide +kernel
theorem dX5_keyOf_93 : decode cX5_keyOf 93 = .ok (.aload_n 2, 1) := by decide +kernel
theorem dX5_keyOf_94 : decode cX5_keyOf 94 = .ok (.iload 4, 2) := by decide +kernel
theorem dX5_keyOf_96 : decode cX5_keyOf 96 = .ok (.aload_n 0, 1) := by decide +kernel
theorem dX5_keyOf_97 : decode cX5_keyOf 97 = .ok (.getfield 16, 3) := by decide +kernel
theorem dX5_keyOf_100 : decode cX5_keyOf 100 = .ok (.iconst 4, 1) := by decide +kernel
theorem dX5_keyOf_101 : decode cX5_keyOf 101 = .ok (.iload_n 1, 1) := by decide +kernel
theorem dX5_keyOf_102 : decode cX5_keyOf 102 = .ok (.imul, 1) := by decide +kernel
theorem dX5_keyOf_103 : decode cX5_keyOf 103 = .ok (.iload 4, 2) := by decide +kernel
theorem dX5_keyOf_105 : decode cX5_keyOf 105 = .ok (.iadd, 1) := by decide +kernel
theorem dX5_keyOf_106 : decode cX5_keyOf 106 = .ok (.iaload, 1) := by decide +kernel
theorem dX5_keyOf_107 : decode cX5_keyOf 107 = .ok (.iastore, 1) := by decide +kernel
theorem dX5_keyOf_108 : decode cX5_keyOf 108 = .ok (.iinc 4 1, 3) := by decide +kernel
theorem dX5_keyOf_111 : decode cX5_keyOf 111 = .ok (.goto (-33), 3) := by decide +kernel
theorem dX5_keyOf_114 : decode cX5_keyOf 114 = .ok (.iload_n 3, 1) := by decide +kernel
theorem dX5_keyOf_115 : decode cX5_keyOf 115 = .ok (.ifCond .ne 12, 3) := by decide +kernel
theorem dX5_keyOf_118 : decode cX5_keyOf 118 = .ok (.aload_n 0, 1) := by decide +kernel
theorem dX5_keyOf_119 : decode cX5_keyOf 119 = .ok (.getfield 19, 3) := by decide +kernel
theorem dX5_keyOf_122 : decode cX5_keyOf 122 = .ok (.iload_n 1, 1) := by decide +kernel
theorem dX5_keyOf_123 : decode cX5_keyOf 123 = .ok (.iaload, 1) := by decide +kernel
theorem dX5_keyOf_124 : decode cX5_keyOf 124 = .ok (.goto 4, 3) := by decide +kernel
theorem dX5_keyOf_127 : decode cX5_keyOf 127 = .ok (.iload_n 3, 1) := by decide +kernel
theorem dX5_keyOf_128 : decode cX5_keyOf 128 = .ok (.ireturn, 1) := by decide +kernel
set_option maxRecDepth 20000 in
theorem ggX5_compareOf_X5_keyOf : GoodIn wsX5_compareOf wsX5_keyOf := goodIn_r _ [7, 8, 9, 10, 16, 17, 18, 19, 20, 21, 22, 23, 24, 25, 26, 27, 28, 29, 30, 31, 32] (by decide +kernel) (by decide +kernel)
set_option maxRecDepth 20000 in
theorem gX5_compareOf_X5_keyOf : GoodIn wsX5_compareOf (wsV RX5 65 RX5 yX5_keyOf wsX5_keyOf) := goodIn_app (goodIn_of _ (by decide +kernel)) ggX5_compareOf_X5_keyOf
set_option maxRecDepth 20000 in
theorem ggX5_compareOf_X5_compareWords : GoodIn wsX5_compareOf wsX5_compareWords := goodIn_r _ [14, 15, 16, 17, 18, 19, 20, 21, 22, 23, 24, 25, 26, 27, 28, 29, 30, 31, 32] (by decide +kernel) (by decide +kernel)
set_option maxRecDepth 20000 in
theorem gX5_compareOf_X5_compareWords : GoodIn wsX5_compareOf (wsV RX5 69 RX5 yX5_compareWords wsX5_compareWords) := goodIn_app (goodIn_of _ (by decide +kernel)) ggX5_compareOf_X5_compareWords
theorem dX5_compareOf_0 : decode cX5_compareOf 0 = .ok (.aload_n 0, 1) := by decide +kernel
theorem dX5_compareOf_1 : decode cX5_compareOf 1 = .ok (.iload_n 1, 1) := by decide +kernel
theorem dX5_compareOf_2 : decode cX5_compareOf 2 = .ok (.aload_n 0, 1) := by decide +kernel
theorem dX5_compareOf_3 : decode cX5_compareOf 3 = .ok (.getfield 38, 3) := by decide +kernel
theorem dX5_compareOf_6 : decode cX5_compareOf 6 = .ok (.invokevirtual 65, 3) := by decide +kernel
theorem dX5_compareOf_9 : decode cX5_compareOf 9 = .ok (.istore_n 3, 1) := by decide +kernel
theorem dX5_compareOf_10 : decode cX5_compareOf 10 = .ok (.aload_n 0, 1) := by decide +kernel
theorem dX5_compareOf_11 : decode cX5_compareOf 11 = .ok (.iload_n 2, 1) := by decide +kernel
theorem dX5_compareOf_12 : decode cX5_compareOf 12 = .ok (.aload_n 0, 1) := by decide +kernel
theorem dX5_compareOf_13 : decode cX5_compareOf 13 = .ok (.getfield 41, 3) := by decide +kernel
theorem dX5_compareOf_16 : decode cX5_compareOf 16 = .ok (.invokevirtual 65, 3) := by decide +kernel
theorem dX5_compareOf_19 : decode cX5_compareOf 19 = .ok (.istore 4, 2) := by decide +kernel
theorem dX5_compareOf_21 : decode cX5_compareOf 21 = .ok (.iconst 0, 1) := by decide +kernel
theorem dX5_compareOf_22 : decode cX5_compareOf 22 = .ok (.istore 5, 2) := by decide +kernel
theorem dX5_compareOf_24 : decode cX5_compareOf 24 = .ok (.iconst 0, 1) := by decide +kernel
theorem dX5_compareOf_25 : decode cX5_compareOf 25 = .ok (.istore 6, 2) := by decide +kernel
theorem dX5_compareOf_27 : decode cX5_compareOf 27 = .ok (.iload 6, 2) := by decide +kernel
theorem dX5_compareOf_29 : decode cX5_compareOf 29 = .ok (.iload_n 3, 1) := by decide +kernel
theorem dX5_compareOf_30 : decode cX5_compareOf 30 = .ok (.if_icmp .ge 41, 3) := by decide +kernel
theorem dX5_compareOf_33 : decode cX5_compareOf 33 = .ok (.iload 6, 2) := by decide +kernel
theorem dX5_compareOf_35 : decode cX5_compareOf 35 = .ok (.iload 4, 2) := by decide +kernel
theorem dX5_compareOf_37 : decode cX5_compareOf 37 = .ok (.if_icmp .ge 34, 3) := by decide +kernel
theorem dX5_compareOf_40 : decode cX5_compareOf 40 = .ok (.iload 5, 2) := by decide +kernel
theorem dX5_compareOf_42 : decode cX5_compareOf 42 = .ok (.ifCond .ne 29, 3) := by decide +kernel
theorem dX5_compareOf_45 : decode cX5_compareOf 45 = .ok (.aload_n 0, 1) := by decide +kernel
theorem dX5_compareOf_46 : decode cX5_compareOf 46 = .ok (.aload_n 0, 1) := by decide +kernel
theorem dX5_compareOf_47 : decode cX5_compareOf 47 = .ok (.getfield 38, 3) := by decide +kernel
theorem dX5_compareOf_50 : decode cX5_compareOf 50 = .ok (.iload 6, 2) := by decide +kernel
theorem dX5_compareOf_52 : decode cX5_compareOf 52 = .ok (.iaload, 1) := by decide +kernel
theorem dX5_compareOf_53 : decode cX5_compareOf 53 = .ok (.aload_n 0, 1) := by decide +kernel
theorem dX5_compareOf_54 : decode cX5_compareOf 54 = .ok (.getfield 41, 3) := by decide +kernel
theorem dX5_compareOf_57 : decode cX5_compareOf 57 = .ok (.iload 6, 2) := by decide +kernel
theorem dX5_compareOf_59 : decode cX5_compareOf 59 = .ok (.iaload, 1) := by decide +kernel
theorem dX5_compareOf_60 : decode cX5_compareOf 60 = .ok (.invokevirtual 69, 3) := by decide +kernel
theorem dX5_compareOf_63 : decode cX5_compareOf 63 = .ok (.istore 5, 2) := by decide +kernel
theorem dX5_compareOf_65 : decode cX5_compareOf 65 = .ok (.iinc 6 1, 3) := by decide +kernel
theorem dX5_compareOf_68 : decode cX5_compareOf 68 = .ok (.goto (-41), 3) := by decide +kernel
theorem dX5_compareOf_71 : decode cX5_compareOf 71 = .ok (.iload 5, 2) := by decide +kernel
theorem dX5_compareOf_73 : decode cX5_compareOf 73 = .ok (.ifCond .ne 10, 3) := by decide +kernel
theorem dX5_compareOf_76 : decode cX5_compareOf 76 = .ok (.iload_n 3, 1) := by decide +kernel
theorem dX5_compareOf_77 : decode cX5_compareOf 77 = .ok (.iload 4, 2) := by decide +kernel
theorem dX5_compareOf_79 : decode cX5_compareOf 79 = .ok (.isub, 1) := by decide +kernel
theorem dX5_compareOf_80 : decode cX5_compareOf 80 = .ok (.goto 5, 3) := by decide +kernel
theorem dX5_compareOf_83 : decode cX5_compareOf 83 = .ok (.iload 5, 2) := by decide +kernel
theorem dX5_compareOf_85 : decode cX5_compareOf 85 = .ok (.istore 5, 2) := by decide +kernel
theorem dX5_compareOf_87 : decode cX5_compareOf 87 = .ok (.iload 5, 2) := by decide +kernel
theorem dX5_compareOf_89 : decode cX5_compareOf 89 = .ok (.ifCond .ge 7, 3) := by decide +kernel
theorem dX5_compareOf_92 : decode cX5_compareOf 92 = .ok (.iconst (-1), 1) := by decide +kernel
theorem dX5_compareOf_93 : decode cX5_compareOf 93 = .ok (.goto 13, 3) := by decide +kernel
theorem dX5_compareOf_96 : decode cX5_compareOf 96 = .ok (.iload 5, 2) := by decide +kernel
theorem dX5_compareOf_98 : decode cX5_compareOf 98 = .ok (.ifCond .le 7, 3) := by decide +kernel
theorem dX5_compareOf_101 : decode cX5_compareOf 101 = .ok (.iconst 1, 1) := by decide +kernel
theorem dX5_compareOf_102 : decode cX5_compareOf 102 = .ok (.goto 4, 3) := by decide +kernel
theorem dX5_compareOf_105 : decode cX5_compareOf 105 = .ok (.iconst 0, 1) := by decide +kernel
theorem dX5_compareOf_106 : decode cX5_compareOf 106 = .ok (.ireturn, 1) := by decide +kernel
set_option maxRecDepth 20000 in
theorem ggX5_isAhead_X5_compareOf : GoodIn wsX5_isAhead wsX5_compareOf := goodIn_r _ [7, 8, 9, 10, 11, 12, 6, 13, 1, 14, 2, 15, 16, 17, 18, 19, 20, 21, 22, 23, 24, 25, 26, 27, 28, 29, 30, 31, 32, 33, 34, 35, 36] (by decide +kernel) (by decide +kernel)
set_option maxRecDepth 20000 in
theorem gX5_isAhead_X5_compareOf : GoodIn wsX5_isAhead (wsV RX5 73 RX5 yX5_compareOf wsX5_compareOf) := goodIn_app (goodIn_of _ (by decide +kernel)) ggX5_isAhead_X5_compareOf
set_option maxRecDepth 20000 in
theorem ggX5_isAhead_X5_compareWords : GoodIn wsX5_isAhead wsX5_compareWords := goodIn_r _ [18, 19, 20, 21, 22, 23, 24, 25, 26, 27, 28, 29, 30, 31, 32, 33, 34, 35, 36] (by decide +kernel) (by decide +kernel)
set_option maxRecDepth 20000 in
theorem gX5_isAhead_X5_compareWords : GoodIn wsX5_isAhead (wsV RX5 69 RX5 yX5_compareWords wsX5_compareWords) := goodIn_app (goodIn_of _ (by decide +kernel)) ggX5_isAhead_X5_compareWords
theorem dX5_isAhead_0 : decode cX5_isAhead 0 = .ok (.aload_n 0, 1) := by decide +kernel
theorem dX5_isAhead_1 : decode cX5_isAhead 1 = .ok (.iload_n 1, 1) := by decide +kernel
theorem dX5_isAhead_2 : decode cX5_isAhead 2 = .ok (.iload_n 2, 1) := by decide +kernel
theorem dX5_isAhead_3 : decode cX5_isAhead 3 = .ok (.invokevirtual 73, 3) := by decide +kernel
theorem dX5_isAhead_6 : decode cX5_isAhead 6 = .ok (.istore_n 3, 1) := by decide +kernel
theorem dX5_isAhead_7 : decode cX5_isAhead 7 = .ok (.iconst 0, 1) := by decide +kernel
theorem dX5_isAhead_8 : decode cX5_isAhead 8 = .ok (.istore 4, 2) := by decide +kernel
theorem dX5_isAhead_10 : decode cX5_isAhead 10 = .ok (.iload 4, 2) := by decide +kernel
theorem dX5_isAhead_12 : decode cX5_isAhead 12 = .ok (.aload_n 0, 1) := by decide +kernel
theorem dX5_isAhead_13 : decode cX5_isAhead 13 = .ok (.getfield 19, 3) := by decide +kernel
theorem dX5_isAhead_16 : decode cX5_isAhead 16 = .ok (.iload_n 1, 1) := by decide +kernel
theorem dX5_isAhead_17 : decode cX5_isAhead 17 = .ok (.iaload, 1) := by decide +kernel
theorem dX5_isAhead_18 : decode cX5_isAhead 18 = .ok (.if_icmp .ge 51, 3) := by decide +kernel
theorem dX5_isAhead_21 : decode cX5_isAhead 21 = .ok (.iload 4, 2) := by decide +kernel
theorem dX5_isAhead_23 : decode cX5_isAhead 23 = .ok (.aload_n 0, 1) := by decide +kernel
theorem dX5_isAhead_24 : decode cX5_isAhead 24 = .ok (.getfield 19, 3) := by decide +kernel
theorem dX5_isAhead_27 : decode cX5_isAhead 27 = .ok (.iload_n 2, 1) := by decide +kernel
theorem dX5_isAhead_28 : decode cX5_isAhead 28 = .ok (.iaload, 1) := by decide +kernel
theorem dX5_isAhead_29 : decode cX5_isAhead 29 = .ok (.if_icmp .ge 40, 3) := by decide +kernel
theorem dX5_isAhead_32 : decode cX5_isAhead 32 = .ok (.iload_n 3, 1) := by decide +kernel
theorem dX5_isAhead_33 : decode cX5_isAhead 33 = .ok (.ifCond .ne 36, 3) := by decide +kernel
theorem dX5_isAhead_36 : decode cX5_isAhead 36 = .ok (.aload_n 0, 1) := by decide +kernel
theorem dX5_isAhead_37 : decode cX5_isAhead 37 = .ok (.aload_n 0, 1) := by decide +kernel
theorem dX5_isAhead_38 : decode cX5_isAhead 38 = .ok (.getfield 16, 3) := by decide +kernel
theorem dX5_isAhead_41 : decode cX5_isAhead 41 = .ok (.iconst 4, 1) := by decide +kernel
theorem dX5_isAhead_42 : decode cX5_isAhead 42 = .ok (.iload_n 1, 1) := by decide +kernel
theorem dX5_isAhead_43 : decode cX5_isAhead 43 = .ok (.imul, 1) := by decide +kernel
theorem dX5_isAhead_44 : decode cX5_isAhead 44 = .ok (.iload 4, 2) := by decide +kernel
theorem dX5_isAhead_46 : decode cX5_isAhead 46 = .ok (.iadd, 1) := by decide +kernel
theorem dX5_isAhead_47 : decode cX5_isAhead 47 = .ok (.iaload, 1) := by decide +kernel
theorem dX5_isAhead_48 : decode cX5_isAhead 48 = .ok (.aload_n 0, 1) := by decide +kernel
theorem dX5_isAhead_49 : decode cX5_isAhead 49 = .ok (.getfield 16, 3) := by decide +kernel
theorem dX5_isAhead_52 : decode cX5_isAhead 52 = .ok (.iconst 4, 1) := by decide +kernel
theorem dX5_isAhead_53 : decode cX5_isAhead 53 = .ok (.iload_n 2, 1) := by decide +kernel
theorem dX5_isAhead_54 : decode cX5_isAhead 54 = .ok (.imul, 1) := by decide +kernel
theorem dX5_isAhead_55 : decode cX5_isAhead 55 = .ok (.iload 4, 2) := by decide +kernel
theorem dX5_isAhead_57 : decode cX5_isAhead 57 = .ok (.iadd, 1) := by decide +kernel
theorem dX5_isAhead_58 : decode cX5_isAhead 58 = .ok (.iaload, 1) := by decide +kernel
theorem dX5_isAhead_59 : decode cX5_isAhead 59 = .ok (.invokevirtual 69, 3) := by decide +kernel
theorem dX5_isAhead_62 : decode cX5_isAhead 62 = .ok (.istore_n 3, 1) := by decide +kernel
theorem dX5_isAhead_63 : decode cX5_isAhead 63 = .ok (.iinc 4 1, 3) := by decide +kernel
theorem dX5_isAhead_66 : decode cX5_isAhead 66 = .ok (.goto (-56), 3) := by decide +kernel
theorem dX5_isAhead_69 : decode cX5_isAhead 69 = .ok (.iload_n 3, 1) := by decide +kernel
theorem dX5_isAhead_70 : decode cX5_isAhead 70 = .ok (.ifCond .ne 19, 3) := by decide +kernel
theorem dX5_isAhead_73 : decode cX5_isAhead 73 = .ok (.aload_n 0, 1) := by decide +kernel
theorem dX5_isAhead_74 : decode cX5_isAhead 74 = .ok (.getfield 19, 3) := by decide +kernel
theorem dX5_isAhead_77 : decode cX5_isAhead 77 = .ok (.iload_n 1, 1) := by decide +kernel
theorem dX5_isAhead_78 : decode cX5_isAhead 78 = .ok (.iaload, 1) := by decide +kernel
theorem dX5_isAhead_79 : decode cX5_isAhead 79 = .ok (.aload_n 0, 1) := by decide +kernel
theorem dX5_isAhead_80 : decode cX5_isAhead 80 = .ok (.getfield 19, 3) := by decide +kernel
theorem dX5_isAhead_83 : decode cX5_isAhead 83 = .ok (.iload_n 2, 1) := by decide +kernel
theorem dX5_isAhead_84 : decode cX5_isAhead 84 = .ok (.iaload, 1) := by decide +kernel
theorem dX5_isAhead_85 : decode cX5_isAhead 85 = .ok (.isub, 1) := by decide +kernel
theorem dX5_isAhead_86 : decode cX5_isAhead 86 = .ok (.goto 4, 3) := by decide +kernel
theorem dX5_isAhead_89 : decode cX5_isAhead 89 = .ok (.iload_n 3, 1) := by decide +kernel
theorem dX5_isAhead_90 : decode cX5_isAhead 90 = .ok (.istore_n 3, 1) := by decide +kernel
theorem dX5_isAhead_91 : decode cX5_isAhead 91 = .ok (.iload_n 3, 1) := by decide +kernel
theorem dX5_isAhead_92 : decode cX5_isAhead 92 = .ok (.ifCond .lt 12, 3) := by decide +kernel
theorem dX5_isAhead_95 : decode cX5_isAhead 95 = .ok (.iload_n 3, 1) := by decide +kernel
theorem dX5_isAhead_96 : decode cX5_isAhead 96 = .ok (.ifCond .ne 12, 3) := by decide +kernel
theorem dX5_isAhead_99 : decode cX5_isAhead 99 = .ok (.iload_n 1, 1) := by decide +kernel
theorem dX5_isAhead_100 : decode cX5_isAhead 100 = .ok (.iload_n 2, 1) := by decide +kernel
theorem dX5_isAhead_101 : decode cX5_isAhead 101 = .ok (.if_icmp .ge 7, 3) := by decide +kernel
theorem dX5_isAhead_104 : decode cX5_isAhead 104 = .ok (.iconst 1, 1) := by decide +kernel
theorem dX5_isAhead_105 : decode cX5_isAhead 105 = .ok (.goto 4, 3) := by decide +kernel
theorem dX5_isAhead_108 : decode cX5_isAhead 108 = .ok (.iconst 0, 1) := by decide +kernel
theorem dX5_isAhead_109 : decode cX5_isAhead 109 = .ok (.ireturn, 1) := by decide +kernel
set_option maxRecDepth 20000 in
theorem ggX5_countAhead_X5_isAhead : GoodIn wsX5_countAhead wsX5_isAhead := goodIn_r _ [6, 7, 8, 9, 10, 11, 5, 12, 13, 14, 15, 16, 17, 18, 19, 20, 21, 22, 23, 24, 25, 26, 27, 28, 29, 30, 31, 32, 33, 34, 35, 36, 37, 38, 39, 40, 41] (by decide +kernel) (by decide +kernel)
set_option maxRecDepth 20000 in
theorem gX5_countAhead_X5_isAhead : GoodIn wsX5_countAhead (wsV RX5 76 RX5 yX5_isAhead wsX5_isAhead) := goodIn_app (goodIn_of _ (by decide +kernel)) ggX5_countAhead_X5_isAhead
theorem dX5_countAhead_0 : decode cX5_countAhead 0 = .ok (.iconst 0, 1) := by decide +kernel
theorem dX5_countAhead_1 : decode cX5_countAhead 1 = .ok (.istore_n 2, 1) := by decide +kernel
theorem dX5_countAhead_2 : decode cX5_countAhead 2 = .ok (.iconst 0, 1) := by decide +kernel
theorem dX5_countAhead_3 : decode cX5_countAhead 3 = .ok (.istore_n 3, 1) := by decide +kernel
theorem dX5_countAhead_4 : decode cX5_countAhead 4 = .ok (.iload_n 3, 1) := by decide +kernel
theorem dX5_countAhead_5 : decode cX5_countAhead 5 = .ok (.aload_n 0, 1) := by decide +kernel
theorem dX5_countAhead_6 : decode cX5_countAhead 6 = .ok (.getfield 58, 3) := by decide +kernel
theorem dX5_countAhead_9 : decode cX5_countAhead 9 = .ok (.if_icmp .ge 31, 3) := by decide +kernel
theorem dX5_countAhead_12 : decode cX5_countAhead 12 = .ok (.iload_n 2, 1) := by decide +kernel
theorem dX5_countAhead_13 : decode cX5_countAhead 13 = .ok (.iload_n 3, 1) := by decide +kernel
theorem dX5_countAhead_14 : decode cX5_countAhead 14 = .ok (.iload_n 1, 1) := by decide +kernel
theorem dX5_countAhead_15 : decode cX5_countAhead 15 = .ok (.if_icmp .eq 16, 3) := by decide +kernel
theorem dX5_countAhead_18 : decode cX5_countAhead 18 = .ok (.aload_n 0, 1) := by decide +kernel
theorem dX5_countAhead_19 : decode cX5_countAhead 19 = .ok (.iload_n 3, 1) := by decide +kernel
theorem dX5_countAhead_20 : decode cX5_countAhead 20 = .ok (.iload_n 1, 1) := by decide +kernel
theorem dX5_countAhead_21 : decode cX5_countAhead 21 = .ok (.invokevirtual 76, 3) := by decide +kernel
theorem dX5_countAhead_24 : decode cX5_countAhead 24 = .ok (.ifCond .eq 7, 3) := by decide +kernel
theorem dX5_countAhead_27 : decode cX5_countAhead 27 = .ok (.iconst 1, 1) := by decide +kernel
theorem dX5_countAhead_28 : decode cX5_countAhead 28 = .ok (.goto 4, 3) := by decide +kernel
theorem dX5_countAhead_31 : decode cX5_countAhead 31 = .ok (.iconst 0, 1) := by decide +kernel
theorem dX5_countAhead_32 : decode cX5_countAhead 32 = .ok (.iadd, 1) := by decide +kernel
theorem dX5_countAhead_33 : decode cX5_countAhead 33 = .ok (.istore_n 2, 1) := by decide +kernel
theorem dX5_countAhead_34 : decode cX5_countAhead 34 = .ok (.iinc 3 1, 3) := by decide +kernel
theorem dX5_countAhead_37 : decode cX5_countAhead 37 = .ok (.goto (-33), 3) := by decide +kernel
theorem dX5_countAhead_40 : decode cX5_countAhead 40 = .ok (.iload_n 2, 1) := by decide +kernel
theorem dX5_countAhead_41 : decode cX5_countAhead 41 = .ok (.ireturn, 1) := by decide +kernel
theorem dX5_way_0 : decode cX5_way 0 = .ok (.iload_n 0, 1) := by decide +kernel
theorem dX5_way_1 : decode cX5_way 1 = .ok (.iload_n 1, 1) := by decide +kernel
theorem dX5_way_2 : decode cX5_way 2 = .ok (.if_icmp .ge 7, 3) := by decide +kernel
theorem dX5_way_5 : decode cX5_way 5 = .ok (.iconst 1, 1) := by decide +kernel
theorem dX5_way_6 : decode cX5_way 6 = .ok (.goto 13, 3) := by decide +kernel
theorem dX5_way_9 : decode cX5_way 9 = .ok (.iload_n 0, 1) := by decide +kernel
theorem dX5_way_10 : decode cX5_way 10 = .ok (.iload_n 1, 1) := by decide +kernel
theorem dX5_way_11 : decode cX5_way 11 = .ok (.if_icmp .le 7, 3) := by decide +kernel
theorem dX5_way_14 : decode cX5_way 14 = .ok (.iconst (-1), 1) := by decide +kernel
theorem dX5_way_15 : decode cX5_way 15 = .ok (.goto 4, 3) := by decide +kernel
theorem dX5_way_18 : decode cX5_way 18 = .ok (.iconst 0, 1) := by decide +kernel
theorem dX5_way_19 : decode cX5_way 19 = .ok (.ireturn, 1) := by decide +kernel
set_option maxRecDepth 20000 in
theorem ggX5_tracks_X5_way : GoodIn wsX5_tracks wsX5_way := goodIn_r _ [9] (by decide +kernel) (by decide +kernel)
set_option maxRecDepth 20000 in
theorem gX5_tracks_X5_way : GoodIn wsX5_tracks (va_wsS RX5 83 yX5_way wsX5_way) := goodIn_app (goodIn_of _ (by decide +kernel)) ggX5_tracks_X5_way
theorem dX5_tracks_0 : decode cX5_tracks 0 = .ok (.aload_n 0, 1) := by decide +kernel
theorem dX5_tracks_1 : decode cX5_tracks 1 = .ok (.iconst 0, 1) := by decide +kernel
theorem dX5_tracks_2 : decode cX5_tracks 2 = .ok (.putfield 80, 3) := by decide +kernel
theorem dX5_tracks_5 : decode cX5_tracks 5 = .ok (.iconst 0, 1) := by decide +kernel
theorem dX5_tracks_6 : decode cX5_tracks 6 = .ok (.istore_n 2, 1) := by decide +kernel
theorem dX5_tracks_7 : decode cX5_tracks 7 = .ok (.iload_n 2, 1) := by decide +kernel
theorem dX5_tracks_8 : decode cX5_tracks 8 = .ok (.sipush 144, 3) := by decide +kernel
theorem dX5_tracks_11 : decode cX5_tracks 11 = .ok (.if_icmp .ge 16, 3) := by decide +kernel
theorem dX5_tracks_14 : decode cX5_tracks 14 = .ok (.aload_n 0, 1) := by decide +kernel
theorem dX5_tracks_15 : decode cX5_tracks 15 = .ok (.getfield 35, 3) := by decide +kernel
theorem dX5_tracks_18 : decode cX5_tracks 18 = .ok (.iload_n 2, 1) := by decide +kernel
theorem dX5_tracks_19 : decode cX5_tracks 19 = .ok (.iconst 0, 1) := by decide +kernel
theorem dX5_tracks_20 : decode cX5_tracks 20 = .ok (.bastore, 1) := by decide +kernel
theorem dX5_tracks_21 : decode cX5_tracks 21 = .ok (.iinc 2 1, 3) := by decide +kernel
theorem dX5_tracks_24 : decode cX5_tracks 24 = .ok (.goto (-17), 3) := by decide +kernel
theorem dX5_tracks_27 : decode cX5_tracks 27 = .ok (.iconst 0, 1) := by decide +kernel
theorem dX5_tracks_28 : decode cX5_tracks 28 = .ok (.istore_n 2, 1) := by decide +kernel
theorem dX5_tracks_29 : decode cX5_tracks 29 = .ok (.iload_n 2, 1) := by decide +kernel
theorem dX5_tracks_30 : decode cX5_tracks 30 = .ok (.aload_n 0, 1) := by decide +kernel
theorem dX5_tracks_31 : decode cX5_tracks 31 = .ok (.getfield 25, 3) := by decide +kernel
theorem dX5_tracks_34 : decode cX5_tracks 34 = .ok (.iload_n 1, 1) := by decide +kernel
theorem dX5_tracks_35 : decode cX5_tracks 35 = .ok (.iaload, 1) := by decide +kernel
theorem dX5_tracks_36 : decode cX5_tracks 36 = .ok (.if_icmp .ge 121, 3) := by decide +kernel
theorem dX5_tracks_39 : decode cX5_tracks 39 = .ok (.aload_n 0, 1) := by decide +kernel
theorem dX5_tracks_40 : decode cX5_tracks 40 = .ok (.getfield 22, 3) := by decide +kernel
theorem dX5_tracks_43 : decode cX5_tracks 43 = .ok (.bipush 10, 2) := by decide +kernel
theorem dX5_tracks_45 : decode cX5_tracks 45 = .ok (.iload_n 1, 1) := by decide +kernel
theorem dX5_tracks_46 : decode cX5_tracks 46 = .ok (.imul, 1) := by decide +kernel
theorem dX5_tracks_47 : decode cX5_tracks 47 = .ok (.iload_n 2, 1) := by decide +kernel
theorem dX5_tracks_48 : decode cX5_tracks 48 = .ok (.iadd, 1) := by decide +kernel
theorem dX5_tracks_49 : decode cX5_tracks 49 = .ok (.iaload, 1) := by decide +kernel
theorem dX5_tracks_50 : decode cX5_tracks 50 = .ok (.istore_n 3, 1) := by decide +kernel
theorem dX5_tracks_51 : decode cX5_tracks 51 = .ok (.iload_n 2, 1) := by decide +kernel
theorem dX5_tracks_52 : decode cX5_tracks 52 = .ok (.ifCond .ne 7, 3) := by decide +kernel
theorem dX5_tracks_55 : decode cX5_tracks 55 = .ok (.iload_n 3, 1) := by decide +kernel
theorem dX5_tracks_56 : decode cX5_tracks 56 = .ok (.goto 14, 3) := by decide +kernel
theorem dX5_tracks_59 : decode cX5_tracks 59 = .ok (.aload_n 0, 1) := by decide +kernel
theorem dX5_tracks_60 : decode cX5_tracks 60 = .ok (.getfield 32, 3) := by decide +kernel
theorem dX5_tracks_63 : decode cX5_tracks 63 = .ok (.aload_n 0, 1) := by decide +kernel
theorem dX5_tracks_64 : decode cX5_tracks 64 = .ok (.getfield 80, 3) := by decide +kernel
theorem dX5_tracks_67 : decode cX5_tracks 67 = .ok (.iconst 1, 1) := by decide +kernel
theorem dX5_tracks_68 : decode cX5_tracks 68 = .ok (.isub, 1) := by decide +kernel
theorem dX5_tracks_69 : decode cX5_tracks 69 = .ok (.iaload, 1) := by decide +kernel
theorem dX5_tracks_70 : decode cX5_tracks 70 = .ok (.istore 4, 2) := by decide +kernel
theorem dX5_tracks_72 : decode cX5_tracks 72 = .ok (.iload_n 2, 1) := by decide +kernel
theorem dX5_tracks_73 : decode cX5_tracks 73 = .ok (.ifCond .ne 15, 3) := by decide +kernel
theorem dX5_tracks_76 : decode cX5_tracks 76 = .ok (.aload_n 0, 1) := by decide +kernel
theorem dX5_tracks_77 : decode cX5_tracks 77 = .ok (.getfield 32, 3) := by decide +kernel
theorem dX5_tracks_80 : decode cX5_tracks 80 = .ok (.iconst 0, 1) := by decide +kernel
theorem dX5_tracks_81 : decode cX5_tracks 81 = .ok (.iload_n 3, 1) := by decide +kernel
theorem dX5_tracks_82 : decode cX5_tracks 82 = .ok (.iastore, 1) := by decide +kernel
theorem dX5_tracks_83 : decode cX5_tracks 83 = .ok (.aload_n 0, 1) := by decide +kernel
theorem dX5_tracks_84 : decode cX5_tracks 84 = .ok (.iconst 1, 1) := by decide +kernel
theorem dX5_tracks_85 : decode cX5_tracks 85 = .ok (.putfield 80, 3) := by decide +kernel
theorem dX5_tracks_88 : decode cX5_tracks 88 = .ok (.iload 4, 2) := by decide +kernel
theorem dX5_tracks_90 : decode cX5_tracks 90 = .ok (.iload_n 3, 1) := by decide +kernel
theorem dX5_tracks_91 : decode cX5_tracks 91 = .ok (.if_icmp .eq 60, 3) := by decide +kernel
theorem dX5_tracks_94 : decode cX5_tracks 94 = .ok (.iload 4, 2) := by decide +kernel
theorem dX5_tracks_96 : decode cX5_tracks 96 = .ok (.bipush 12, 2) := by decide +kernel
theorem dX5_tracks_98 : decode cX5_tracks 98 = .ok (.iload 4, 2) := by decide +kernel
theorem dX5_tracks_100 : decode cX5_tracks 100 = .ok (.bipush 12, 2) := by decide +kernel
theorem dX5_tracks_102 : decode cX5_tracks 102 = .ok (.idiv, 1) := by decide +kernel
theorem dX5_tracks_103 : decode cX5_tracks 103 = .ok (.iload_n 3, 1) := by decide +kernel
theorem dX5_tracks_104 : decode cX5_tracks 104 = .ok (.bipush 12, 2) := by decide +kernel
theorem dX5_tracks_106 : decode cX5_tracks 106 = .ok (.idiv, 1) := by decide +kernel
theorem dX5_tracks_107 : decode cX5_tracks 107 = .ok (.invokestatic 83, 3) := by decide +kernel
theorem dX5_tracks_110 : decode cX5_tracks 110 = .ok (.imul, 1) := by decide +kernel
theorem dX5_tracks_111 : decode cX5_tracks 111 = .ok (.iload 4, 2) := by decide +kernel
theorem dX5_tracks_113 : decode cX5_tracks 113 = .ok (.bipush 12, 2) := by decide +kernel
theorem dX5_tracks_115 : decode cX5_tracks 115 = .ok (.irem, 1) := by decide +kernel
theorem dX5_tracks_116 : decode cX5_tracks 116 = .ok (.iload_n 3, 1) := by decide +kernel
theorem dX5_tracks_117 : decode cX5_tracks 117 = .ok (.bipush 12, 2) := by decide +kernel
theorem dX5_tracks_119 : decode cX5_tracks 119 = .ok (.irem, 1) := by decide +kernel
theorem dX5_tracks_120 : decode cX5_tracks 120 = .ok (.invokestatic 83, 3) := by decide +kernel
theorem dX5_tracks_123 : decode cX5_tracks 123 = .ok (.iadd, 1) := by decide +kernel
theorem dX5_tracks_124 : decode cX5_tracks 124 = .ok (.iadd, 1) := by decide +kernel
theorem dX5_tracks_125 : decode cX5_tracks 125 = .ok (.istore 4, 2) := by decide +kernel
theorem dX5_tracks_127 : decode cX5_tracks 127 = .ok (.aload_n 0, 1) := by decide +kernel
theorem dX5_tracks_128 : decode cX5_tracks 128 = .ok (.getfield 32, 3) := by decide +kernel
theorem dX5_tracks_131 : decode cX5_tracks 131 = .ok (.aload_n 0, 1) := by decide +kernel
theorem dX5_tracks_132 : decode cX5_tracks 132 = .ok (.getfield 80, 3) := by decide +kernel
theorem dX5_tracks_135 : decode cX5_tracks 135 = .ok (.iload 4, 2) := by decide +kernel
theorem dX5_tracks_137 : decode cX5_tracks 137 = .ok (.iastore, 1) := by decide +kernel
theorem dX5_tracks_138 : decode cX5_tracks 138 = .ok (.aload_n 0, 1) := by decide +kernel
theorem dX5_tracks_139 : decode cX5_tracks 139 = .ok (.dup, 1) := by decide +kernel
theorem dX5_tracks_140 : decode cX5_tracks 140 = .ok (.getfield 80, 3) := by decide +kernel
theorem dX5_tracks_143 : decode cX5_tracks 143 = .ok (.iconst 1, 1) := by decide +kernel
theorem dX5_tracks_144 : decode cX5_tracks 144 = .ok (.iadd, 1) := by decide +kernel
theorem dX5_tracks_145 : decode cX5_tracks 145 = .ok (.putfield 80, 3) := by decide +kernel
theorem dX5_tracks_148 : decode cX5_tracks 148 = .ok (.goto (-60), 3) := by decide +kernel
theorem dX5_tracks_151 : decode cX5_tracks 151 = .ok (.iinc 2 1, 3) := by decide +kernel
theorem dX5_tracks_154 : decode cX5_tracks 154 = .ok (.goto (-125), 3) := by decide +kernel
theorem dX5_tracks_157 : decode cX5_tracks 157 = .ok (.iconst 0, 1) := by decide +kernel
theorem dX5_tracks_158 : decode cX5_tracks 158 = .ok (.istore_n 2, 1) := by decide +kernel
theorem dX5_tracks_159 : decode cX5_tracks 159 = .ok (.iload_n 2, 1) := by decide +kernel
theorem dX5_tracks_160 : decode cX5_tracks 160 = .ok (.aload_n 0, 1) := by decide +kernel
theorem dX5_tracks_161 : decode cX5_tracks 161 = .ok (.getfield 80, 3) := by decide +kernel
theorem dX5_tracks_164 : decode cX5_tracks 164 = .ok (.if_icmp .ge 21, 3) := by decide +kernel
theorem dX5_tracks_167 : decode cX5_tracks 167 = .ok (.aload_n 0, 1) := by decide +kernel
theorem dX5_tracks_168 : decode cX5_tracks 168 = .ok (.getfield 35, 3) := by decide +kernel
theorem dX5_tracks_171 : decode cX5_tracks 171 = .ok (.aload_n 0, 1) := by decide +kernel
theorem dX5_tracks_172 : decode cX5_tracks 172 = .ok (.getfield 32, 3) := by decide +kernel
theorem dX5_tracks_175 : decode cX5_tracks 175 = .ok (.iload_n 2, 1) := by decide +kernel
theorem dX5_tracks_176 : decode cX5_tracks 176 = .ok (.iaload, 1) := by decide +kernel
theorem dX5_tracks_177 : decode cX5_tracks 177 = .ok (.iconst 1, 1) := by decide +kernel
theorem dX5_tracks_178 : decode cX5_tracks 178 = .ok (.bastore, 1) := by decide +kernel
theorem dX5_tracks_179 : decode cX5_tracks 179 = .ok (.iinc 2 1, 3) := by decide +kernel
theorem dX5_tracks_182 : decode cX5_tracks 182 = .ok (.goto (-23), 3) := by decide +kernel
theorem dX5_tracks_185 : decode cX5_tracks 185 = .ok (.return_, 1) := by decide +kernel
set_option maxRecDepth 20000 in
theorem ggX5_tracked_X5_tracks : GoodIn wsX5_tracked wsX5_tracks := goodIn_r _ [6, 1, 7, 8, 9, 10, 11, 12, 5, 13, 14, 15, 16, 17, 18, 19, 20, 21, 22, 23, 24, 25, 26, 27, 28, 29, 30] (by decide +kernel) (by decide +kernel)
set_option maxRecDepth 20000 in
theorem gX5_tracked_X5_tracks : GoodIn wsX5_tracked (wsV RX5 86 RX5 yX5_tracks wsX5_tracks) := goodIn_app (goodIn_of _ (by decide +kernel)) ggX5_tracked_X5_tracks
theorem dX5_tracked_0 : decode cX5_tracked 0 = .ok (.aload_n 0, 1) := by decide +kernel
theorem dX5_tracked_1 : decode cX5_tracked 1 = .ok (.iload_n 1, 1) := by decide +kernel
theorem dX5_tracked_2 : decode cX5_tracked 2 = .ok (.invokevirtual 86, 3) := by decide +kernel
theorem dX5_tracked_5 : decode cX5_tracked 5 = .ok (.aload_n 0, 1) := by decide +kernel
theorem dX5_tracked_6 : decode cX5_tracked 6 = .ok (.getfield 80, 3) := by decide +kernel
theorem dX5_tracked_9 : decode cX5_tracked 9 = .ok (.ireturn, 1) := by decide +kernel
theorem dX5_beginsRun_0 : decode cX5_beginsRun 0 = .ok (.aload_n 0, 1) := by decide +kernel
theorem dX5_beginsRun_1 : decode cX5_beginsRun 1 = .ok (.getfield 35, 3) := by decide +kernel
theorem dX5_beginsRun_4 : decode cX5_beginsRun 4 = .ok (.iload_n 1, 1) := by decide +kernel
theorem dX5_beginsRun_5 : decode cX5_beginsRun 5 = .ok (.baload, 1) := by decide +kernel
theorem dX5_beginsRun_6 : decode cX5_beginsRun 6 = .ok (.ifCond .eq 25, 3) := by decide +kernel
theorem dX5_beginsRun_9 : decode cX5_beginsRun 9 = .ok (.iload_n 1, 1) := by decide +kernel
theorem dX5_beginsRun_10 : decode cX5_beginsRun 10 = .ok (.bipush 12, 2) := by decide +kernel
theorem dX5_beginsRun_12 : decode cX5_beginsRun 12 = .ok (.irem, 1) := by decide +kernel
theorem dX5_beginsRun_13 : decode cX5_beginsRun 13 = .ok (.ifCond .eq 14, 3) := by decide +kernel
theorem dX5_beginsRun_16 : decode cX5_beginsRun 16 = .ok (.aload_n 0, 1) := by decide +kernel
theorem dX5_beginsRun_17 : decode cX5_beginsRun 17 = .ok (.getfield 35, 3) := by decide +kernel
theorem dX5_beginsRun_20 : decode cX5_beginsRun 20 = .ok (.iload_n 1, 1) := by decide +kernel
theorem dX5_beginsRun_21 : decode cX5_beginsRun 21 = .ok (.iconst 1, 1) := by decide +kernel
theorem dX5_beginsRun_22 : decode cX5_beginsRun 22 = .ok (.isub, 1) := by decide +kernel
theorem dX5_beginsRun_23 : decode cX5_beginsRun 23 = .ok (.baload, 1) := by decide +kernel
theorem dX5_beginsRun_24 : decode cX5_beginsRun 24 = .ok (.ifCond .ne 7, 3) := by decide +kernel
theorem dX5_beginsRun_27 : decode cX5_beginsRun 27 = .ok (.iconst 1, 1) := by decide +kernel
theorem dX5_beginsRun_28 : decode cX5_beginsRun 28 = .ok (.goto 4, 3) := by decide +kernel
theorem dX5_beginsRun_31 : decode cX5_beginsRun 31 = .ok (.iconst 0, 1) := by decide +kernel
theorem dX5_beginsRun_32 : decode cX5_beginsRun 32 = .ok (.ireturn, 1) := by decide +kernel
set_option maxRecDepth 20000 in
theorem ggX5_addStreet_X5_isName : GoodIn wsX5_addStreet wsX5_isName := goodIn_r _ [6, 7, 8, 5, 9] (by decide +kernel) (by decide +kernel)
set_option maxRecDepth 20000 in
theorem gX5_addStreet_X5_isName : GoodIn wsX5_addStreet (va_wsS RX5 90 yX5_isName wsX5_isName) := goodIn_app (goodIn_of _ (by decide +kernel)) ggX5_addStreet_X5_isName
set_option maxRecDepth 20000 in
theorem ggX5_addStreet_X5_gives : GoodIn wsX5_addStreet wsX5_gives := goodIn_r _ [13, 14, 15, 16, 17, 18, 19, 20, 21, 22, 23, 24, 25, 26, 27, 28, 29, 30, 31, 32] (by decide +kernel) (by decide +kernel)
set_option maxRecDepth 20000 in
theorem gX5_addStreet_X5_gives : GoodIn wsX5_addStreet (wsV RX5 93 RX5 yX5_gives wsX5_gives) := goodIn_app (goodIn_of _ (by decide +kernel)) ggX5_addStreet_X5_gives
theorem dX5_addStreet_0 : decode cX5_addStreet 0 = .ok (.aload_n 0, 1) := by decide +kernel
theorem dX5_addStreet_1 : decode cX5_addStreet 1 = .ok (.iload_n 1, 1) := by decide +kernel
theorem dX5_addStreet_2 : decode cX5_addStreet 2 = .ok (.iload_n 2, 1) := by decide +kernel
theorem dX5_addStreet_3 : decode cX5_addStreet 3 = .ok (.invokestatic 90, 3) := by decide +kernel
theorem dX5_addStreet_6 : decode cX5_addStreet 6 = .ok (.ifCond .ne 7, 3) := by decide +kernel
theorem dX5_addStreet_9 : decode cX5_addStreet 9 = .ok (.iconst 1, 1) := by decide +kernel
theorem dX5_addStreet_10 : decode cX5_addStreet 10 = .ok (.goto 17, 3) := by decide +kernel
theorem dX5_addStreet_13 : decode cX5_addStreet 13 = .ok (.aload_n 0, 1) := by decide +kernel
theorem dX5_addStreet_14 : decode cX5_addStreet 14 = .ok (.getfield 58, 3) := by decide +kernel
theorem dX5_addStreet_17 : decode cX5_addStreet 17 = .ok (.bipush 16, 2) := by decide +kernel
theorem dX5_addStreet_19 : decode cX5_addStreet 19 = .ok (.if_icmp .ne 7, 3) := by decide +kernel
theorem dX5_addStreet_22 : decode cX5_addStreet 22 = .ok (.iconst 2, 1) := by decide +kernel
theorem dX5_addStreet_23 : decode cX5_addStreet 23 = .ok (.goto 4, 3) := by decide +kernel
theorem dX5_addStreet_26 : decode cX5_addStreet 26 = .ok (.iconst 0, 1) := by decide +kernel
theorem dX5_addStreet_27 : decode cX5_addStreet 27 = .ok (.putfield 54, 3) := by decide +kernel
theorem dX5_addStreet_30 : decode cX5_addStreet 30 = .ok (.aload_n 0, 1) := by decide +kernel
theorem dX5_addStreet_31 : decode cX5_addStreet 31 = .ok (.getfield 54, 3) := by decide +kernel
theorem dX5_addStreet_34 : decode cX5_addStreet 34 = .ok (.ifCond .le 5, 3) := by decide +kernel
theorem dX5_addStreet_37 : decode cX5_addStreet 37 = .ok (.iconst 0, 1) := by decide +kernel
theorem dX5_addStreet_38 : decode cX5_addStreet 38 = .ok (.ireturn, 1) := by decide +kernel
theorem dX5_addStreet_39 : decode cX5_addStreet 39 = .ok (.aload_n 0, 1) := by decide +kernel
theorem dX5_addStreet_40 : decode cX5_addStreet 40 = .ok (.aload_n 0, 1) := by decide +kernel
theorem dX5_addStreet_41 : decode cX5_addStreet 41 = .ok (.getfield 58, 3) := by decide +kernel
theorem dX5_addStreet_44 : decode cX5_addStreet 44 = .ok (.iload_n 1, 1) := by decide +kernel
theorem dX5_addStreet_45 : decode cX5_addStreet 45 = .ok (.iload_n 2, 1) := by decide +kernel
theorem dX5_addStreet_46 : decode cX5_addStreet 46 = .ok (.invokevirtual 93, 3) := by decide +kernel
theorem dX5_addStreet_49 : decode cX5_addStreet 49 = .ok (.aload_n 0, 1) := by decide +kernel
theorem dX5_addStreet_50 : decode cX5_addStreet 50 = .ok (.dup, 1) := by decide +kernel
theorem dX5_addStreet_51 : decode cX5_addStreet 51 = .ok (.getfield 58, 3) := by decide +kernel
theorem dX5_addStreet_54 : decode cX5_addStreet 54 = .ok (.iconst 1, 1) := by decide +kernel
theorem dX5_addStreet_55 : decode cX5_addStreet 55 = .ok (.iadd, 1) := by decide +kernel
theorem dX5_addStreet_56 : decode cX5_addStreet 56 = .ok (.putfield 58, 3) := by decide +kernel
theorem dX5_addStreet_59 : decode cX5_addStreet 59 = .ok (.aload_n 0, 1) := by decide +kernel
theorem dX5_addStreet_60 : decode cX5_addStreet 60 = .ok (.getfield 58, 3) := by decide +kernel
theorem dX5_addStreet_63 : decode cX5_addStreet 63 = .ok (.iconst 1, 1) := by decide +kernel
theorem dX5_addStreet_64 : decode cX5_addStreet 64 = .ok (.isub, 1) := by decide +kernel
theorem dX5_addStreet_65 : decode cX5_addStreet 65 = .ok (.ireturn, 1) := by decide +kernel
set_option maxRecDepth 20000 in
theorem ggX5_addPoint_X5_isStreet : GoodIn wsX5_addPoint wsX5_isStreet := goodIn_r _ [7, 8, 9, 10, 6, 11, 34, 35, 36, 37, 38, 39, 40, 41, 42, 43, 44, 45, 46, 47, 48, 49, 50] (by decide +kernel) (by decide +kernel)
set_option maxRecDepth 20000 in
theorem gX5_addPoint_X5_isStreet : GoodIn wsX5_addPoint (wsV RX5 97 RX5 yX5_isStreet wsX5_isStreet) := goodIn_app (goodIn_of _ (by decide +kernel)) ggX5_addPoint_X5_isStreet
set_option maxRecDepth 20000 in
theorem ggX5_addPoint_X5_isSquare : GoodIn wsX5_addPoint wsX5_isSquare := goodIn_r _ [14, 9, 10, 6, 11] (by decide +kernel) (by decide +kernel)
set_option maxRecDepth 20000 in
theorem gX5_addPoint_X5_isSquare : GoodIn wsX5_addPoint (va_wsS RX5 101 yX5_isSquare wsX5_isSquare) := goodIn_app (goodIn_of _ (by decide +kernel)) ggX5_addPoint_X5_isSquare
set_option maxRecDepth 20000 in
theorem ggX5_addPoint_X5_goes : GoodIn wsX5_addPoint wsX5_goes := goodIn_r _ [18, 19, 34, 35, 36, 37, 38, 39, 40, 41, 42, 43, 44, 45, 46, 47, 48, 49, 50] (by decide +kernel) (by decide +kernel)
set_option maxRecDepth 20000 in
theorem gX5_addPoint_X5_goes : GoodIn wsX5_addPoint (wsV RX5 104 RX5 yX5_goes wsX5_goes) := goodIn_app (goodIn_of _ (by decide +kernel)) ggX5_addPoint_X5_goes
set_option maxRecDepth 20000 in
theorem ggX5_addPoint_X5_tracked : GoodIn wsX5_addPoint wsX5_tracked := goodIn_r _ [23, 24, 25, 26, 27, 6, 28, 29, 1, 2, 30, 31, 32, 33, 34, 35, 36, 37, 38, 39, 40, 41, 42, 43, 44, 45, 46, 47, 48, 49, 50] (by decide +kernel) (by decide +kernel)
set_option maxRecDepth 20000 in
theorem gX5_addPoint_X5_tracked : GoodIn wsX5_addPoint (wsV RX5 108 RX5 yX5_tracked wsX5_tracked) := goodIn_app (goodIn_of _ (by decide +kernel)) ggX5_addPoint_X5_tracked
theorem dX5_addPoint_0 : decode cX5_addPoint 0 = .ok (.aload_n 0, 1) := by decide +kernel
theorem dX5_addPoint_1 : decode cX5_addPoint 1 = .ok (.iload_n 1, 1) := by decide +kernel
theorem dX5_addPoint_2 : decode cX5_addPoint 2 = .ok (.invokevirtual 97, 3) := by decide +kernel
theorem dX5_addPoint_5 : decode cX5_addPoint 5 = .ok (.ifCond .eq 15, 3) := by decide +kernel
theorem dX5_addPoint_8 : decode cX5_addPoint 8 = .ok (.iload_n 2, 1) := by decide +kernel
theorem dX5_addPoint_9 : decode cX5_addPoint 9 = .ok (.iload_n 3, 1) := by decide +kernel
theorem dX5_addPoint_10 : decode cX5_addPoint 10 = .ok (.invokestatic 101, 3) := by decide +kernel
theorem dX5_addPoint_13 : decode cX5_addPoint 13 = .ok (.ifCond .eq 7, 3) := by decide +kernel
theorem dX5_addPoint_16 : decode cX5_addPoint 16 = .ok (.iconst 1, 1) := by decide +kernel
theorem dX5_addPoint_17 : decode cX5_addPoint 17 = .ok (.goto 4, 3) := by decide +kernel
theorem dX5_addPoint_20 : decode cX5_addPoint 20 = .ok (.iconst 0, 1) := by decide +kernel
theorem dX5_addPoint_21 : decode cX5_addPoint 21 = .ok (.istore 4, 2) := by decide +kernel
theorem dX5_addPoint_23 : decode cX5_addPoint 23 = .ok (.iconst 1, 1) := by decide +kernel
theorem dX5_addPoint_24 : decode cX5_addPoint 24 = .ok (.istore 5, 2) := by decide +kernel
theorem dX5_addPoint_26 : decode cX5_addPoint 26 = .ok (.iload 4, 2) := by decide +kernel
theorem dX5_addPoint_28 : decode cX5_addPoint 28 = .ok (.ifCond .eq 104, 3) := by decide +kernel
theorem dX5_addPoint_31 : decode cX5_addPoint 31 = .ok (.aload_n 0, 1) := by decide +kernel
theorem dX5_addPoint_32 : decode cX5_addPoint 32 = .ok (.getfield 25, 3) := by decide +kernel
theorem dX5_addPoint_35 : decode cX5_addPoint 35 = .ok (.iload_n 1, 1) := by decide +kernel
theorem dX5_addPoint_36 : decode cX5_addPoint 36 = .ok (.iaload, 1) := by decide +kernel
theorem dX5_addPoint_37 : decode cX5_addPoint 37 = .ok (.ifCond .le 95, 3) := by decide +kernel
theorem dX5_addPoint_40 : decode cX5_addPoint 40 = .ok (.aload_n 0, 1) := by decide +kernel
theorem dX5_addPoint_41 : decode cX5_addPoint 41 = .ok (.getfield 22, 3) := by decide +kernel
theorem dX5_addPoint_44 : decode cX5_addPoint 44 = .ok (.bipush 10, 2) := by decide +kernel
theorem dX5_addPoint_46 : decode cX5_addPoint 46 = .ok (.iload_n 1, 1) := by decide +kernel
theorem dX5_addPoint_47 : decode cX5_addPoint 47 = .ok (.imul, 1) := by decide +kernel
theorem dX5_addPoint_48 : decode cX5_addPoint 48 = .ok (.aload_n 0, 1) := by decide +kernel
theorem dX5_addPoint_49 : decode cX5_addPoint 49 = .ok (.getfield 25, 3) := by decide +kernel
theorem dX5_addPoint_52 : decode cX5_addPoint 52 = .ok (.iload_n 1, 1) := by decide +kernel
theorem dX5_addPoint_53 : decode cX5_addPoint 53 = .ok (.iaload, 1) := by decide +kernel
theorem dX5_addPoint_54 : decode cX5_addPoint 54 = .ok (.iadd, 1) := by decide +kernel
theorem dX5_addPoint_55 : decode cX5_addPoint 55 = .ok (.iconst 1, 1) := by decide +kernel
theorem dX5_addPoint_56 : decode cX5_addPoint 56 = .ok (.isub, 1) := by decide +kernel
theorem dX5_addPoint_57 : decode cX5_addPoint 57 = .ok (.iaload, 1) := by decide +kernel
theorem dX5_addPoint_58 : decode cX5_addPoint 58 = .ok (.istore 6, 2) := by decide +kernel
theorem dX5_addPoint_60 : decode cX5_addPoint 60 = .ok (.iload_n 2, 1) := by decide +kernel
theorem dX5_addPoint_61 : decode cX5_addPoint 61 = .ok (.iload 6, 2) := by decide +kernel
theorem dX5_addPoint_63 : decode cX5_addPoint 63 = .ok (.bipush 12, 2) := by decide +kernel
theorem dX5_addPoint_65 : decode cX5_addPoint 65 = .ok (.idiv, 1) := by decide +kernel
theorem dX5_addPoint_66 : decode cX5_addPoint 66 = .ok (.isub, 1) := by decide +kernel
theorem dX5_addPoint_67 : decode cX5_addPoint 67 = .ok (.istore 7, 2) := by decide +kernel
theorem dX5_addPoint_69 : decode cX5_addPoint 69 = .ok (.iload_n 3, 1) := by decide +kernel
theorem dX5_addPoint_70 : decode cX5_addPoint 70 = .ok (.iload 6, 2) := by decide +kernel
theorem dX5_addPoint_72 : decode cX5_addPoint 72 = .ok (.bipush 12, 2) := by decide +kernel
theorem dX5_addPoint_74 : decode cX5_addPoint 74 = .ok (.irem, 1) := by decide +kernel
theorem dX5_addPoint_75 : decode cX5_addPoint 75 = .ok (.isub, 1) := by decide +kernel
theorem dX5_addPoint_76 : decode cX5_addPoint 76 = .ok (.istore 8, 2) := by decide +kernel
theorem dX5_addPoint_78 : decode cX5_addPoint 78 = .ok (.iload 7, 2) := by decide +kernel
theorem dX5_addPoint_80 : decode cX5_addPoint 80 = .ok (.ifCond .eq 23, 3) := by decide +kernel
theorem dX5_addPoint_83 : decode cX5_addPoint 83 = .ok (.iload 8, 2) := by decide +kernel
theorem dX5_addPoint_85 : decode cX5_addPoint 85 = .ok (.ifCond .eq 18, 3) := by decide +kernel
theorem dX5_addPoint_88 : decode cX5_addPoint 88 = .ok (.iload 7, 2) := by decide +kernel
theorem dX5_addPoint_90 : decode cX5_addPoint 90 = .ok (.iload 8, 2) := by decide +kernel
theorem dX5_addPoint_92 : decode cX5_addPoint 92 = .ok (.if_icmp .eq 11, 3) := by decide +kernel
theorem dX5_addPoint_95 : decode cX5_addPoint 95 = .ok (.iload 7, 2) := by decide +kernel
theorem dX5_addPoint_97 : decode cX5_addPoint 97 = .ok (.iload 8, 2) := by decide +kernel
theorem dX5_addPoint_99 : decode cX5_addPoint 99 = .ok (.ineg, 1) := by decide +kernel
theorem dX5_addPoint_100 : decode cX5_addPoint 100 = .ok (.if_icmp .ne 7, 3) := by decide +kernel
theorem dX5_addPoint_103 : decode cX5_addPoint 103 = .ok (.iconst 1, 1) := by decide +kernel
theorem dX5_addPoint_104 : decode cX5_addPoint 104 = .ok (.goto 4, 3) := by decide +kernel
theorem dX5_addPoint_107 : decode cX5_addPoint 107 = .ok (.iconst 0, 1) := by decide +kernel
theorem dX5_addPoint_108 : decode cX5_addPoint 108 = .ok (.istore 9, 2) := by decide +kernel
theorem dX5_addPoint_110 : decode cX5_addPoint 110 = .ok (.iload 9, 2) := by decide +kernel
theorem dX5_addPoint_112 : decode cX5_addPoint 112 = .ok (.ifCond .eq 17, 3) := by decide +kernel
theorem dX5_addPoint_115 : decode cX5_addPoint 115 = .ok (.iload 7, 2) := by decide +kernel
theorem dX5_addPoint_117 : decode cX5_addPoint 117 = .ok (.ifCond .ne 8, 3) := by decide +kernel
theorem dX5_addPoint_120 : decode cX5_addPoint 120 = .ok (.iload 8, 2) := by decide +kernel
theorem dX5_addPoint_122 : decode cX5_addPoint 122 = .ok (.ifCond .eq 7, 3) := by decide +kernel
theorem dX5_addPoint_125 : decode cX5_addPoint 125 = .ok (.iconst 1, 1) := by decide +kernel
theorem dX5_addPoint_126 : decode cX5_addPoint 126 = .ok (.goto 4, 3) := by decide +kernel
theorem dX5_addPoint_129 : decode cX5_addPoint 129 = .ok (.iconst 0, 1) := by decide +kernel
theorem dX5_addPoint_130 : decode cX5_addPoint 130 = .ok (.istore 5, 2) := by decide +kernel
theorem dX5_addPoint_132 : decode cX5_addPoint 132 = .ok (.aload_n 0, 1) := by decide +kernel
theorem dX5_addPoint_133 : decode cX5_addPoint 133 = .ok (.iload 4, 2) := by decide +kernel
theorem dX5_addPoint_135 : decode cX5_addPoint 135 = .ok (.iload 5, 2) := by decide +kernel
theorem dX5_addPoint_137 : decode cX5_addPoint 137 = .ok (.iload 4, 2) := by decide +kernel
theorem dX5_addPoint_139 : decode cX5_addPoint 139 = .ok (.ifCond .eq 18, 3) := by decide +kernel
theorem dX5_addPoint_142 : decode cX5_addPoint 142 = .ok (.aload_n 0, 1) := by decide +kernel
theorem dX5_addPoint_143 : decode cX5_addPoint 143 = .ok (.getfield 25, 3) := by decide +kernel
theorem dX5_addPoint_146 : decode cX5_addPoint 146 = .ok (.iload_n 1, 1) := by decide +kernel
theorem dX5_addPoint_147 : decode cX5_addPoint 147 = .ok (.iaload, 1) := by decide +kernel
theorem dX5_addPoint_148 : decode cX5_addPoint 148 = .ok (.bipush 10, 2) := by decide +kernel
theorem dX5_addPoint_150 : decode cX5_addPoint 150 = .ok (.if_icmp .ge 7, 3) := by decide +kernel
theorem dX5_addPoint_153 : decode cX5_addPoint 153 = .ok (.iconst 1, 1) := by decide +kernel
theorem dX5_addPoint_154 : decode cX5_addPoint 154 = .ok (.goto 4, 3) := by decide +kernel
theorem dX5_addPoint_157 : decode cX5_addPoint 157 = .ok (.iconst 0, 1) := by decide +kernel
theorem dX5_addPoint_158 : decode cX5_addPoint 158 = .ok (.invokevirtual 104, 3) := by decide +kernel
theorem dX5_addPoint_161 : decode cX5_addPoint 161 = .ok (.ifCond .ne 5, 3) := by decide +kernel
theorem dX5_addPoint_164 : decode cX5_addPoint 164 = .ok (.iconst 0, 1) := by decide +kernel
theorem dX5_addPoint_165 : decode cX5_addPoint 165 = .ok (.ireturn, 1) := by decide +kernel
theorem dX5_addPoint_166 : decode cX5_addPoint 166 = .ok (.aload_n 0, 1) := by decide +kernel
theorem dX5_addPoint_167 : decode cX5_addPoint 167 = .ok (.getfield 22, 3) := by decide +kernel
theorem dX5_addPoint_170 : decode cX5_addPoint 170 = .ok (.bipush 10, 2) := by decide +kernel
theorem dX5_addPoint_172 : decode cX5_addPoint 172 = .ok (.iload_n 1, 1) := by decide +kernel
theorem dX5_addPoint_173 : decode cX5_addPoint 173 = .ok (.imul, 1) := by decide +kernel
theorem dX5_addPoint_174 : decode cX5_addPoint 174 = .ok (.aload_n 0, 1) := by decide +kernel
theorem dX5_addPoint_175 : decode cX5_addPoint 175 = .ok (.getfield 25, 3) := by decide +kernel
theorem dX5_addPoint_178 : decode cX5_addPoint 178 = .ok (.iload_n 1, 1) := by decide +kernel
theorem dX5_addPoint_179 : decode cX5_addPoint 179 = .ok (.iaload, 1) := by decide +kernel
theorem dX5_addPoint_180 : decode cX5_addPoint 180 = .ok (.iadd, 1) := by decide +kernel
theorem dX5_addPoint_181 : decode cX5_addPoint 181 = .ok (.bipush 12, 2) := by decide +kernel
theorem dX5_addPoint_183 : decode cX5_addPoint 183 = .ok (.iload_n 2, 1) := by decide +kernel
theorem dX5_addPoint_184 : decode cX5_addPoint 184 = .ok (.imul, 1) := by decide +kernel
theorem dX5_addPoint_185 : decode cX5_addPoint 185 = .ok (.iload_n 3, 1) := by decide +kernel
theorem dX5_addPoint_186 : decode cX5_addPoint 186 = .ok (.iadd, 1) := by decide +kernel
theorem dX5_addPoint_187 : decode cX5_addPoint 187 = .ok (.iastore, 1) := by decide +kernel
theorem dX5_addPoint_188 : decode cX5_addPoint 188 = .ok (.aload_n 0, 1) := by decide +kernel
theorem dX5_addPoint_189 : decode cX5_addPoint 189 = .ok (.getfield 25, 3) := by decide +kernel
theorem dX5_addPoint_192 : decode cX5_addPoint 192 = .ok (.iload_n 1, 1) := by decide +kernel
theorem dX5_addPoint_193 : decode cX5_addPoint 193 = .ok (.dup2, 1) := by decide +kernel
theorem dX5_addPoint_194 : decode cX5_addPoint 194 = .ok (.iaload, 1) := by decide +kernel
theorem dX5_addPoint_195 : decode cX5_addPoint 195 = .ok (.iconst 1, 1) := by decide +kernel
theorem dX5_addPoint_196 : decode cX5_addPoint 196 = .ok (.iadd, 1) := by decide +kernel
theorem dX5_addPoint_197 : decode cX5_addPoint 197 = .ok (.iastore, 1) := by decide +kernel
theorem dX5_addPoint_198 : decode cX5_addPoint 198 = .ok (.aload_n 0, 1) := by decide +kernel
theorem dX5_addPoint_199 : decode cX5_addPoint 199 = .ok (.iload_n 1, 1) := by decide +kernel
theorem dX5_addPoint_200 : decode cX5_addPoint 200 = .ok (.invokevirtual 108, 3) := by decide +kernel
theorem dX5_addPoint_203 : decode cX5_addPoint 203 = .ok (.ireturn, 1) := by decide +kernel
set_option maxRecDepth 20000 in
theorem ggX5_dropPoint_X5_isStreet : GoodIn wsX5_dropPoint wsX5_isStreet := goodIn_r _ [7, 8, 9, 10, 6, 11, 27, 28, 29, 30, 31, 32, 33, 34, 35, 36, 37, 38, 39, 40, 41, 42, 43] (by decide +kernel) (by decide +kernel)
set_option maxRecDepth 20000 in
theorem gX5_dropPoint_X5_isStreet : GoodIn wsX5_dropPoint (wsV RX5 97 RX5 yX5_isStreet wsX5_isStreet) := goodIn_app (goodIn_of _ (by decide +kernel)) ggX5_dropPoint_X5_isStreet
set_option maxRecDepth 20000 in
theorem ggX5_dropPoint_X5_tracked : GoodIn wsX5_dropPoint wsX5_tracked := goodIn_r _ [15, 16, 17, 18, 19, 6, 20, 21, 1, 22, 23, 24, 25, 26, 27, 28, 29, 30, 31, 32, 33, 34, 35, 36, 37, 38, 39, 40, 41, 42, 43] (by decide +kernel) (by decide +kernel)
set_option maxRecDepth 20000 in
theorem gX5_dropPoint_X5_tracked : GoodIn wsX5_dropPoint (wsV RX5 108 RX5 yX5_tracked wsX5_tracked) := goodIn_app (goodIn_of _ (by decide +kernel)) ggX5_dropPoint_X5_tracked
theorem dX5_dropPoint_0 : decode cX5_dropPoint 0 = .ok (.aload_n 0, 1) := by decide +kernel
theorem dX5_dropPoint_1 : decode cX5_dropPoint 1 = .ok (.iload_n 1, 1) := by decide +kernel
theorem dX5_dropPoint_2 : decode cX5_dropPoint 2 = .ok (.invokevirtual 97, 3) := by decide +kernel
theorem dX5_dropPoint_5 : decode cX5_dropPoint 5 = .ok (.istore_n 2, 1) := by decide +kernel
theorem dX5_dropPoint_6 : decode cX5_dropPoint 6 = .ok (.aload_n 0, 1) := by decide +kernel
theorem dX5_dropPoint_7 : decode cX5_dropPoint 7 = .ok (.iload_n 2, 1) := by decide +kernel
theorem dX5_dropPoint_8 : decode cX5_dropPoint 8 = .ok (.ifCond .ne 7, 3) := by decide +kernel
theorem dX5_dropPoint_11 : decode cX5_dropPoint 11 = .ok (.iconst 1, 1) := by decide +kernel
theorem dX5_dropPoint_12 : decode cX5_dropPoint 12 = .ok (.goto 17, 3) := by decide +kernel
theorem dX5_dropPoint_15 : decode cX5_dropPoint 15 = .ok (.aload_n 0, 1) := by decide +kernel
theorem dX5_dropPoint_16 : decode cX5_dropPoint 16 = .ok (.getfield 25, 3) := by decide +kernel
theorem dX5_dropPoint_19 : decode cX5_dropPoint 19 = .ok (.iload_n 1, 1) := by decide +kernel
theorem dX5_dropPoint_20 : decode cX5_dropPoint 20 = .ok (.iaload, 1) := by decide +kernel
theorem dX5_dropPoint_21 : decode cX5_dropPoint 21 = .ok (.ifCond .le 7, 3) := by decide +kernel
theorem dX5_dropPoint_24 : decode cX5_dropPoint 24 = .ok (.iconst 0, 1) := by decide +kernel
theorem dX5_dropPoint_25 : decode cX5_dropPoint 25 = .ok (.goto 4, 3) := by decide +kernel
theorem dX5_dropPoint_28 : decode cX5_dropPoint 28 = .ok (.iconst 2, 1) := by decide +kernel
theorem dX5_dropPoint_29 : decode cX5_dropPoint 29 = .ok (.putfield 54, 3) := by decide +kernel
theorem dX5_dropPoint_32 : decode cX5_dropPoint 32 = .ok (.aload_n 0, 1) := by decide +kernel
theorem dX5_dropPoint_33 : decode cX5_dropPoint 33 = .ok (.getfield 54, 3) := by decide +kernel
theorem dX5_dropPoint_36 : decode cX5_dropPoint 36 = .ok (.ifCond .le 5, 3) := by decide +kernel
theorem dX5_dropPoint_39 : decode cX5_dropPoint 39 = .ok (.iconst 0, 1) := by decide +kernel
theorem dX5_dropPoint_40 : decode cX5_dropPoint 40 = .ok (.ireturn, 1) := by decide +kernel
theorem dX5_dropPoint_41 : decode cX5_dropPoint 41 = .ok (.aload_n 0, 1) := by decide +kernel
theorem dX5_dropPoint_42 : decode cX5_dropPoint 42 = .ok (.getfield 25, 3) := by decide +kernel
theorem dX5_dropPoint_45 : decode cX5_dropPoint 45 = .ok (.iload_n 1, 1) := by decide +kernel
theorem dX5_dropPoint_46 : decode cX5_dropPoint 46 = .ok (.dup2, 1) := by decide +kernel
theorem dX5_dropPoint_47 : decode cX5_dropPoint 47 = .ok (.iaload, 1) := by decide +kernel
theorem dX5_dropPoint_48 : decode cX5_dropPoint 48 = .ok (.iconst 1, 1) := by decide +kernel
theorem dX5_dropPoint_49 : decode cX5_dropPoint 49 = .ok (.isub, 1) := by decide +kernel
theorem dX5_dropPoint_50 : decode cX5_dropPoint 50 = .ok (.iastore, 1) := by decide +kernel
theorem dX5_dropPoint_51 : decode cX5_dropPoint 51 = .ok (.aload_n 0, 1) := by decide +kernel
theorem dX5_dropPoint_52 : decode cX5_dropPoint 52 = .ok (.iload_n 1, 1) := by decide +kernel
theorem dX5_dropPoint_53 : decode cX5_dropPoint 53 = .ok (.invokevirtual 108, 3) := by decide +kernel
theorem dX5_dropPoint_56 : decode cX5_dropPoint 56 = .ok (.ireturn, 1) := by decide +kernel
set_option maxRecDepth 20000 in
theorem ggX5_setOneWay_X5_isStreet : GoodIn wsX5_setOneWay wsX5_isStreet := goodIn_r _ [6, 7, 8, 9, 5, 10, 16, 17, 18, 19, 20, 21, 22, 23, 24, 25, 26, 27, 28, 29, 30, 31, 32] (by decide +kernel) (by decide +kernel)
set_option maxRecDepth 20000 in
theorem gX5_setOneWay_X5_isStreet : GoodIn wsX5_setOneWay (wsV RX5 97 RX5 yX5_isStreet wsX5_isStreet) := goodIn_app (goodIn_of _ (by decide +kernel)) ggX5_setOneWay_X5_isStreet
set_option maxRecDepth 20000 in
theorem ggX5_setOneWay_X5_goes : GoodIn wsX5_setOneWay wsX5_goes := goodIn_r _ [14, 15, 16, 17, 18, 19, 20, 21, 22, 23, 24, 25, 26, 27, 28, 29, 30, 31, 32] (by decide +kernel) (by decide +kernel)
set_option maxRecDepth 20000 in
theorem gX5_setOneWay_X5_goes : GoodIn wsX5_setOneWay (wsV RX5 104 RX5 yX5_goes wsX5_goes) := goodIn_app (goodIn_of _ (by decide +kernel)) ggX5_setOneWay_X5_goes
theorem dX5_setOneWay_0 : decode cX5_setOneWay 0 = .ok (.aload_n 0, 1) := by decide +kernel
theorem dX5_setOneWay_1 : decode cX5_setOneWay 1 = .ok (.aload_n 0, 1) := by decide +kernel
theorem dX5_setOneWay_2 : decode cX5_setOneWay 2 = .ok (.iload_n 1, 1) := by decide +kernel
theorem dX5_setOneWay_3 : decode cX5_setOneWay 3 = .ok (.invokevirtual 97, 3) := by decide +kernel
theorem dX5_setOneWay_6 : decode cX5_setOneWay 6 = .ok (.iconst 1, 1) := by decide +kernel
theorem dX5_setOneWay_7 : decode cX5_setOneWay 7 = .ok (.iconst 1, 1) := by decide +kernel
theorem dX5_setOneWay_8 : decode cX5_setOneWay 8 = .ok (.invokevirtual 104, 3) := by decide +kernel
theorem dX5_setOneWay_11 : decode cX5_setOneWay 11 = .ok (.ifCond .ne 5, 3) := by decide +kernel
theorem dX5_setOneWay_14 : decode cX5_setOneWay 14 = .ok (.iconst 0, 1) := by decide +kernel
theorem dX5_setOneWay_15 : decode cX5_setOneWay 15 = .ok (.ireturn, 1) := by decide +kernel
theorem dX5_setOneWay_16 : decode cX5_setOneWay 16 = .ok (.aload_n 0, 1) := by decide +kernel
theorem dX5_setOneWay_17 : decode cX5_setOneWay 17 = .ok (.getfield 28, 3) := by decide +kernel
theorem dX5_setOneWay_20 : decode cX5_setOneWay 20 = .ok (.iload_n 1, 1) := by decide +kernel
theorem dX5_setOneWay_21 : decode cX5_setOneWay 21 = .ok (.baload, 1) := by decide +kernel
theorem dX5_setOneWay_22 : decode cX5_setOneWay 22 = .ok (.istore_n 3, 1) := by decide +kernel
theorem dX5_setOneWay_23 : decode cX5_setOneWay 23 = .ok (.aload_n 0, 1) := by decide +kernel
theorem dX5_setOneWay_24 : decode cX5_setOneWay 24 = .ok (.getfield 28, 3) := by decide +kernel
theorem dX5_setOneWay_27 : decode cX5_setOneWay 27 = .ok (.iload_n 1, 1) := by decide +kernel
theorem dX5_setOneWay_28 : decode cX5_setOneWay 28 = .ok (.iload_n 2, 1) := by decide +kernel
theorem dX5_setOneWay_29 : decode cX5_setOneWay 29 = .ok (.bastore, 1) := by decide +kernel
theorem dX5_setOneWay_30 : decode cX5_setOneWay 30 = .ok (.iload_n 3, 1) := by decide +kernel
theorem dX5_setOneWay_31 : decode cX5_setOneWay 31 = .ok (.ireturn, 1) := by decide +kernel
set_option maxRecDepth 20000 in
theorem ggX5_rename_X5_isStreet : GoodIn wsX5_rename wsX5_isStreet := goodIn_r _ [5, 6, 7, 8, 4, 9, 24, 25, 26, 27, 28, 29, 30, 31, 32, 33, 34, 35, 36, 37, 38, 39, 40] (by decide +kernel) (by decide +kernel)
set_option maxRecDepth 20000 in
theorem gX5_rename_X5_isStreet : GoodIn wsX5_rename (wsV RX5 97 RX5 yX5_isStreet wsX5_isStreet) := goodIn_app (goodIn_of _ (by decide +kernel)) ggX5_rename_X5_isStreet
set_option maxRecDepth 20000 in
theorem ggX5_rename_X5_isName : GoodIn wsX5_rename wsX5_isName := goodIn_r _ [12, 7, 8, 4, 9] (by decide +kernel) (by decide +kernel)
set_option maxRecDepth 20000 in
theorem gX5_rename_X5_isName : GoodIn wsX5_rename (va_wsS RX5 90 yX5_isName wsX5_isName) := goodIn_app (goodIn_of _ (by decide +kernel)) ggX5_rename_X5_isName
set_option maxRecDepth 20000 in
theorem ggX5_rename_X5_goes : GoodIn wsX5_rename wsX5_goes := goodIn_r _ [16, 17, 24, 25, 26, 27, 28, 29, 30, 31, 32, 33, 34, 35, 36, 37, 38, 39, 40] (by decide +kernel) (by decide +kernel)
set_option maxRecDepth 20000 in
theorem gX5_rename_X5_goes : GoodIn wsX5_rename (wsV RX5 104 RX5 yX5_goes wsX5_goes) := goodIn_app (goodIn_of _ (by decide +kernel)) ggX5_rename_X5_goes
set_option maxRecDepth 20000 in
theorem ggX5_rename_X5_gives : GoodIn wsX5_rename wsX5_gives := goodIn_r _ [21, 22, 23, 24, 25, 26, 27, 28, 29, 30, 31, 32, 33, 34, 35, 36, 37, 38, 39, 40] (by decide +kernel) (by decide +kernel)
set_option maxRecDepth 20000 in
theorem gX5_rename_X5_gives : GoodIn wsX5_rename (wsV RX5 93 RX5 yX5_gives wsX5_gives) := goodIn_app (goodIn_of _ (by decide +kernel)) ggX5_rename_X5_gives
theorem dX5_rename_0 : decode cX5_rename 0 = .ok (.aload_n 0, 1) := by decide +kernel
theorem dX5_rename_1 : decode cX5_rename 1 = .ok (.aload_n 0, 1) := by decide +kernel
theorem dX5_rename_2 : decode cX5_rename 2 = .ok (.iload_n 1, 1) := by decide +kernel
theorem dX5_rename_3 : decode cX5_rename 3 = .ok (.invokevirtual 97, 3) := by decide +kernel
theorem dX5_rename_6 : decode cX5_rename 6 = .ok (.iload_n 2, 1) := by decide +kernel
theorem dX5_rename_7 : decode cX5_rename 7 = .ok (.iload_n 3, 1) := by decide +kernel
theorem dX5_rename_8 : decode cX5_rename 8 = .ok (.invokestatic 90, 3) := by decide +kernel
theorem dX5_rename_11 : decode cX5_rename 11 = .ok (.iconst 1, 1) := by decide +kernel
theorem dX5_rename_12 : decode cX5_rename 12 = .ok (.invokevirtual 104, 3) := by decide +kernel
theorem dX5_rename_15 : decode cX5_rename 15 = .ok (.ifCond .eq 10, 3) := by decide +kernel
theorem dX5_rename_18 : decode cX5_rename 18 = .ok (.aload_n 0, 1) := by decide +kernel
theorem dX5_rename_19 : decode cX5_rename 19 = .ok (.iload_n 1, 1) := by decide +kernel
theorem dX5_rename_20 : decode cX5_rename 20 = .ok (.iload_n 2, 1) := by decide +kernel
theorem dX5_rename_21 : decode cX5_rename 21 = .ok (.iload_n 3, 1) := by decide +kernel
theorem dX5_rename_22 : decode cX5_rename 22 = .ok (.invokevirtual 93, 3) := by decide +kernel
theorem dX5_rename_25 : decode cX5_rename 25 = .ok (.return_, 1) := by decide +kernel
set_option maxRecDepth 20000 in
theorem ggX5_setKind_X5_in : GoodIn wsX5_setKind wsX5_in := goodIn_r _ [5] (by decide +kernel) (by decide +kernel)
set_option maxRecDepth 20000 in
theorem gX5_setKind_X5_in : GoodIn wsX5_setKind (va_wsS RX5 61 yX5_in wsX5_in) := goodIn_app (goodIn_of _ (by decide +kernel)) ggX5_setKind_X5_in
set_option maxRecDepth 20000 in
theorem ggX5_setKind_X5_goes : GoodIn wsX5_setKind wsX5_goes := goodIn_r _ [9, 10, 11, 12, 13, 14, 15, 16, 17, 18, 19, 20, 21, 22, 23, 24, 25, 26, 27] (by decide +kernel) (by decide +kernel)
set_option maxRecDepth 20000 in
theorem gX5_setKind_X5_goes : GoodIn wsX5_setKind (wsV RX5 104 RX5 yX5_goes wsX5_goes) := goodIn_app (goodIn_of _ (by decide +kernel)) ggX5_setKind_X5_goes
theorem dX5_setKind_0 : decode cX5_setKind 0 = .ok (.aload_n 0, 1) := by decide +kernel
theorem dX5_setKind_1 : decode cX5_setKind 1 = .ok (.iload_n 1, 1) := by decide +kernel
theorem dX5_setKind_2 : decode cX5_setKind 2 = .ok (.iconst 0, 1) := by decide +kernel
theorem dX5_setKind_3 : decode cX5_setKind 3 = .ok (.bipush 23, 2) := by decide +kernel
theorem dX5_setKind_5 : decode cX5_setKind 5 = .ok (.invokestatic 61, 3) := by decide +kernel
theorem dX5_setKind_8 : decode cX5_setKind 8 = .ok (.iload_n 2, 1) := by decide +kernel
theorem dX5_setKind_9 : decode cX5_setKind 9 = .ok (.iconst 0, 1) := by decide +kernel
theorem dX5_setKind_10 : decode cX5_setKind 10 = .ok (.iconst 2, 1) := by decide +kernel
theorem dX5_setKind_11 : decode cX5_setKind 11 = .ok (.invokestatic 61, 3) := by decide +kernel
theorem dX5_setKind_14 : decode cX5_setKind 14 = .ok (.iconst 1, 1) := by decide +kernel
theorem dX5_setKind_15 : decode cX5_setKind 15 = .ok (.invokevirtual 104, 3) := by decide +kernel
theorem dX5_setKind_18 : decode cX5_setKind 18 = .ok (.ifCond .ne 5, 3) := by decide +kernel
theorem dX5_setKind_21 : decode cX5_setKind 21 = .ok (.iconst 0, 1) := by decide +kernel
theorem dX5_setKind_22 : decode cX5_setKind 22 = .ok (.ireturn, 1) := by decide +kernel
theorem dX5_setKind_23 : decode cX5_setKind 23 = .ok (.aload_n 0, 1) := by decide +kernel
theorem dX5_setKind_24 : decode cX5_setKind 24 = .ok (.getfield 13, 3) := by decide +kernel
theorem dX5_setKind_27 : decode cX5_setKind 27 = .ok (.iload_n 1, 1) := by decide +kernel
theorem dX5_setKind_28 : decode cX5_setKind 28 = .ok (.iaload, 1) := by decide +kernel
theorem dX5_setKind_29 : decode cX5_setKind 29 = .ok (.istore_n 3, 1) := by decide +kernel
theorem dX5_setKind_30 : decode cX5_setKind 30 = .ok (.aload_n 0, 1) := by decide +kernel
theorem dX5_setKind_31 : decode cX5_setKind 31 = .ok (.getfield 13, 3) := by decide +kernel
theorem dX5_setKind_34 : decode cX5_setKind 34 = .ok (.iload_n 1, 1) := by decide +kernel
theorem dX5_setKind_35 : decode cX5_setKind 35 = .ok (.iload_n 2, 1) := by decide +kernel
theorem dX5_setKind_36 : decode cX5_setKind 36 = .ok (.iastore, 1) := by decide +kernel
theorem dX5_setKind_37 : decode cX5_setKind 37 = .ok (.iload_n 3, 1) := by decide +kernel
theorem dX5_setKind_38 : decode cX5_setKind 38 = .ok (.ireturn, 1) := by decide +kernel
theorem dX5_streets_0 : decode cX5_streets 0 = .ok (.aload_n 0, 1) := by decide +kernel
theorem dX5_streets_1 : decode cX5_streets 1 = .ok (.iconst 0, 1) := by decide +kernel
theorem dX5_streets_2 : decode cX5_streets 2 = .ok (.putfield 54, 3) := by decide +kernel
theorem dX5_streets_5 : decode cX5_streets 5 = .ok (.aload_n 0, 1) := by decide +kernel
theorem dX5_streets_6 : decode cX5_streets 6 = .ok (.getfield 58, 3) := by decide +kernel
theorem dX5_streets_9 : decode cX5_streets 9 = .ok (.ireturn, 1) := by decide +kernel
set_option maxRecDepth 20000 in
theorem ggX5_streetAt_X5_in : GoodIn wsX5_streetAt wsX5_in := goodIn_r _ [5] (by decide +kernel) (by decide +kernel)
set_option maxRecDepth 20000 in
theorem gX5_streetAt_X5_in : GoodIn wsX5_streetAt (va_wsS RX5 61 yX5_in wsX5_in) := goodIn_app (goodIn_of _ (by decide +kernel)) ggX5_streetAt_X5_in
set_option maxRecDepth 20000 in
theorem ggX5_streetAt_X5_goes : GoodIn wsX5_streetAt wsX5_goes := goodIn_r _ [9, 10, 37, 38, 39, 40, 41, 42, 43, 44, 45, 46, 47, 48, 49, 50, 51, 52, 53] (by decide +kernel) (by decide +kernel)
set_option maxRecDepth 20000 in
theorem gX5_streetAt_X5_goes : GoodIn wsX5_streetAt (wsV RX5 104 RX5 yX5_goes wsX5_goes) := goodIn_app (goodIn_of _ (by decide +kernel)) ggX5_streetAt_X5_goes
set_option maxRecDepth 20000 in
theorem ggX5_streetAt_X5_countAhead : GoodIn wsX5_streetAt wsX5_countAhead := goodIn_r _ [14, 1, 15, 16, 17, 4, 18, 19, 20, 21, 22, 23, 24, 25, 26, 27, 28, 29, 30, 31, 32, 33, 34, 35, 36, 37, 38, 39, 40, 41, 42, 43, 44, 45, 46, 47, 48, 49, 50, 51, 52, 53] (by decide +kernel) (by decide +kernel)
set_option maxRecDepth 20000 in
theorem gX5_streetAt_X5_countAhead : GoodIn wsX5_streetAt (wsV RX5 112 RX5 yX5_countAhead wsX5_countAhead) := goodIn_app (goodIn_of _ (by decide +kernel)) ggX5_streetAt_X5_countAhead
theorem dX5_streetAt_0 : decode cX5_streetAt 0 = .ok (.iconst 0, 1) := by decide +kernel
theorem dX5_streetAt_1 : decode cX5_streetAt 1 = .ok (.istore_n 2, 1) := by decide +kernel
theorem dX5_streetAt_2 : decode cX5_streetAt 2 = .ok (.aload_n 0, 1) := by decide +kernel
theorem dX5_streetAt_3 : decode cX5_streetAt 3 = .ok (.iload_n 1, 1) := by decide +kernel
theorem dX5_streetAt_4 : decode cX5_streetAt 4 = .ok (.iconst 0, 1) := by decide +kernel
theorem dX5_streetAt_5 : decode cX5_streetAt 5 = .ok (.aload_n 0, 1) := by decide +kernel
theorem dX5_streetAt_6 : decode cX5_streetAt 6 = .ok (.getfield 58, 3) := by decide +kernel
theorem dX5_streetAt_9 : decode cX5_streetAt 9 = .ok (.iconst 1, 1) := by decide +kernel
theorem dX5_streetAt_10 : decode cX5_streetAt 10 = .ok (.isub, 1) := by decide +kernel
theorem dX5_streetAt_11 : decode cX5_streetAt 11 = .ok (.invokestatic 61, 3) := by decide +kernel
theorem dX5_streetAt_14 : decode cX5_streetAt 14 = .ok (.iconst 1, 1) := by decide +kernel
theorem dX5_streetAt_15 : decode cX5_streetAt 15 = .ok (.iconst 1, 1) := by decide +kernel
theorem dX5_streetAt_16 : decode cX5_streetAt 16 = .ok (.invokevirtual 104, 3) := by decide +kernel
theorem dX5_streetAt_19 : decode cX5_streetAt 19 = .ok (.ifCond .eq 18, 3) := by decide +kernel
theorem dX5_streetAt_22 : decode cX5_streetAt 22 = .ok (.aload_n 0, 1) := by decide +kernel
theorem dX5_streetAt_23 : decode cX5_streetAt 23 = .ok (.iload_n 2, 1) := by decide +kernel
theorem dX5_streetAt_24 : decode cX5_streetAt 24 = .ok (.invokevirtual 112, 3) := by decide +kernel
theorem dX5_streetAt_27 : decode cX5_streetAt 27 = .ok (.iload_n 1, 1) := by decide +kernel
theorem dX5_streetAt_28 : decode cX5_streetAt 28 = .ok (.if_icmp .eq 9, 3) := by decide +kernel
theorem dX5_streetAt_31 : decode cX5_streetAt 31 = .ok (.iinc 2 1, 3) := by decide +kernel
theorem dX5_streetAt_34 : decode cX5_streetAt 34 = .ok (.goto (-12), 3) := by decide +kernel
theorem dX5_streetAt_37 : decode cX5_streetAt 37 = .ok (.iload_n 2, 1) := by decide +kernel
theorem dX5_streetAt_38 : decode cX5_streetAt 38 = .ok (.ireturn, 1) := by decide +kernel
set_option maxRecDepth 20000 in
theorem ggX5_placeOf_X5_isStreet : GoodIn wsX5_placeOf wsX5_isStreet := goodIn_r _ [5, 6, 7, 8, 4, 9, 41, 42, 43, 44, 45, 46, 47, 48, 49, 50, 51, 52, 53, 54, 55, 56, 57] (by decide +kernel) (by decide +kernel)
set_option maxRecDepth 20000 in
theorem gX5_placeOf_X5_isStreet : GoodIn wsX5_placeOf (wsV RX5 97 RX5 yX5_isStreet wsX5_isStreet) := goodIn_app (goodIn_of _ (by decide +kernel)) ggX5_placeOf_X5_isStreet
set_option maxRecDepth 20000 in
theorem ggX5_placeOf_X5_goes : GoodIn wsX5_placeOf wsX5_goes := goodIn_r _ [13, 14, 41, 42, 43, 44, 45, 46, 47, 48, 49, 50, 51, 52, 53, 54, 55, 56, 57] (by decide +kernel) (by decide +kernel)
set_option maxRecDepth 20000 in
theorem gX5_placeOf_X5_goes : GoodIn wsX5_placeOf (wsV RX5 104 RX5 yX5_goes wsX5_goes) := goodIn_app (goodIn_of _ (by decide +kernel)) ggX5_placeOf_X5_goes
set_option maxRecDepth 20000 in
theorem ggX5_placeOf_X5_countAhead : GoodIn wsX5_placeOf wsX5_countAhead := goodIn_r _ [18, 6, 19, 20, 21, 4, 22, 23, 24, 25, 26, 27, 28, 29, 30, 31, 32, 33, 34, 35, 36, 37, 38, 39, 40, 41, 42, 43, 44, 45, 46, 47, 48, 49, 50, 51, 52, 53, 54, 55, 56, 57] (by decide +kernel) (by decide +kernel)
set_option maxRecDepth 20000 in
theorem gX5_placeOf_X5_countAhead : GoodIn wsX5_placeOf (wsV RX5 112 RX5 yX5_countAhead wsX5_countAhead) := goodIn_app (goodIn_of _ (by decide +kernel)) ggX5_placeOf_X5_countAhead
theorem dX5_placeOf_0 : decode cX5_placeOf 0 = .ok (.aload_n 0, 1) := by decide +kernel
theorem dX5_placeOf_1 : decode cX5_placeOf 1 = .ok (.aload_n 0, 1) := by decide +kernel
theorem dX5_placeOf_2 : decode cX5_placeOf 2 = .ok (.iload_n 1, 1) := by decide +kernel
theorem dX5_placeOf_3 : decode cX5_placeOf 3 = .ok (.invokevirtual 97, 3) := by decide +kernel
theorem dX5_placeOf_6 : decode cX5_placeOf 6 = .ok (.iconst 1, 1) := by decide +kernel
theorem dX5_placeOf_7 : decode cX5_placeOf 7 = .ok (.iconst 1, 1) := by decide +kernel
theorem dX5_placeOf_8 : decode cX5_placeOf 8 = .ok (.invokevirtual 104, 3) := by decide +kernel
theorem dX5_placeOf_11 : decode cX5_placeOf 11 = .ok (.ifCond .eq 11, 3) := by decide +kernel
theorem dX5_placeOf_14 : decode cX5_placeOf 14 = .ok (.aload_n 0, 1) := by decide +kernel
theorem dX5_placeOf_15 : decode cX5_placeOf 15 = .ok (.iload_n 1, 1) := by decide +kernel
theorem dX5_placeOf_16 : decode cX5_placeOf 16 = .ok (.invokevirtual 112, 3) := by decide +kernel
theorem dX5_placeOf_19 : decode cX5_placeOf 19 = .ok (.goto 4, 3) := by decide +kernel
theorem dX5_placeOf_22 : decode cX5_placeOf 22 = .ok (.iconst 0, 1) := by decide +kernel
theorem dX5_placeOf_23 : decode cX5_placeOf 23 = .ok (.ireturn, 1) := by decide +kernel
set_option maxRecDepth 20000 in
theorem ggX5_compareKeys_X5_isStreet : GoodIn wsX5_compareKeys wsX5_isStreet := goodIn_r _ [5, 6, 7, 8, 4, 9, 33, 34, 35, 36, 37, 38, 39, 40, 41, 42, 43, 44, 45, 46, 47, 48, 49] (by decide +kernel) (by decide +kernel)
set_option maxRecDepth 20000 in
theorem gX5_compareKeys_X5_isStreet : GoodIn wsX5_compareKeys (wsV RX5 97 RX5 yX5_isStreet wsX5_isStreet) := goodIn_app (goodIn_of _ (by decide +kernel)) ggX5_compareKeys_X5_isStreet
set_option maxRecDepth 20000 in
theorem ggX5_compareKeys_X5_goes : GoodIn wsX5_compareKeys wsX5_goes := goodIn_r _ [13, 14, 33, 34, 35, 36, 37, 38, 39, 40, 41, 42, 43, 44, 45, 46, 47, 48, 49] (by decide +kernel) (by decide +kernel)
set_option maxRecDepth 20000 in
theorem gX5_compareKeys_X5_goes : GoodIn wsX5_compareKeys (wsV RX5 104 RX5 yX5_goes wsX5_goes) := goodIn_app (goodIn_of _ (by decide +kernel)) ggX5_compareKeys_X5_goes
set_option maxRecDepth 20000 in
theorem ggX5_compareKeys_X5_compareOf : GoodIn wsX5_compareKeys wsX5_compareOf := goodIn_r _ [18, 19, 20, 21, 22, 23, 4, 24, 25, 26, 27, 28, 29, 30, 31, 32, 33, 34, 35, 36, 37, 38, 39, 40, 41, 42, 43, 44, 45, 46, 47, 48, 49] (by decide +kernel) (by decide +kernel)
set_option maxRecDepth 20000 in
theorem gX5_compareKeys_X5_compareOf : GoodIn wsX5_compareKeys (wsV RX5 73 RX5 yX5_compareOf wsX5_compareOf) := goodIn_app (goodIn_of _ (by decide +kernel)) ggX5_compareKeys_X5_compareOf
theorem dX5_compareKeys_0 : decode cX5_compareKeys 0 = .ok (.aload_n 0, 1) := by decide +kernel
theorem dX5_compareKeys_1 : decode cX5_compareKeys 1 = .ok (.aload_n 0, 1) := by decide +kernel
theorem dX5_compareKeys_2 : decode cX5_compareKeys 2 = .ok (.iload_n 1, 1) := by decide +kernel
theorem dX5_compareKeys_3 : decode cX5_compareKeys 3 = .ok (.invokevirtual 97, 3) := by decide +kernel
theorem dX5_compareKeys_6 : decode cX5_compareKeys 6 = .ok (.ifCond .eq 15, 3) := by decide +kernel
theorem dX5_compareKeys_9 : decode cX5_compareKeys 9 = .ok (.aload_n 0, 1) := by decide +kernel
theorem dX5_compareKeys_10 : decode cX5_compareKeys 10 = .ok (.iload_n 2, 1) := by decide +kernel
theorem dX5_compareKeys_11 : decode cX5_compareKeys 11 = .ok (.invokevirtual 97, 3) := by decide +kernel
theorem dX5_compareKeys_14 : decode cX5_compareKeys 14 = .ok (.ifCond .eq 7, 3) := by decide +kernel
theorem dX5_compareKeys_17 : decode cX5_compareKeys 17 = .ok (.iconst 1, 1) := by decide +kernel
theorem dX5_compareKeys_18 : decode cX5_compareKeys 18 = .ok (.goto 4, 3) := by decide +kernel
theorem dX5_compareKeys_21 : decode cX5_compareKeys 21 = .ok (.iconst 0, 1) := by decide +kernel
theorem dX5_compareKeys_22 : decode cX5_compareKeys 22 = .ok (.iconst 1, 1) := by decide +kernel
theorem dX5_compareKeys_23 : decode cX5_compareKeys 23 = .ok (.iconst 1, 1) := by decide +kernel
theorem dX5_compareKeys_24 : decode cX5_compareKeys 24 = .ok (.invokevirtual 104, 3) := by decide +kernel
theorem dX5_compareKeys_27 : decode cX5_compareKeys 27 = .ok (.ifCond .eq 12, 3) := by decide +kernel
theorem dX5_compareKeys_30 : decode cX5_compareKeys 30 = .ok (.aload_n 0, 1) := by decide +kernel
theorem dX5_compareKeys_31 : decode cX5_compareKeys 31 = .ok (.iload_n 1, 1) := by decide +kernel
theorem dX5_compareKeys_32 : decode cX5_compareKeys 32 = .ok (.iload_n 2, 1) := by decide +kernel
theorem dX5_compareKeys_33 : decode cX5_compareKeys 33 = .ok (.invokevirtual 73, 3) := by decide +kernel
theorem dX5_compareKeys_36 : decode cX5_compareKeys 36 = .ok (.goto 4, 3) := by decide +kernel
theorem dX5_compareKeys_39 : decode cX5_compareKeys 39 = .ok (.iconst 0, 1) := by decide +kernel
theorem dX5_compareKeys_40 : decode cX5_compareKeys 40 = .ok (.ireturn, 1) := by decide +kernel
theorem dX5_sign_0 : decode cX5_sign 0 = .ok (.aload_n 0, 1) := by decide +kernel
theorem dX5_sign_1 : decode cX5_sign 1 = .ok (.getfield 44, 3) := by decide +kernel
theorem dX5_sign_4 : decode cX5_sign 4 = .ok (.aload_n 0, 1) := by decide +kernel
theorem dX5_sign_5 : decode cX5_sign 5 = .ok (.getfield 115, 3) := by decide +kernel
theorem dX5_sign_8 : decode cX5_sign 8 = .ok (.iload_n 1, 1) := by decide +kernel
theorem dX5_sign_9 : decode cX5_sign 9 = .ok (.iastore, 1) := by decide +kernel
theorem dX5_sign_10 : decode cX5_sign 10 = .ok (.aload_n 0, 1) := by decide +kernel
theorem dX5_sign_11 : decode cX5_sign 11 = .ok (.dup, 1) := by decide +kernel
theorem dX5_sign_12 : decode cX5_sign 12 = .ok (.getfield 115, 3) := by decide +kernel
theorem dX5_sign_15 : decode cX5_sign 15 = .ok (.iconst 1, 1) := by decide +kernel
theorem dX5_sign_16 : decode cX5_sign 16 = .ok (.iadd, 1) := by decide +kernel
theorem dX5_sign_17 : decode cX5_sign 17 = .ok (.putfield 115, 3) := by decide +kernel
theorem dX5_sign_20 : decode cX5_sign 20 = .ok (.return_, 1) := by decide +kernel
set_option maxRecDepth 20000 in
theorem ggX5_writes_X5_sign : GoodIn wsX5_writes wsX5_sign := goodIn_r _ [9, 10, 11, 12, 13, 14, 15, 16, 17, 18, 19, 20, 21, 22, 23, 24, 25, 26, 27, 28] (by decide +kernel) (by decide +kernel)
set_option maxRecDepth 20000 in
theorem gX5_writes_X5_sign : GoodIn wsX5_writes (wsV RX5 118 RX5 yX5_sign wsX5_sign) := goodIn_app (goodIn_of _ (by decide +kernel)) ggX5_writes_X5_sign
theorem dX5_writes_0 : decode cX5_writes 0 = .ok (.iconst 0, 1) := by decide +kernel
theorem dX5_writes_1 : decode cX5_writes 1 = .ok (.istore 4, 2) := by decide +kernel
theorem dX5_writes_3 : decode cX5_writes 3 = .ok (.iconst 0, 1) := by decide +kernel
theorem dX5_writes_4 : decode cX5_writes 4 = .ok (.istore 5, 2) := by decide +kernel
theorem dX5_writes_6 : decode cX5_writes 6 = .ok (.iload 5, 2) := by decide +kernel
theorem dX5_writes_8 : decode cX5_writes 8 = .ok (.aload_n 0, 1) := by decide +kernel
theorem dX5_writes_9 : decode cX5_writes 9 = .ok (.getfield 19, 3) := by decide +kernel
theorem dX5_writes_12 : decode cX5_writes 12 = .ok (.iload_n 1, 1) := by decide +kernel
theorem dX5_writes_13 : decode cX5_writes 13 = .ok (.iaload, 1) := by decide +kernel
theorem dX5_writes_14 : decode cX5_writes 14 = .ok (.if_icmp .ge 102, 3) := by decide +kernel
theorem dX5_writes_17 : decode cX5_writes 17 = .ok (.aload_n 0, 1) := by decide +kernel
theorem dX5_writes_18 : decode cX5_writes 18 = .ok (.getfield 16, 3) := by decide +kernel
theorem dX5_writes_21 : decode cX5_writes 21 = .ok (.iconst 4, 1) := by decide +kernel
theorem dX5_writes_22 : decode cX5_writes 22 = .ok (.iload_n 1, 1) := by decide +kernel
theorem dX5_writes_23 : decode cX5_writes 23 = .ok (.imul, 1) := by decide +kernel
theorem dX5_writes_24 : decode cX5_writes 24 = .ok (.iload 5, 2) := by decide +kernel
theorem dX5_writes_26 : decode cX5_writes 26 = .ok (.iadd, 1) := by decide +kernel
theorem dX5_writes_27 : decode cX5_writes 27 = .ok (.iaload, 1) := by decide +kernel
theorem dX5_writes_28 : decode cX5_writes 28 = .ok (.istore 6, 2) := by decide +kernel
theorem dX5_writes_30 : decode cX5_writes 30 = .ok (.iload_n 3, 1) := by decide +kernel
theorem dX5_writes_31 : decode cX5_writes 31 = .ok (.ifCond .ne 23, 3) := by decide +kernel
theorem dX5_writes_34 : decode cX5_writes 34 = .ok (.aload_n 0, 1) := by decide +kernel
theorem dX5_writes_35 : decode cX5_writes 35 = .ok (.getfield 13, 3) := by decide +kernel
theorem dX5_writes_38 : decode cX5_writes 38 = .ok (.iload 6, 2) := by decide +kernel
theorem dX5_writes_40 : decode cX5_writes 40 = .ok (.iaload, 1) := by decide +kernel
theorem dX5_writes_41 : decode cX5_writes 41 = .ok (.iconst 2, 1) := by decide +kernel
theorem dX5_writes_42 : decode cX5_writes 42 = .ok (.if_icmp .ne 7, 3) := by decide +kernel
theorem dX5_writes_45 : decode cX5_writes 45 = .ok (.iconst 1, 1) := by decide +kernel
theorem dX5_writes_46 : decode cX5_writes 46 = .ok (.goto 4, 3) := by decide +kernel
theorem dX5_writes_49 : decode cX5_writes 49 = .ok (.iconst 0, 1) := by decide +kernel
theorem dX5_writes_50 : decode cX5_writes 50 = .ok (.iload_n 2, 1) := by decide +kernel
theorem dX5_writes_51 : decode cX5_writes 51 = .ok (.if_icmp .ne 59, 3) := by decide +kernel
theorem dX5_writes_54 : decode cX5_writes 54 = .ok (.iload 4, 2) := by decide +kernel
theorem dX5_writes_56 : decode cX5_writes 56 = .ok (.ifCond .le 9, 3) := by decide +kernel
theorem dX5_writes_59 : decode cX5_writes 59 = .ok (.aload_n 0, 1) := by decide +kernel
theorem dX5_writes_60 : decode cX5_writes 60 = .ok (.bipush 32, 2) := by decide +kernel
theorem dX5_writes_62 : decode cX5_writes 62 = .ok (.invokevirtual 118, 3) := by decide +kernel
theorem dX5_writes_65 : decode cX5_writes 65 = .ok (.iconst 0, 1) := by decide +kernel
theorem dX5_writes_66 : decode cX5_writes 66 = .ok (.istore 7, 2) := by decide +kernel
theorem dX5_writes_68 : decode cX5_writes 68 = .ok (.aload_n 0, 1) := by decide +kernel
theorem dX5_writes_69 : decode cX5_writes 69 = .ok (.getfield 7, 3) := by decide +kernel
theorem dX5_writes_72 : decode cX5_writes 72 = .ok (.bipush 8, 2) := by decide +kernel
theorem dX5_writes_74 : decode cX5_writes 74 = .ok (.iload 6, 2) := by decide +kernel
theorem dX5_writes_76 : decode cX5_writes 76 = .ok (.imul, 1) := by decide +kernel
theorem dX5_writes_77 : decode cX5_writes 77 = .ok (.iload 7, 2) := by decide +kernel
theorem dX5_writes_79 : decode cX5_writes 79 = .ok (.iadd, 1) := by decide +kernel
theorem dX5_writes_80 : decode cX5_writes 80 = .ok (.iaload, 1) := by decide +kernel
theorem dX5_writes_81 : decode cX5_writes 81 = .ok (.ifCond .le 26, 3) := by decide +kernel
theorem dX5_writes_84 : decode cX5_writes 84 = .ok (.aload_n 0, 1) := by decide +kernel
theorem dX5_writes_85 : decode cX5_writes 85 = .ok (.aload_n 0, 1) := by decide +kernel
theorem dX5_writes_86 : decode cX5_writes 86 = .ok (.getfield 7, 3) := by decide +kernel
theorem dX5_writes_89 : decode cX5_writes 89 = .ok (.bipush 8, 2) := by decide +kernel
theorem dX5_writes_91 : decode cX5_writes 91 = .ok (.iload 6, 2) := by decide +kernel
theorem dX5_writes_93 : decode cX5_writes 93 = .ok (.imul, 1) := by decide +kernel
theorem dX5_writes_94 : decode cX5_writes 94 = .ok (.iload 7, 2) := by decide +kernel
theorem dX5_writes_96 : decode cX5_writes 96 = .ok (.iadd, 1) := by decide +kernel
theorem dX5_writes_97 : decode cX5_writes 97 = .ok (.iaload, 1) := by decide +kernel
theorem dX5_writes_98 : decode cX5_writes 98 = .ok (.invokevirtual 118, 3) := by decide +kernel
theorem dX5_writes_101 : decode cX5_writes 101 = .ok (.iinc 7 1, 3) := by decide +kernel
theorem dX5_writes_104 : decode cX5_writes 104 = .ok (.goto (-36), 3) := by decide +kernel
theorem dX5_writes_107 : decode cX5_writes 107 = .ok (.iinc 4 1, 3) := by decide +kernel
theorem dX5_writes_110 : decode cX5_writes 110 = .ok (.iinc 5 1, 3) := by decide +kernel
theorem dX5_writes_113 : decode cX5_writes 113 = .ok (.goto (-107), 3) := by decide +kernel
theorem dX5_writes_116 : decode cX5_writes 116 = .ok (.return_, 1) := by decide +kernel
set_option maxRecDepth 20000 in
theorem ggX5_number_X5_sign : GoodIn wsX5_number wsX5_sign := goodIn_r _ [5, 6, 7, 8, 9, 10, 11, 12, 13, 14, 15, 16, 17, 18, 19, 20, 21, 22, 23, 24] (by decide +kernel) (by decide +kernel)
set_option maxRecDepth 20000 in
theorem gX5_number_X5_sign : GoodIn wsX5_number (wsV RX5 118 RX5 yX5_sign wsX5_sign) := goodIn_app (goodIn_of _ (by decide +kernel)) ggX5_number_X5_sign
theorem dX5_number_0 : decode cX5_number 0 = .ok (.iload_n 1, 1) := by decide +kernel
theorem dX5_number_1 : decode cX5_number 1 = .ok (.bipush 9, 2) := by decide +kernel
theorem dX5_number_3 : decode cX5_number 3 = .ok (.if_icmp .le 14, 3) := by decide +kernel
theorem dX5_number_6 : decode cX5_number 6 = .ok (.aload_n 0, 1) := by decide +kernel
theorem dX5_number_7 : decode cX5_number 7 = .ok (.bipush 48, 2) := by decide +kernel
theorem dX5_number_9 : decode cX5_number 9 = .ok (.iload_n 1, 1) := by decide +kernel
theorem dX5_number_10 : decode cX5_number 10 = .ok (.bipush 10, 2) := by decide +kernel
theorem dX5_number_12 : decode cX5_number 12 = .ok (.idiv, 1) := by decide +kernel
theorem dX5_number_13 : decode cX5_number 13 = .ok (.iadd, 1) := by decide +kernel
theorem dX5_number_14 : decode cX5_number 14 = .ok (.invokevirtual 118, 3) := by decide +kernel
theorem dX5_number_17 : decode cX5_number 17 = .ok (.aload_n 0, 1) := by decide +kernel
theorem dX5_number_18 : decode cX5_number 18 = .ok (.bipush 48, 2) := by decide +kernel
theorem dX5_number_20 : decode cX5_number 20 = .ok (.iload_n 1, 1) := by decide +kernel
theorem dX5_number_21 : decode cX5_number 21 = .ok (.bipush 10, 2) := by decide +kernel
theorem dX5_number_23 : decode cX5_number 23 = .ok (.irem, 1) := by decide +kernel
theorem dX5_number_24 : decode cX5_number 24 = .ok (.iadd, 1) := by decide +kernel
theorem dX5_number_25 : decode cX5_number 25 = .ok (.invokevirtual 118, 3) := by decide +kernel
theorem dX5_number_28 : decode cX5_number 28 = .ok (.return_, 1) := by decide +kernel
set_option maxRecDepth 20000 in
theorem ggX5_writeLine_X5_writes : GoodIn wsX5_writeLine wsX5_writes := goodIn_r _ [11, 2, 4, 3, 12, 13, 14, 15, 10, 16, 17, 1, 36, 37, 38, 39, 40, 41, 42, 43, 44, 45, 46, 47, 48, 49, 50, 51, 52] (by decide +kernel) (by decide +kernel)
set_option maxRecDepth 20000 in
theorem gX5_writeLine_X5_writes : GoodIn wsX5_writeLine (wsV RX5 121 RX5 yX5_writes wsX5_writes) := goodIn_app (goodIn_of _ (by decide +kernel)) ggX5_writeLine_X5_writes
set_option maxRecDepth 20000 in
theorem ggX5_writeLine_X5_sign : GoodIn wsX5_writeLine wsX5_sign := goodIn_r _ [16, 17, 1, 36, 37, 38, 39, 40, 41, 42, 43, 44, 45, 46, 47, 48, 49, 50, 51, 52] (by decide +kernel) (by decide +kernel)
set_option maxRecDepth 20000 in
theorem gX5_writeLine_X5_sign : GoodIn wsX5_writeLine (wsV RX5 118 RX5 yX5_sign wsX5_sign) := goodIn_app (goodIn_of _ (by decide +kernel)) ggX5_writeLine_X5_sign
set_option maxRecDepth 20000 in
theorem ggX5_writeLine_X5_tracks : GoodIn wsX5_writeLine wsX5_tracks := goodIn_r _ [21, 5, 6, 22, 23, 24, 25, 26, 10, 27, 36, 37, 38, 39, 40, 41, 42, 43, 44, 45, 46, 47, 48, 49, 50, 51, 52] (by decide +kernel) (by decide +kernel)
set_option maxRecDepth 20000 in
theorem gX5_writeLine_X5_tracks : GoodIn wsX5_writeLine (wsV RX5 86 RX5 yX5_tracks wsX5_tracks) := goodIn_app (goodIn_of _ (by decide +kernel)) ggX5_writeLine_X5_tracks
set_option maxRecDepth 20000 in
theorem ggX5_writeLine_X5_beginsRun : GoodIn wsX5_writeLine wsX5_beginsRun := goodIn_r _ [31, 6, 36, 37, 38, 39, 40, 41, 42, 43, 44, 45, 46, 47, 48, 49, 50, 51, 52] (by decide +kernel) (by decide +kernel)
set_option maxRecDepth 20000 in
theorem gX5_writeLine_X5_beginsRun : GoodIn wsX5_writeLine (wsV RX5 125 RX5 yX5_beginsRun wsX5_beginsRun) := goodIn_app (goodIn_of _ (by decide +kernel)) ggX5_writeLine_X5_beginsRun
set_option maxRecDepth 20000 in
theorem ggX5_writeLine_X5_number : GoodIn wsX5_writeLine wsX5_number := goodIn_r _ [35, 13, 14, 15, 10, 16, 17, 1, 36, 37, 38, 39, 40, 41, 42, 43, 44, 45, 46, 47, 48, 49, 50, 51, 52] (by decide +kernel) (by decide +kernel)
set_option maxRecDepth 20000 in
theorem gX5_writeLine_X5_number : GoodIn wsX5_writeLine (wsV RX5 128 RX5 yX5_number wsX5_number) := goodIn_app (goodIn_of _ (by decide +kernel)) ggX5_writeLine_X5_number
theorem dX5_writeLine_0 : decode cX5_writeLine 0 = .ok (.aload_n 0, 1) := by decide +kernel
theorem dX5_writeLine_1 : decode cX5_writeLine 1 = .ok (.iconst 0, 1) := by decide +kernel
theorem dX5_writeLine_2 : decode cX5_writeLine 2 = .ok (.putfield 115, 3) := by decide +kernel
theorem dX5_writeLine_5 : decode cX5_writeLine 5 = .ok (.iconst 0, 1) := by decide +kernel
theorem dX5_writeLine_6 : decode cX5_writeLine 6 = .ok (.istore_n 2, 1) := by decide +kernel
theorem dX5_writeLine_7 : decode cX5_writeLine 7 = .ok (.iconst 0, 1) := by decide +kernel
theorem dX5_writeLine_8 : decode cX5_writeLine 8 = .ok (.istore_n 3, 1) := by decide +kernel
theorem dX5_writeLine_9 : decode cX5_writeLine 9 = .ok (.iload_n 3, 1) := by decide +kernel
theorem dX5_writeLine_10 : decode cX5_writeLine 10 = .ok (.aload_n 0, 1) := by decide +kernel
theorem dX5_writeLine_11 : decode cX5_writeLine 11 = .ok (.getfield 19, 3) := by decide +kernel
theorem dX5_writeLine_14 : decode cX5_writeLine 14 = .ok (.iload_n 1, 1) := by decide +kernel
theorem dX5_writeLine_15 : decode cX5_writeLine 15 = .ok (.iaload, 1) := by decide +kernel
theorem dX5_writeLine_16 : decode cX5_writeLine 16 = .ok (.if_icmp .ge 36, 3) := by decide +kernel
theorem dX5_writeLine_19 : decode cX5_writeLine 19 = .ok (.iload_n 2, 1) := by decide +kernel
theorem dX5_writeLine_20 : decode cX5_writeLine 20 = .ok (.aload_n 0, 1) := by decide +kernel
theorem dX5_writeLine_21 : decode cX5_writeLine 21 = .ok (.getfield 13, 3) := by decide +kernel
theorem dX5_writeLine_24 : decode cX5_writeLine 24 = .ok (.aload_n 0, 1) := by decide +kernel
theorem dX5_writeLine_25 : decode cX5_writeLine 25 = .ok (.getfield 16, 3) := by decide +kernel
theorem dX5_writeLine_28 : decode cX5_writeLine 28 = .ok (.iconst 4, 1) := by decide +kernel
theorem dX5_writeLine_29 : decode cX5_writeLine 29 = .ok (.iload_n 1, 1) := by decide +kernel
theorem dX5_writeLine_30 : decode cX5_writeLine 30 = .ok (.imul, 1) := by decide +kernel
theorem dX5_writeLine_31 : decode cX5_writeLine 31 = .ok (.iload_n 3, 1) := by decide +kernel
theorem dX5_writeLine_32 : decode cX5_writeLine 32 = .ok (.iadd, 1) := by decide +kernel
theorem dX5_writeLine_33 : decode cX5_writeLine 33 = .ok (.iaload, 1) := by decide +kernel
theorem dX5_writeLine_34 : decode cX5_writeLine 34 = .ok (.iaload, 1) := by decide +kernel
theorem dX5_writeLine_35 : decode cX5_writeLine 35 = .ok (.iconst 2, 1) := by decide +kernel
theorem dX5_writeLine_36 : decode cX5_writeLine 36 = .ok (.if_icmp .ne 7, 3) := by decide +kernel
theorem dX5_writeLine_39 : decode cX5_writeLine 39 = .ok (.iconst 1, 1) := by decide +kernel
theorem dX5_writeLine_40 : decode cX5_writeLine 40 = .ok (.goto 4, 3) := by decide +kernel
theorem dX5_writeLine_43 : decode cX5_writeLine 43 = .ok (.iconst 0, 1) := by decide +kernel
theorem dX5_writeLine_44 : decode cX5_writeLine 44 = .ok (.iadd, 1) := by decide +kernel
theorem dX5_writeLine_45 : decode cX5_writeLine 45 = .ok (.istore_n 2, 1) := by decide +kernel
theorem dX5_writeLine_46 : decode cX5_writeLine 46 = .ok (.iinc 3 1, 3) := by decide +kernel
theorem dX5_writeLine_49 : decode cX5_writeLine 49 = .ok (.goto (-40), 3) := by decide +kernel
theorem dX5_writeLine_52 : decode cX5_writeLine 52 = .ok (.iload_n 2, 1) := by decide +kernel
theorem dX5_writeLine_53 : decode cX5_writeLine 53 = .ok (.ifCond .eq 13, 3) := by decide +kernel
theorem dX5_writeLine_56 : decode cX5_writeLine 56 = .ok (.iload_n 2, 1) := by decide +kernel
theorem dX5_writeLine_57 : decode cX5_writeLine 57 = .ok (.aload_n 0, 1) := by decide +kernel
theorem dX5_writeLine_58 : decode cX5_writeLine 58 = .ok (.getfield 19, 3) := by decide +kernel
theorem dX5_writeLine_61 : decode cX5_writeLine 61 = .ok (.iload_n 1, 1) := by decide +kernel
theorem dX5_writeLine_62 : decode cX5_writeLine 62 = .ok (.iaload, 1) := by decide +kernel
theorem dX5_writeLine_63 : decode cX5_writeLine 63 = .ok (.if_icmp .ne 7, 3) := by decide +kernel
theorem dX5_writeLine_66 : decode cX5_writeLine 66 = .ok (.iconst 1, 1) := by decide +kernel
theorem dX5_writeLine_67 : decode cX5_writeLine 67 = .ok (.goto 4, 3) := by decide +kernel
theorem dX5_writeLine_70 : decode cX5_writeLine 70 = .ok (.iconst 0, 1) := by decide +kernel
theorem dX5_writeLine_71 : decode cX5_writeLine 71 = .ok (.istore_n 3, 1) := by decide +kernel
theorem dX5_writeLine_72 : decode cX5_writeLine 72 = .ok (.aload_n 0, 1) := by decide +kernel
theorem dX5_writeLine_73 : decode cX5_writeLine 73 = .ok (.iload_n 1, 1) := by decide +kernel
theorem dX5_writeLine_74 : decode cX5_writeLine 74 = .ok (.iconst 0, 1) := by decide +kernel
theorem dX5_writeLine_75 : decode cX5_writeLine 75 = .ok (.iload_n 3, 1) := by decide +kernel
theorem dX5_writeLine_76 : decode cX5_writeLine 76 = .ok (.invokevirtual 121, 3) := by decide +kernel
theorem dX5_writeLine_79 : decode cX5_writeLine 79 = .ok (.iload_n 3, 1) := by decide +kernel
theorem dX5_writeLine_80 : decode cX5_writeLine 80 = .ok (.ifCond .ne 22, 3) := by decide +kernel
theorem dX5_writeLine_83 : decode cX5_writeLine 83 = .ok (.aload_n 0, 1) := by decide +kernel
theorem dX5_writeLine_84 : decode cX5_writeLine 84 = .ok (.bipush 44, 2) := by decide +kernel
theorem dX5_writeLine_86 : decode cX5_writeLine 86 = .ok (.invokevirtual 118, 3) := by decide +kernel
theorem dX5_writeLine_89 : decode cX5_writeLine 89 = .ok (.aload_n 0, 1) := by decide +kernel
theorem dX5_writeLine_90 : decode cX5_writeLine 90 = .ok (.bipush 32, 2) := by decide +kernel
theorem dX5_writeLine_92 : decode cX5_writeLine 92 = .ok (.invokevirtual 118, 3) := by decide +kernel
theorem dX5_writeLine_95 : decode cX5_writeLine 95 = .ok (.aload_n 0, 1) := by decide +kernel
theorem dX5_writeLine_96 : decode cX5_writeLine 96 = .ok (.iload_n 1, 1) := by decide +kernel
theorem dX5_writeLine_97 : decode cX5_writeLine 97 = .ok (.iconst 1, 1) := by decide +kernel
theorem dX5_writeLine_98 : decode cX5_writeLine 98 = .ok (.iconst 0, 1) := by decide +kernel
theorem dX5_writeLine_99 : decode cX5_writeLine 99 = .ok (.invokevirtual 121, 3) := by decide +kernel
theorem dX5_writeLine_102 : decode cX5_writeLine 102 = .ok (.aload_n 0, 1) := by decide +kernel
theorem dX5_writeLine_103 : decode cX5_writeLine 103 = .ok (.iload_n 1, 1) := by decide +kernel
theorem dX5_writeLine_104 : decode cX5_writeLine 104 = .ok (.invokevirtual 86, 3) := by decide +kernel
theorem dX5_writeLine_107 : decode cX5_writeLine 107 = .ok (.aload_n 0, 1) := by decide +kernel
theorem dX5_writeLine_108 : decode cX5_writeLine 108 = .ok (.getfield 80, 3) := by decide +kernel
theorem dX5_writeLine_111 : decode cX5_writeLine 111 = .ok (.ifCond .le 9, 3) := by decide +kernel
theorem dX5_writeLine_114 : decode cX5_writeLine 114 = .ok (.aload_n 0, 1) := by decide +kernel
theorem dX5_writeLine_115 : decode cX5_writeLine 115 = .ok (.bipush 58, 2) := by decide +kernel
theorem dX5_writeLine_117 : decode cX5_writeLine 117 = .ok (.invokevirtual 118, 3) := by decide +kernel
theorem dX5_writeLine_120 : decode cX5_writeLine 120 = .ok (.iconst 0, 1) := by decide +kernel
theorem dX5_writeLine_121 : decode cX5_writeLine 121 = .ok (.istore 4, 2) := by decide +kernel
theorem dX5_writeLine_123 : decode cX5_writeLine 123 = .ok (.iload 4, 2) := by decide +kernel
theorem dX5_writeLine_125 : decode cX5_writeLine 125 = .ok (.sipush 144, 3) := by decide +kernel
theorem dX5_writeLine_128 : decode cX5_writeLine 128 = .ok (.if_icmp .ge 103, 3) := by decide +kernel
theorem dX5_writeLine_131 : decode cX5_writeLine 131 = .ok (.aload_n 0, 1) := by decide +kernel
theorem dX5_writeLine_132 : decode cX5_writeLine 132 = .ok (.iload 4, 2) := by decide +kernel
theorem dX5_writeLine_134 : decode cX5_writeLine 134 = .ok (.invokevirtual 125, 3) := by decide +kernel
theorem dX5_writeLine_137 : decode cX5_writeLine 137 = .ok (.ifCond .eq 88, 3) := by decide +kernel
theorem dX5_writeLine_140 : decode cX5_writeLine 140 = .ok (.iload 4, 2) := by decide +kernel
theorem dX5_writeLine_142 : decode cX5_writeLine 142 = .ok (.istore 5, 2) := by decide +kernel
theorem dX5_writeLine_144 : decode cX5_writeLine 144 = .ok (.iload 5, 2) := by decide +kernel
theorem dX5_writeLine_146 : decode cX5_writeLine 146 = .ok (.bipush 12, 2) := by decide +kernel
theorem dX5_writeLine_148 : decode cX5_writeLine 148 = .ok (.irem, 1) := by decide +kernel
theorem dX5_writeLine_149 : decode cX5_writeLine 149 = .ok (.bipush 11, 2) := by decide +kernel
theorem dX5_writeLine_151 : decode cX5_writeLine 151 = .ok (.if_icmp .ge 21, 3) := by decide +kernel
theorem dX5_writeLine_154 : decode cX5_writeLine 154 = .ok (.aload_n 0, 1) := by decide +kernel
theorem dX5_writeLine_155 : decode cX5_writeLine 155 = .ok (.getfield 35, 3) := by decide +kernel
theorem dX5_writeLine_158 : decode cX5_writeLine 158 = .ok (.iload 5, 2) := by decide +kernel
theorem dX5_writeLine_160 : decode cX5_writeLine 160 = .ok (.iconst 1, 1) := by decide +kernel
theorem dX5_writeLine_161 : decode cX5_writeLine 161 = .ok (.iadd, 1) := by decide +kernel
theorem dX5_writeLine_162 : decode cX5_writeLine 162 = .ok (.baload, 1) := by decide +kernel
theorem dX5_writeLine_163 : decode cX5_writeLine 163 = .ok (.ifCond .eq 9, 3) := by decide +kernel
theorem dX5_writeLine_166 : decode cX5_writeLine 166 = .ok (.iinc 5 1, 3) := by decide +kernel
theorem dX5_writeLine_169 : decode cX5_writeLine 169 = .ok (.goto (-25), 3) := by decide +kernel
theorem dX5_writeLine_172 : decode cX5_writeLine 172 = .ok (.aload_n 0, 1) := by decide +kernel
theorem dX5_writeLine_173 : decode cX5_writeLine 173 = .ok (.bipush 32, 2) := by decide +kernel
theorem dX5_writeLine_175 : decode cX5_writeLine 175 = .ok (.invokevirtual 118, 3) := by decide +kernel
theorem dX5_writeLine_178 : decode cX5_writeLine 178 = .ok (.aload_n 0, 1) := by decide +kernel
theorem dX5_writeLine_179 : decode cX5_writeLine 179 = .ok (.bipush 65, 2) := by decide +kernel
theorem dX5_writeLine_181 : decode cX5_writeLine 181 = .ok (.iload 4, 2) := by decide +kernel
theorem dX5_writeLine_183 : decode cX5_writeLine 183 = .ok (.bipush 12, 2) := by decide +kernel
theorem dX5_writeLine_185 : decode cX5_writeLine 185 = .ok (.idiv, 1) := by decide +kernel
theorem dX5_writeLine_186 : decode cX5_writeLine 186 = .ok (.iadd, 1) := by decide +kernel
theorem dX5_writeLine_187 : decode cX5_writeLine 187 = .ok (.invokevirtual 118, 3) := by decide +kernel
theorem dX5_writeLine_190 : decode cX5_writeLine 190 = .ok (.aload_n 0, 1) := by decide +kernel
theorem dX5_writeLine_191 : decode cX5_writeLine 191 = .ok (.iload 4, 2) := by decide +kernel
theorem dX5_writeLine_193 : decode cX5_writeLine 193 = .ok (.bipush 12, 2) := by decide +kernel
theorem dX5_writeLine_195 : decode cX5_writeLine 195 = .ok (.irem, 1) := by decide +kernel
theorem dX5_writeLine_196 : decode cX5_writeLine 196 = .ok (.iconst 1, 1) := by decide +kernel
theorem dX5_writeLine_197 : decode cX5_writeLine 197 = .ok (.iadd, 1) := by decide +kernel
theorem dX5_writeLine_198 : decode cX5_writeLine 198 = .ok (.invokevirtual 128, 3) := by decide +kernel
theorem dX5_writeLine_201 : decode cX5_writeLine 201 = .ok (.iload 5, 2) := by decide +kernel
theorem dX5_writeLine_203 : decode cX5_writeLine 203 = .ok (.iload 4, 2) := by decide +kernel
theorem dX5_writeLine_205 : decode cX5_writeLine 205 = .ok (.if_icmp .le 20, 3) := by decide +kernel
theorem dX5_writeLine_208 : decode cX5_writeLine 208 = .ok (.aload_n 0, 1) := by decide +kernel
theorem dX5_writeLine_209 : decode cX5_writeLine 209 = .ok (.bipush 45, 2) := by decide +kernel
theorem dX5_writeLine_211 : decode cX5_writeLine 211 = .ok (.invokevirtual 118, 3) := by decide +kernel
theorem dX5_writeLine_214 : decode cX5_writeLine 214 = .ok (.aload_n 0, 1) := by decide +kernel
theorem dX5_writeLine_215 : decode cX5_writeLine 215 = .ok (.iload 5, 2) := by decide +kernel
theorem dX5_writeLine_217 : decode cX5_writeLine 217 = .ok (.bipush 12, 2) := by decide +kernel
theorem dX5_writeLine_219 : decode cX5_writeLine 219 = .ok (.irem, 1) := by decide +kernel
theorem dX5_writeLine_220 : decode cX5_writeLine 220 = .ok (.iconst 1, 1) := by decide +kernel
theorem dX5_writeLine_221 : decode cX5_writeLine 221 = .ok (.iadd, 1) := by decide +kernel
theorem dX5_writeLine_222 : decode cX5_writeLine 222 = .ok (.invokevirtual 128, 3) := by decide +kernel
theorem dX5_writeLine_225 : decode cX5_writeLine 225 = .ok (.iinc 4 1, 3) := by decide +kernel
theorem dX5_writeLine_228 : decode cX5_writeLine 228 = .ok (.goto (-105), 3) := by decide +kernel
theorem dX5_writeLine_231 : decode cX5_writeLine 231 = .ok (.return_, 1) := by decide +kernel
set_option maxRecDepth 20000 in
theorem ggX5_lineLength_X5_isStreet : GoodIn wsX5_lineLength wsX5_isStreet := goodIn_r _ [6, 7, 8, 9, 5, 10, 53, 54, 55, 56, 57, 58, 59, 60, 61, 62, 63, 64, 65, 66, 67, 68, 69] (by decide +kernel) (by decide +kernel)
set_option maxRecDepth 20000 in
theorem gX5_lineLength_X5_isStreet : GoodIn wsX5_lineLength (wsV RX5 97 RX5 yX5_isStreet wsX5_isStreet) := goodIn_app (goodIn_of _ (by decide +kernel)) ggX5_lineLength_X5_isStreet
set_option maxRecDepth 20000 in
theorem ggX5_lineLength_X5_goes : GoodIn wsX5_lineLength wsX5_goes := goodIn_r _ [14, 15, 53, 54, 55, 56, 57, 58, 59, 60, 61, 62, 63, 64, 65, 66, 67, 68, 69] (by decide +kernel) (by decide +kernel)
set_option maxRecDepth 20000 in
theorem gX5_lineLength_X5_goes : GoodIn wsX5_lineLength (wsV RX5 104 RX5 yX5_goes wsX5_goes) := goodIn_app (goodIn_of _ (by decide +kernel)) ggX5_lineLength_X5_goes
set_option maxRecDepth 20000 in
theorem ggX5_lineLength_X5_writeLine : GoodIn wsX5_lineLength wsX5_writeLine := goodIn_r _ [19, 1, 20, 21, 22, 23, 24, 25, 26, 27, 5, 28, 29, 30, 31, 32, 33, 34, 35, 36, 37, 38, 39, 40, 41, 42, 43, 44, 45, 46, 47, 48, 49, 50, 51, 52, 53, 54, 55, 56, 57, 58, 59, 60, 61, 62, 63, 64, 65, 66, 67, 68, 69] (by decide +kernel) (by decide +kernel)
set_option maxRecDepth 20000 in
theorem gX5_lineLength_X5_writeLine : GoodIn wsX5_lineLength (wsV RX5 131 RX5 yX5_writeLine wsX5_writeLine) := goodIn_app (goodIn_of _ (by decide +kernel)) ggX5_lineLength_X5_writeLine
theorem dX5_lineLength_0 : decode cX5_lineLength 0 = .ok (.aload_n 0, 1) := by decide +kernel
theorem dX5_lineLength_1 : decode cX5_lineLength 1 = .ok (.aload_n 0, 1) := by decide +kernel
theorem dX5_lineLength_2 : decode cX5_lineLength 2 = .ok (.iload_n 1, 1) := by decide +kernel
theorem dX5_lineLength_3 : decode cX5_lineLength 3 = .ok (.invokevirtual 97, 3) := by decide +kernel
theorem dX5_lineLength_6 : decode cX5_lineLength 6 = .ok (.iconst 1, 1) := by decide +kernel
theorem dX5_lineLength_7 : decode cX5_lineLength 7 = .ok (.iconst 1, 1) := by decide +kernel
theorem dX5_lineLength_8 : decode cX5_lineLength 8 = .ok (.invokevirtual 104, 3) := by decide +kernel
theorem dX5_lineLength_11 : decode cX5_lineLength 11 = .ok (.ifCond .ne 5, 3) := by decide +kernel
theorem dX5_lineLength_14 : decode cX5_lineLength 14 = .ok (.iconst 0, 1) := by decide +kernel
theorem dX5_lineLength_15 : decode cX5_lineLength 15 = .ok (.ireturn, 1) := by decide +kernel
theorem dX5_lineLength_16 : decode cX5_lineLength 16 = .ok (.aload_n 0, 1) := by decide +kernel
theorem dX5_lineLength_17 : decode cX5_lineLength 17 = .ok (.iload_n 1, 1) := by decide +kernel
theorem dX5_lineLength_18 : decode cX5_lineLength 18 = .ok (.invokevirtual 131, 3) := by decide +kernel
theorem dX5_lineLength_21 : decode cX5_lineLength 21 = .ok (.aload_n 0, 1) := by decide +kernel
theorem dX5_lineLength_22 : decode cX5_lineLength 22 = .ok (.getfield 115, 3) := by decide +kernel
theorem dX5_lineLength_25 : decode cX5_lineLength 25 = .ok (.ireturn, 1) := by decide +kernel
set_option maxRecDepth 20000 in
theorem ggX5_lineChar_X5_isStreet : GoodIn wsX5_lineChar wsX5_isStreet := goodIn_r _ [8, 9, 10, 11, 7, 12, 53, 54, 55, 56, 57, 58, 59, 60, 61, 62, 63, 64, 65, 66, 67, 68, 69] (by decide +kernel) (by decide +kernel)
set_option maxRecDepth 20000 in
theorem gX5_lineChar_X5_isStreet : GoodIn wsX5_lineChar (wsV RX5 97 RX5 yX5_isStreet wsX5_isStreet) := goodIn_app (goodIn_of _ (by decide +kernel)) ggX5_lineChar_X5_isStreet
set_option maxRecDepth 20000 in
theorem ggX5_lineChar_X5_goes : GoodIn wsX5_lineChar wsX5_goes := goodIn_r _ [16, 2, 53, 54, 55, 56, 57, 58, 59, 60, 61, 62, 63, 64, 65, 66, 67, 68, 69] (by decide +kernel) (by decide +kernel)
set_option maxRecDepth 20000 in
theorem gX5_lineChar_X5_goes : GoodIn wsX5_lineChar (wsV RX5 104 RX5 yX5_goes wsX5_goes) := goodIn_app (goodIn_of _ (by decide +kernel)) ggX5_lineChar_X5_goes
set_option maxRecDepth 20000 in
theorem ggX5_lineChar_X5_writeLine : GoodIn wsX5_lineChar wsX5_writeLine := goodIn_r _ [20, 1, 21, 22, 23, 24, 25, 26, 27, 28, 7, 29, 30, 31, 32, 33, 34, 3, 35, 36, 37, 38, 39, 40, 41, 42, 43, 44, 45, 46, 47, 48, 49, 50, 51, 52, 53, 54, 55, 56, 57, 58, 59, 60, 61, 62, 63, 64, 65, 66, 67, 68, 69] (by decide +kernel) (by decide +kernel)
set_option maxRecDepth 20000 in
theorem gX5_lineChar_X5_writeLine : GoodIn wsX5_lineChar (wsV RX5 131 RX5 yX5_writeLine wsX5_writeLine) := goodIn_app (goodIn_of _ (by decide +kernel)) ggX5_lineChar_X5_writeLine
set_option maxRecDepth 20000 in
theorem ggX5_lineChar_X5_in : GoodIn wsX5_lineChar wsX5_in := goodIn_r _ [12] (by decide +kernel) (by decide +kernel)
set_option maxRecDepth 20000 in
theorem gX5_lineChar_X5_in : GoodIn wsX5_lineChar (va_wsS RX5 61 yX5_in wsX5_in) := goodIn_app (goodIn_of _ (by decide +kernel)) ggX5_lineChar_X5_in
theorem dX5_lineChar_0 : decode cX5_lineChar 0 = .ok (.aload_n 0, 1) := by decide +kernel
theorem dX5_lineChar_1 : decode cX5_lineChar 1 = .ok (.aload_n 0, 1) := by decide +kernel
theorem dX5_lineChar_2 : decode cX5_lineChar 2 = .ok (.iload_n 1, 1) := by decide +kernel
theorem dX5_lineChar_3 : decode cX5_lineChar 3 = .ok (.invokevirtual 97, 3) := by decide +kernel
theorem dX5_lineChar_6 : decode cX5_lineChar 6 = .ok (.iconst 1, 1) := by decide +kernel
theorem dX5_lineChar_7 : decode cX5_lineChar 7 = .ok (.iconst 1, 1) := by decide +kernel
theorem dX5_lineChar_8 : decode cX5_lineChar 8 = .ok (.invokevirtual 104, 3) := by decide +kernel
theorem dX5_lineChar_11 : decode cX5_lineChar 11 = .ok (.ifCond .ne 5, 3) := by decide +kernel
theorem dX5_lineChar_14 : decode cX5_lineChar 14 = .ok (.iconst 0, 1) := by decide +kernel
theorem dX5_lineChar_15 : decode cX5_lineChar 15 = .ok (.ireturn, 1) := by decide +kernel
theorem dX5_lineChar_16 : decode cX5_lineChar 16 = .ok (.aload_n 0, 1) := by decide +kernel
theorem dX5_lineChar_17 : decode cX5_lineChar 17 = .ok (.iload_n 1, 1) := by decide +kernel
theorem dX5_lineChar_18 : decode cX5_lineChar 18 = .ok (.invokevirtual 131, 3) := by decide +kernel
theorem dX5_lineChar_21 : decode cX5_lineChar 21 = .ok (.aload_n 0, 1) := by decide +kernel
theorem dX5_lineChar_22 : decode cX5_lineChar 22 = .ok (.iload_n 2, 1) := by decide +kernel
theorem dX5_lineChar_23 : decode cX5_lineChar 23 = .ok (.iconst 0, 1) := by decide +kernel
theorem dX5_lineChar_24 : decode cX5_lineChar 24 = .ok (.aload_n 0, 1) := by decide +kernel
theorem dX5_lineChar_25 : decode cX5_lineChar 25 = .ok (.getfield 115, 3) := by decide +kernel
theorem dX5_lineChar_28 : decode cX5_lineChar 28 = .ok (.iconst 1, 1) := by decide +kernel
theorem dX5_lineChar_29 : decode cX5_lineChar 29 = .ok (.isub, 1) := by decide +kernel
theorem dX5_lineChar_30 : decode cX5_lineChar 30 = .ok (.invokestatic 61, 3) := by decide +kernel
theorem dX5_lineChar_33 : decode cX5_lineChar 33 = .ok (.ifCond .eq 7, 3) := by decide +kernel
theorem dX5_lineChar_36 : decode cX5_lineChar 36 = .ok (.iconst 0, 1) := by decide +kernel
theorem dX5_lineChar_37 : decode cX5_lineChar 37 = .ok (.goto 4, 3) := by decide +kernel
theorem dX5_lineChar_40 : decode cX5_lineChar 40 = .ok (.iconst 1, 1) := by decide +kernel
theorem dX5_lineChar_41 : decode cX5_lineChar 41 = .ok (.putfield 54, 3) := by decide +kernel
theorem dX5_lineChar_44 : decode cX5_lineChar 44 = .ok (.aload_n 0, 1) := by decide +kernel
theorem dX5_lineChar_45 : decode cX5_lineChar 45 = .ok (.getfield 54, 3) := by decide +kernel
theorem dX5_lineChar_48 : decode cX5_lineChar 48 = .ok (.ifCond .ne 13, 3) := by decide +kernel
theorem dX5_lineChar_51 : decode cX5_lineChar 51 = .ok (.aload_n 0, 1) := by decide +kernel
theorem dX5_lineChar_52 : decode cX5_lineChar 52 = .ok (.getfield 44, 3) := by decide +kernel
theorem dX5_lineChar_55 : decode cX5_lineChar 55 = .ok (.iload_n 2, 1) := by decide +kernel
theorem dX5_lineChar_56 : decode cX5_lineChar 56 = .ok (.iaload, 1) := by decide +kernel
theorem dX5_lineChar_57 : decode cX5_lineChar 57 = .ok (.i2c, 1) := by decide +kernel
theorem dX5_lineChar_58 : decode cX5_lineChar 58 = .ok (.goto 4, 3) := by decide +kernel
theorem dX5_lineChar_61 : decode cX5_lineChar 61 = .ok (.iconst 0, 1) := by decide +kernel
theorem dX5_lineChar_62 : decode cX5_lineChar 62 = .ok (.ireturn, 1) := by decide +kernel
set_option maxRecDepth 20000 in
theorem ggX5_trackLength_X5_isStreet : GoodIn wsX5_trackLength wsX5_isStreet := goodIn_r _ [5, 6, 7, 8, 4, 9, 31, 32, 33, 34, 35, 36, 37, 38, 39, 40, 41, 42, 43, 44, 45, 46, 47] (by decide +kernel) (by decide +kernel)
set_option maxRecDepth 20000 in
theorem gX5_trackLength_X5_isStreet : GoodIn wsX5_trackLength (wsV RX5 97 RX5 yX5_isStreet wsX5_isStreet) := goodIn_app (goodIn_of _ (by decide +kernel)) ggX5_trackLength_X5_isStreet
set_option maxRecDepth 20000 in
theorem ggX5_trackLength_X5_goes : GoodIn wsX5_trackLength wsX5_goes := goodIn_r _ [13, 14, 31, 32, 33, 34, 35, 36, 37, 38, 39, 40, 41, 42, 43, 44, 45, 46, 47] (by decide +kernel) (by decide +kernel)
set_option maxRecDepth 20000 in
theorem gX5_trackLength_X5_goes : GoodIn wsX5_trackLength (wsV RX5 104 RX5 yX5_goes wsX5_goes) := goodIn_app (goodIn_of _ (by decide +kernel)) ggX5_trackLength_X5_goes
set_option maxRecDepth 20000 in
theorem ggX5_trackLength_X5_tracked : GoodIn wsX5_trackLength wsX5_tracked := goodIn_r _ [18, 19, 20, 21, 22, 4, 23, 24, 25, 26, 27, 28, 29, 30, 31, 32, 33, 34, 35, 36, 37, 38, 39, 40, 41, 42, 43, 44, 45, 46, 47] (by decide +kernel) (by decide +kernel)
set_option maxRecDepth 20000 in
theorem gX5_trackLength_X5_tracked : GoodIn wsX5_trackLength (wsV RX5 108 RX5 yX5_tracked wsX5_tracked) := goodIn_app (goodIn_of _ (by decide +kernel)) ggX5_trackLength_X5_tracked
theorem dX5_trackLength_0 : decode cX5_trackLength 0 = .ok (.aload_n 0, 1) := by decide +kernel
theorem dX5_trackLength_1 : decode cX5_trackLength 1 = .ok (.aload_n 0, 1) := by decide +kernel
theorem dX5_trackLength_2 : decode cX5_trackLength 2 = .ok (.iload_n 1, 1) := by decide +kernel
theorem dX5_trackLength_3 : decode cX5_trackLength 3 = .ok (.invokevirtual 97, 3) := by decide +kernel
theorem dX5_trackLength_6 : decode cX5_trackLength 6 = .ok (.iconst 1, 1) := by decide +kernel
theorem dX5_trackLength_7 : decode cX5_trackLength 7 = .ok (.iconst 1, 1) := by decide +kernel
theorem dX5_trackLength_8 : decode cX5_trackLength 8 = .ok (.invokevirtual 104, 3) := by decide +kernel
theorem dX5_trackLength_11 : decode cX5_trackLength 11 = .ok (.ifCond .eq 11, 3) := by decide +kernel
theorem dX5_trackLength_14 : decode cX5_trackLength 14 = .ok (.aload_n 0, 1) := by decide +kernel
theorem dX5_trackLength_15 : decode cX5_trackLength 15 = .ok (.iload_n 1, 1) := by decide +kernel
theorem dX5_trackLength_16 : decode cX5_trackLength 16 = .ok (.invokevirtual 108, 3) := by decide +kernel
theorem dX5_trackLength_19 : decode cX5_trackLength 19 = .ok (.goto 4, 3) := by decide +kernel
theorem dX5_trackLength_22 : decode cX5_trackLength 22 = .ok (.iconst 0, 1) := by decide +kernel
theorem dX5_trackLength_23 : decode cX5_trackLength 23 = .ok (.ireturn, 1) := by decide +kernel
set_option maxRecDepth 20000 in
theorem ggX5_squares_X5_isStreet : GoodIn wsX5_squares wsX5_isStreet := goodIn_r _ [6, 7, 8, 9, 5, 10, 27, 28, 29, 30, 31, 32, 33, 34, 35, 36, 37, 38, 39, 40, 41, 42, 43] (by decide +kernel) (by decide +kernel)
set_option maxRecDepth 20000 in
theorem gX5_squares_X5_isStreet : GoodIn wsX5_squares (wsV RX5 97 RX5 yX5_isStreet wsX5_isStreet) := goodIn_app (goodIn_of _ (by decide +kernel)) ggX5_squares_X5_isStreet
set_option maxRecDepth 20000 in
theorem ggX5_squares_X5_goes : GoodIn wsX5_squares wsX5_goes := goodIn_r _ [14, 15, 27, 28, 29, 30, 31, 32, 33, 34, 35, 36, 37, 38, 39, 40, 41, 42, 43] (by decide +kernel) (by decide +kernel)
set_option maxRecDepth 20000 in
theorem gX5_squares_X5_goes : GoodIn wsX5_squares (wsV RX5 104 RX5 yX5_goes wsX5_goes) := goodIn_app (goodIn_of _ (by decide +kernel)) ggX5_squares_X5_goes
set_option maxRecDepth 20000 in
theorem ggX5_squares_X5_tracks : GoodIn wsX5_squares wsX5_tracks := goodIn_r _ [19, 20, 1, 21, 22, 23, 24, 25, 5, 26, 27, 28, 29, 30, 31, 32, 33, 34, 35, 36, 37, 38, 39, 40, 41, 42, 43] (by decide +kernel) (by decide +kernel)
set_option maxRecDepth 20000 in
theorem gX5_squares_X5_tracks : GoodIn wsX5_squares (wsV RX5 86 RX5 yX5_tracks wsX5_tracks) := goodIn_app (goodIn_of _ (by decide +kernel)) ggX5_squares_X5_tracks
theorem dX5_squares_0 : decode cX5_squares 0 = .ok (.iconst 0, 1) := by decide +kernel
theorem dX5_squares_1 : decode cX5_squares 1 = .ok (.istore_n 2, 1) := by decide +kernel
theorem dX5_squares_2 : decode cX5_squares 2 = .ok (.aload_n 0, 1) := by decide +kernel
theorem dX5_squares_3 : decode cX5_squares 3 = .ok (.aload_n 0, 1) := by decide +kernel
theorem dX5_squares_4 : decode cX5_squares 4 = .ok (.iload_n 1, 1) := by decide +kernel
theorem dX5_squares_5 : decode cX5_squares 5 = .ok (.invokevirtual 97, 3) := by decide +kernel
theorem dX5_squares_8 : decode cX5_squares 8 = .ok (.iconst 1, 1) := by decide +kernel
theorem dX5_squares_9 : decode cX5_squares 9 = .ok (.iconst 1, 1) := by decide +kernel
theorem dX5_squares_10 : decode cX5_squares 10 = .ok (.invokevirtual 104, 3) := by decide +kernel
theorem dX5_squares_13 : decode cX5_squares 13 = .ok (.ifCond .eq 40, 3) := by decide +kernel
theorem dX5_squares_16 : decode cX5_squares 16 = .ok (.aload_n 0, 1) := by decide +kernel
theorem dX5_squares_17 : decode cX5_squares 17 = .ok (.iload_n 1, 1) := by decide +kernel
theorem dX5_squares_18 : decode cX5_squares 18 = .ok (.invokevirtual 86, 3) := by decide +kernel
theorem dX5_squares_21 : decode cX5_squares 21 = .ok (.iconst 0, 1) := by decide +kernel
theorem dX5_squares_22 : decode cX5_squares 22 = .ok (.istore_n 3, 1) := by decide +kernel
theorem dX5_squares_23 : decode cX5_squares 23 = .ok (.iload_n 3, 1) := by decide +kernel
theorem dX5_squares_24 : decode cX5_squares 24 = .ok (.sipush 144, 3) := by decide +kernel
theorem dX5_squares_27 : decode cX5_squares 27 = .ok (.if_icmp .ge 26, 3) := by decide +kernel
theorem dX5_squares_30 : decode cX5_squares 30 = .ok (.iload_n 2, 1) := by decide +kernel
theorem dX5_squares_31 : decode cX5_squares 31 = .ok (.aload_n 0, 1) := by decide +kernel
theorem dX5_squares_32 : decode cX5_squares 32 = .ok (.getfield 35, 3) := by decide +kernel
theorem dX5_squares_35 : decode cX5_squares 35 = .ok (.iload_n 3, 1) := by decide +kernel
theorem dX5_squares_36 : decode cX5_squares 36 = .ok (.baload, 1) := by decide +kernel
theorem dX5_squares_37 : decode cX5_squares 37 = .ok (.ifCond .eq 7, 3) := by decide +kernel
theorem dX5_squares_40 : decode cX5_squares 40 = .ok (.iconst 1, 1) := by decide +kernel
theorem dX5_squares_41 : decode cX5_squares 41 = .ok (.goto 4, 3) := by decide +kernel
theorem dX5_squares_44 : decode cX5_squares 44 = .ok (.iconst 0, 1) := by decide +kernel
theorem dX5_squares_45 : decode cX5_squares 45 = .ok (.iadd, 1) := by decide +kernel
theorem dX5_squares_46 : decode cX5_squares 46 = .ok (.istore_n 2, 1) := by decide +kernel
theorem dX5_squares_47 : decode cX5_squares 47 = .ok (.iinc 3 1, 3) := by decide +kernel
theorem dX5_squares_50 : decode cX5_squares 50 = .ok (.goto (-27), 3) := by decide +kernel
theorem dX5_squares_53 : decode cX5_squares 53 = .ok (.iload_n 2, 1) := by decide +kernel
theorem dX5_squares_54 : decode cX5_squares 54 = .ok (.ireturn, 1) := by decide +kernel
set_option maxRecDepth 20000 in
theorem ggX5_runs_X5_isStreet : GoodIn wsX5_runs wsX5_isStreet := goodIn_r _ [5, 6, 7, 8, 4, 9, 31, 32, 33, 34, 35, 36, 37, 38, 39, 40, 41, 42, 43, 44, 45, 46, 47] (by decide +kernel) (by decide +kernel)
set_option maxRecDepth 20000 in
theorem gX5_runs_X5_isStreet : GoodIn wsX5_runs (wsV RX5 97 RX5 yX5_isStreet wsX5_isStreet) := goodIn_app (goodIn_of _ (by decide +kernel)) ggX5_runs_X5_isStreet
set_option maxRecDepth 20000 in
theorem ggX5_runs_X5_goes : GoodIn wsX5_runs wsX5_goes := goodIn_r _ [13, 14, 31, 32, 33, 34, 35, 36, 37, 38, 39, 40, 41, 42, 43, 44, 45, 46, 47] (by decide +kernel) (by decide +kernel)
set_option maxRecDepth 20000 in
theorem gX5_runs_X5_goes : GoodIn wsX5_runs (wsV RX5 104 RX5 yX5_goes wsX5_goes) := goodIn_app (goodIn_of _ (by decide +kernel)) ggX5_runs_X5_goes
set_option maxRecDepth 20000 in
theorem ggX5_runs_X5_tracks : GoodIn wsX5_runs wsX5_tracks := goodIn_r _ [18, 19, 20, 21, 22, 23, 24, 25, 4, 26, 31, 32, 33, 34, 35, 36, 37, 38, 39, 40, 41, 42, 43, 44, 45, 46, 47] (by decide +kernel) (by decide +kernel)
set_option maxRecDepth 20000 in
theorem gX5_runs_X5_tracks : GoodIn wsX5_runs (wsV RX5 86 RX5 yX5_tracks wsX5_tracks) := goodIn_app (goodIn_of _ (by decide +kernel)) ggX5_runs_X5_tracks
set_option maxRecDepth 20000 in
theorem ggX5_runs_X5_beginsRun : GoodIn wsX5_runs wsX5_beginsRun := goodIn_r _ [30, 20, 31, 32, 33, 34, 35, 36, 37, 38, 39, 40, 41, 42, 43, 44, 45, 46, 47] (by decide +kernel) (by decide +kernel)
set_option maxRecDepth 20000 in
theorem gX5_runs_X5_beginsRun : GoodIn wsX5_runs (wsV RX5 125 RX5 yX5_beginsRun wsX5_beginsRun) := goodIn_app (goodIn_of _ (by decide +kernel)) ggX5_runs_X5_beginsRun
theorem dX5_runs_0 : decode cX5_runs 0 = .ok (.iconst 0, 1) := by decide +kernel
theorem dX5_runs_1 : decode cX5_runs 1 = .ok (.istore_n 2, 1) := by decide +kernel
theorem dX5_runs_2 : decode cX5_runs 2 = .ok (.aload_n 0, 1) := by decide +kernel
theorem dX5_runs_3 : decode cX5_runs 3 = .ok (.aload_n 0, 1) := by decide +kernel
theorem dX5_runs_4 : decode cX5_runs 4 = .ok (.iload_n 1, 1) := by decide +kernel
theorem dX5_runs_5 : decode cX5_runs 5 = .ok (.invokevirtual 97, 3) := by decide +kernel
theorem dX5_runs_8 : decode cX5_runs 8 = .ok (.iconst 1, 1) := by decide +kernel
theorem dX5_runs_9 : decode cX5_runs 9 = .ok (.iconst 1, 1) := by decide +kernel
theorem dX5_runs_10 : decode cX5_runs 10 = .ok (.invokevirtual 104, 3) := by decide +kernel
theorem dX5_runs_13 : decode cX5_runs 13 = .ok (.ifCond .eq 39, 3) := by decide +kernel
theorem dX5_runs_16 : decode cX5_runs 16 = .ok (.aload_n 0, 1) := by decide +kernel
theorem dX5_runs_17 : decode cX5_runs 17 = .ok (.iload_n 1, 1) := by decide +kernel
theorem dX5_runs_18 : decode cX5_runs 18 = .ok (.invokevirtual 86, 3) := by decide +kernel
theorem dX5_runs_21 : decode cX5_runs 21 = .ok (.iconst 0, 1) := by decide +kernel
theorem dX5_runs_22 : decode cX5_runs 22 = .ok (.istore_n 3, 1) := by decide +kernel
theorem dX5_runs_23 : decode cX5_runs 23 = .ok (.iload_n 3, 1) := by decide +kernel
theorem dX5_runs_24 : decode cX5_runs 24 = .ok (.sipush 144, 3) := by decide +kernel
theorem dX5_runs_27 : decode cX5_runs 27 = .ok (.if_icmp .ge 25, 3) := by decide +kernel
theorem dX5_runs_30 : decode cX5_runs 30 = .ok (.iload_n 2, 1) := by decide +kernel
theorem dX5_runs_31 : decode cX5_runs 31 = .ok (.aload_n 0, 1) := by decide +kernel
theorem dX5_runs_32 : decode cX5_runs 32 = .ok (.iload_n 3, 1) := by decide +kernel
theorem dX5_runs_33 : decode cX5_runs 33 = .ok (.invokevirtual 125, 3) := by decide +kernel
theorem dX5_runs_36 : decode cX5_runs 36 = .ok (.ifCond .eq 7, 3) := by decide +kernel
theorem dX5_runs_39 : decode cX5_runs 39 = .ok (.iconst 1, 1) := by decide +kernel
theorem dX5_runs_40 : decode cX5_runs 40 = .ok (.goto 4, 3) := by decide +kernel
theorem dX5_runs_43 : decode cX5_runs 43 = .ok (.iconst 0, 1) := by decide +kernel
theorem dX5_runs_44 : decode cX5_runs 44 = .ok (.iadd, 1) := by decide +kernel
theorem dX5_runs_45 : decode cX5_runs 45 = .ok (.istore_n 2, 1) := by decide +kernel
theorem dX5_runs_46 : decode cX5_runs 46 = .ok (.iinc 3 1, 3) := by decide +kernel
theorem dX5_runs_49 : decode cX5_runs 49 = .ok (.goto (-26), 3) := by decide +kernel
theorem dX5_runs_52 : decode cX5_runs 52 = .ok (.iload_n 2, 1) := by decide +kernel
theorem dX5_runs_53 : decode cX5_runs 53 = .ok (.ireturn, 1) := by decide +kernel
set_option maxRecDepth 20000 in
theorem ggX5_isOn_X5_isStreet : GoodIn wsX5_isOn wsX5_isStreet := goodIn_r _ [6, 7, 8, 9, 5, 10, 30, 31, 32, 33, 34, 35, 36, 37, 38, 39, 40, 41, 42, 43, 44, 45, 46] (by decide +kernel) (by decide +kernel)
set_option maxRecDepth 20000 in
theorem gX5_isOn_X5_isStreet : GoodIn wsX5_isOn (wsV RX5 97 RX5 yX5_isStreet wsX5_isStreet) := goodIn_app (goodIn_of _ (by decide +kernel)) ggX5_isOn_X5_isStreet
set_option maxRecDepth 20000 in
theorem ggX5_isOn_X5_isSquare : GoodIn wsX5_isOn wsX5_isSquare := goodIn_r _ [13, 8, 9, 5, 10] (by decide +kernel) (by decide +kernel)
set_option maxRecDepth 20000 in
theorem gX5_isOn_X5_isSquare : GoodIn wsX5_isOn (va_wsS RX5 101 yX5_isSquare wsX5_isSquare) := goodIn_app (goodIn_of _ (by decide +kernel)) ggX5_isOn_X5_isSquare
set_option maxRecDepth 20000 in
theorem ggX5_isOn_X5_goes : GoodIn wsX5_isOn wsX5_goes := goodIn_r _ [17, 18, 30, 31, 32, 33, 34, 35, 36, 37, 38, 39, 40, 41, 42, 43, 44, 45, 46] (by decide +kernel) (by decide +kernel)
set_option maxRecDepth 20000 in
theorem gX5_isOn_X5_goes : GoodIn wsX5_isOn (wsV RX5 104 RX5 yX5_goes wsX5_goes) := goodIn_app (goodIn_of _ (by decide +kernel)) ggX5_isOn_X5_goes
set_option maxRecDepth 20000 in
theorem ggX5_isOn_X5_tracks : GoodIn wsX5_isOn wsX5_tracks := goodIn_r _ [22, 23, 1, 24, 25, 26, 27, 28, 5, 29, 30, 31, 32, 33, 34, 35, 36, 37, 38, 39, 40, 41, 42, 43, 44, 45, 46] (by decide +kernel) (by decide +kernel)
set_option maxRecDepth 20000 in
theorem gX5_isOn_X5_tracks : GoodIn wsX5_isOn (wsV RX5 86 RX5 yX5_tracks wsX5_tracks) := goodIn_app (goodIn_of _ (by decide +kernel)) ggX5_isOn_X5_tracks
theorem dX5_isOn_0 : decode cX5_isOn 0 = .ok (.aload_n 0, 1) := by decide +kernel
theorem dX5_isOn_1 : decode cX5_isOn 1 = .ok (.aload_n 0, 1) := by decide +kernel
theorem dX5_isOn_2 : decode cX5_isOn 2 = .ok (.iload_n 1, 1) := by decide +kernel
theorem dX5_isOn_3 : decode cX5_isOn 3 = .ok (.invokevirtual 97, 3) := by decide +kernel
theorem dX5_isOn_6 : decode cX5_isOn 6 = .ok (.ifCond .eq 15, 3) := by decide +kernel
theorem dX5_isOn_9 : decode cX5_isOn 9 = .ok (.iload_n 2, 1) := by decide +kernel
theorem dX5_isOn_10 : decode cX5_isOn 10 = .ok (.iload_n 3, 1) := by decide +kernel
theorem dX5_isOn_11 : decode cX5_isOn 11 = .ok (.invokestatic 101, 3) := by decide +kernel
theorem dX5_isOn_14 : decode cX5_isOn 14 = .ok (.ifCond .eq 7, 3) := by decide +kernel
theorem dX5_isOn_17 : decode cX5_isOn 17 = .ok (.iconst 1, 1) := by decide +kernel
theorem dX5_isOn_18 : decode cX5_isOn 18 = .ok (.goto 4, 3) := by decide +kernel
theorem dX5_isOn_21 : decode cX5_isOn 21 = .ok (.iconst 0, 1) := by decide +kernel
theorem dX5_isOn_22 : decode cX5_isOn 22 = .ok (.iconst 1, 1) := by decide +kernel
theorem dX5_isOn_23 : decode cX5_isOn 23 = .ok (.iconst 1, 1) := by decide +kernel
theorem dX5_isOn_24 : decode cX5_isOn 24 = .ok (.invokevirtual 104, 3) := by decide +kernel
theorem dX5_isOn_27 : decode cX5_isOn 27 = .ok (.ifCond .ne 5, 3) := by decide +kernel
theorem dX5_isOn_30 : decode cX5_isOn 30 = .ok (.iconst 0, 1) := by decide +kernel
theorem dX5_isOn_31 : decode cX5_isOn 31 = .ok (.ireturn, 1) := by decide +kernel
theorem dX5_isOn_32 : decode cX5_isOn 32 = .ok (.aload_n 0, 1) := by decide +kernel
theorem dX5_isOn_33 : decode cX5_isOn 33 = .ok (.iload_n 1, 1) := by decide +kernel
theorem dX5_isOn_34 : decode cX5_isOn 34 = .ok (.invokevirtual 86, 3) := by decide +kernel
theorem dX5_isOn_37 : decode cX5_isOn 37 = .ok (.aload_n 0, 1) := by decide +kernel
theorem dX5_isOn_38 : decode cX5_isOn 38 = .ok (.getfield 35, 3) := by decide +kernel
theorem dX5_isOn_41 : decode cX5_isOn 41 = .ok (.bipush 12, 2) := by decide +kernel
theorem dX5_isOn_43 : decode cX5_isOn 43 = .ok (.iload_n 2, 1) := by decide +kernel
theorem dX5_isOn_44 : decode cX5_isOn 44 = .ok (.imul, 1) := by decide +kernel
theorem dX5_isOn_45 : decode cX5_isOn 45 = .ok (.iload_n 3, 1) := by decide +kernel
theorem dX5_isOn_46 : decode cX5_isOn 46 = .ok (.iadd, 1) := by decide +kernel
theorem dX5_isOn_47 : decode cX5_isOn 47 = .ok (.baload, 1) := by decide +kernel
theorem dX5_isOn_48 : decode cX5_isOn 48 = .ok (.ireturn, 1) := by decide +kernel
set_option maxRecDepth 20000 in
theorem ggX5_isOnTrack_X5_isOn : GoodIn wsX5_isOnTrack wsX5_isOn := goodIn_r _ [5, 6, 7, 8, 9, 4, 10, 11, 12, 13, 14, 15, 16, 17, 18, 19, 20, 21, 22, 23, 24, 25, 26, 27, 28, 29, 30, 31, 32, 33, 34, 35, 36, 37, 38, 39, 40, 41, 42, 43, 44, 45, 46, 47, 48, 49, 50] (by decide +kernel) (by decide +kernel)
set_option maxRecDepth 20000 in
theorem gX5_isOnTrack_X5_isOn : GoodIn wsX5_isOnTrack (wsV RX5 134 RX5 yX5_isOn wsX5_isOn) := goodIn_app (goodIn_of _ (by decide +kernel)) ggX5_isOnTrack_X5_isOn
theorem dX5_isOnTrack_0 : decode cX5_isOnTrack 0 = .ok (.aload_n 0, 1) := by decide +kernel
theorem dX5_isOnTrack_1 : decode cX5_isOnTrack 1 = .ok (.iload_n 1, 1) := by decide +kernel
theorem dX5_isOnTrack_2 : decode cX5_isOnTrack 2 = .ok (.iload_n 2, 1) := by decide +kernel
theorem dX5_isOnTrack_3 : decode cX5_isOnTrack 3 = .ok (.iload_n 3, 1) := by decide +kernel
theorem dX5_isOnTrack_4 : decode cX5_isOnTrack 4 = .ok (.invokevirtual 134, 3) := by decide +kernel
theorem dX5_isOnTrack_7 : decode cX5_isOnTrack 7 = .ok (.ireturn, 1) := by decide +kernel
set_option maxRecDepth 20000 in
theorem ggX5_streetsOf_X5_isSquare : GoodIn wsX5_streetsOf wsX5_isSquare := goodIn_r _ [6, 7, 8, 5, 9] (by decide +kernel) (by decide +kernel)
set_option maxRecDepth 20000 in
theorem gX5_streetsOf_X5_isSquare : GoodIn wsX5_streetsOf (va_wsS RX5 101 yX5_isSquare wsX5_isSquare) := goodIn_app (goodIn_of _ (by decide +kernel)) ggX5_streetsOf_X5_isSquare
set_option maxRecDepth 20000 in
theorem ggX5_streetsOf_X5_goes : GoodIn wsX5_streetsOf wsX5_goes := goodIn_r _ [13, 14, 26, 27, 28, 29, 30, 31, 32, 33, 34, 35, 36, 37, 38, 39, 40, 41, 42] (by decide +kernel) (by decide +kernel)
set_option maxRecDepth 20000 in
theorem gX5_streetsOf_X5_goes : GoodIn wsX5_streetsOf (wsV RX5 104 RX5 yX5_goes wsX5_goes) := goodIn_app (goodIn_of _ (by decide +kernel)) ggX5_streetsOf_X5_goes
set_option maxRecDepth 20000 in
theorem ggX5_streetsOf_X5_tracks : GoodIn wsX5_streetsOf wsX5_tracks := goodIn_r _ [18, 19, 2, 20, 21, 22, 23, 24, 5, 25, 26, 27, 28, 29, 30, 31, 32, 33, 34, 35, 36, 37, 38, 39, 40, 41, 42] (by decide +kernel) (by decide +kernel)
set_option maxRecDepth 20000 in
theorem gX5_streetsOf_X5_tracks : GoodIn wsX5_streetsOf (wsV RX5 86 RX5 yX5_tracks wsX5_tracks) := goodIn_app (goodIn_of _ (by decide +kernel)) ggX5_streetsOf_X5_tracks
theorem dX5_streetsOf_0 : decode cX5_streetsOf 0 = .ok (.iconst 0, 1) := by decide +kernel
theorem dX5_streetsOf_1 : decode cX5_streetsOf 1 = .ok (.istore_n 3, 1) := by decide +kernel
theorem dX5_streetsOf_2 : decode cX5_streetsOf 2 = .ok (.aload_n 0, 1) := by decide +kernel
theorem dX5_streetsOf_3 : decode cX5_streetsOf 3 = .ok (.iload_n 1, 1) := by decide +kernel
theorem dX5_streetsOf_4 : decode cX5_streetsOf 4 = .ok (.iload_n 2, 1) := by decide +kernel
theorem dX5_streetsOf_5 : decode cX5_streetsOf 5 = .ok (.invokestatic 101, 3) := by decide +kernel
theorem dX5_streetsOf_8 : decode cX5_streetsOf 8 = .ok (.iconst 1, 1) := by decide +kernel
theorem dX5_streetsOf_9 : decode cX5_streetsOf 9 = .ok (.iconst 1, 1) := by decide +kernel
theorem dX5_streetsOf_10 : decode cX5_streetsOf 10 = .ok (.invokevirtual 104, 3) := by decide +kernel
theorem dX5_streetsOf_13 : decode cX5_streetsOf 13 = .ok (.istore 4, 2) := by decide +kernel
theorem dX5_streetsOf_15 : decode cX5_streetsOf 15 = .ok (.iconst 0, 1) := by decide +kernel
theorem dX5_streetsOf_16 : decode cX5_streetsOf 16 = .ok (.istore 5, 2) := by decide +kernel
theorem dX5_streetsOf_18 : decode cX5_streetsOf 18 = .ok (.iload 5, 2) := by decide +kernel
theorem dX5_streetsOf_20 : decode cX5_streetsOf 20 = .ok (.aload_n 0, 1) := by decide +kernel
theorem dX5_streetsOf_21 : decode cX5_streetsOf 21 = .ok (.getfield 58, 3) := by decide +kernel
theorem dX5_streetsOf_24 : decode cX5_streetsOf 24 = .ok (.if_icmp .ge 45, 3) := by decide +kernel
theorem dX5_streetsOf_27 : decode cX5_streetsOf 27 = .ok (.iload 4, 2) := by decide +kernel
theorem dX5_streetsOf_29 : decode cX5_streetsOf 29 = .ok (.ifCond .eq 40, 3) := by decide +kernel
theorem dX5_streetsOf_32 : decode cX5_streetsOf 32 = .ok (.aload_n 0, 1) := by decide +kernel
theorem dX5_streetsOf_33 : decode cX5_streetsOf 33 = .ok (.iload 5, 2) := by decide +kernel
theorem dX5_streetsOf_35 : decode cX5_streetsOf 35 = .ok (.invokevirtual 86, 3) := by decide +kernel
theorem dX5_streetsOf_38 : decode cX5_streetsOf 38 = .ok (.iload_n 3, 1) := by decide +kernel
theorem dX5_streetsOf_39 : decode cX5_streetsOf 39 = .ok (.aload_n 0, 1) := by decide +kernel
theorem dX5_streetsOf_40 : decode cX5_streetsOf 40 = .ok (.getfield 35, 3) := by decide +kernel
theorem dX5_streetsOf_43 : decode cX5_streetsOf 43 = .ok (.bipush 12, 2) := by decide +kernel
theorem dX5_streetsOf_45 : decode cX5_streetsOf 45 = .ok (.iload_n 1, 1) := by decide +kernel
theorem dX5_streetsOf_46 : decode cX5_streetsOf 46 = .ok (.imul, 1) := by decide +kernel
theorem dX5_streetsOf_47 : decode cX5_streetsOf 47 = .ok (.iload_n 2, 1) := by decide +kernel
theorem dX5_streetsOf_48 : decode cX5_streetsOf 48 = .ok (.iadd, 1) := by decide +kernel
theorem dX5_streetsOf_49 : decode cX5_streetsOf 49 = .ok (.baload, 1) := by decide +kernel
theorem dX5_streetsOf_50 : decode cX5_streetsOf 50 = .ok (.ifCond .eq 10, 3) := by decide +kernel
theorem dX5_streetsOf_53 : decode cX5_streetsOf 53 = .ok (.iconst 1, 1) := by decide +kernel
theorem dX5_streetsOf_54 : decode cX5_streetsOf 54 = .ok (.iload 5, 2) := by decide +kernel
theorem dX5_streetsOf_56 : decode cX5_streetsOf 56 = .ok (.ishl, 1) := by decide +kernel
theorem dX5_streetsOf_57 : decode cX5_streetsOf 57 = .ok (.goto 4, 3) := by decide +kernel
theorem dX5_streetsOf_60 : decode cX5_streetsOf 60 = .ok (.iconst 0, 1) := by decide +kernel
theorem dX5_streetsOf_61 : decode cX5_streetsOf 61 = .ok (.ior, 1) := by decide +kernel
theorem dX5_streetsOf_62 : decode cX5_streetsOf 62 = .ok (.istore_n 3, 1) := by decide +kernel
theorem dX5_streetsOf_63 : decode cX5_streetsOf 63 = .ok (.iinc 5 1, 3) := by decide +kernel
theorem dX5_streetsOf_66 : decode cX5_streetsOf 66 = .ok (.goto (-48), 3) := by decide +kernel
theorem dX5_streetsOf_69 : decode cX5_streetsOf 69 = .ok (.iload_n 3, 1) := by decide +kernel
theorem dX5_streetsOf_70 : decode cX5_streetsOf 70 = .ok (.ireturn, 1) := by decide +kernel
theorem dX5_apart_0 : decode cX5_apart 0 = .ok (.iload_n 0, 1) := by decide +kernel
theorem dX5_apart_1 : decode cX5_apart 1 = .ok (.iload_n 1, 1) := by decide +kernel
theorem dX5_apart_2 : decode cX5_apart 2 = .ok (.if_icmp .le 9, 3) := by decide +kernel
theorem dX5_apart_5 : decode cX5_apart 5 = .ok (.iload_n 0, 1) := by decide +kernel
theorem dX5_apart_6 : decode cX5_apart 6 = .ok (.iload_n 1, 1) := by decide +kernel
theorem dX5_apart_7 : decode cX5_apart 7 = .ok (.isub, 1) := by decide +kernel
theorem dX5_apart_8 : decode cX5_apart 8 = .ok (.goto 6, 3) := by decide +kernel
theorem dX5_apart_11 : decode cX5_apart 11 = .ok (.iload_n 1, 1) := by decide +kernel
theorem dX5_apart_12 : decode cX5_apart 12 = .ok (.iload_n 0, 1) := by decide +kernel
theorem dX5_apart_13 : decode cX5_apart 13 = .ok (.isub, 1) := by decide +kernel
theorem dX5_apart_14 : decode cX5_apart 14 = .ok (.ireturn, 1) := by decide +kernel
set_option maxRecDepth 20000 in
theorem ggX5_farFrom_X5_apart : GoodIn wsX5_farFrom wsX5_apart := goodIn_r _ [4] (by decide +kernel) (by decide +kernel)
set_option maxRecDepth 20000 in
theorem gX5_farFrom_X5_apart : GoodIn wsX5_farFrom (va_wsS RX5 137 yX5_apart wsX5_apart) := goodIn_app (goodIn_of _ (by decide +kernel)) ggX5_farFrom_X5_apart
theorem dX5_farFrom_0 : decode cX5_farFrom 0 = .ok (.iload_n 0, 1) := by decide +kernel
theorem dX5_farFrom_1 : decode cX5_farFrom 1 = .ok (.bipush 12, 2) := by decide +kernel
theorem dX5_farFrom_3 : decode cX5_farFrom 3 = .ok (.idiv, 1) := by decide +kernel
theorem dX5_farFrom_4 : decode cX5_farFrom 4 = .ok (.iload_n 1, 1) := by decide +kernel
theorem dX5_farFrom_5 : decode cX5_farFrom 5 = .ok (.invokestatic 137, 3) := by decide +kernel
theorem dX5_farFrom_8 : decode cX5_farFrom 8 = .ok (.istore_n 3, 1) := by decide +kernel
theorem dX5_farFrom_9 : decode cX5_farFrom 9 = .ok (.iload_n 0, 1) := by decide +kernel
theorem dX5_farFrom_10 : decode cX5_farFrom 10 = .ok (.bipush 12, 2) := by decide +kernel
theorem dX5_farFrom_12 : decode cX5_farFrom 12 = .ok (.irem, 1) := by decide +kernel
theorem dX5_farFrom_13 : decode cX5_farFrom 13 = .ok (.iload_n 2, 1) := by decide +kernel
theorem dX5_farFrom_14 : decode cX5_farFrom 14 = .ok (.invokestatic 137, 3) := by decide +kernel
theorem dX5_farFrom_17 : decode cX5_farFrom 17 = .ok (.istore 4, 2) := by decide +kernel
theorem dX5_farFrom_19 : decode cX5_farFrom 19 = .ok (.iload_n 3, 1) := by decide +kernel
theorem dX5_farFrom_20 : decode cX5_farFrom 20 = .ok (.iload 4, 2) := by decide +kernel
theorem dX5_farFrom_22 : decode cX5_farFrom 22 = .ok (.if_icmp .le 7, 3) := by decide +kernel
theorem dX5_farFrom_25 : decode cX5_farFrom 25 = .ok (.iload_n 3, 1) := by decide +kernel
theorem dX5_farFrom_26 : decode cX5_farFrom 26 = .ok (.goto 5, 3) := by decide +kernel
theorem dX5_farFrom_29 : decode cX5_farFrom 29 = .ok (.iload 4, 2) := by decide +kernel
theorem dX5_farFrom_31 : decode cX5_farFrom 31 = .ok (.ireturn, 1) := by decide +kernel
set_option maxRecDepth 20000 in
theorem ggX5_nearestOf_X5_tracks : GoodIn wsX5_nearestOf wsX5_tracks := goodIn_r _ [6, 7, 1, 8, 9, 10, 11, 12, 5, 13, 20, 21, 22, 23, 24, 25, 26, 27, 28, 29, 30, 31, 32, 33, 34, 35, 36] (by decide +kernel) (by decide +kernel)
set_option maxRecDepth 20000 in
theorem gX5_nearestOf_X5_tracks : GoodIn wsX5_nearestOf (wsV RX5 86 RX5 yX5_tracks wsX5_tracks) := goodIn_app (goodIn_of _ (by decide +kernel)) ggX5_nearestOf_X5_tracks
set_option maxRecDepth 20000 in
theorem ggX5_nearestOf_X5_farFrom : GoodIn wsX5_nearestOf wsX5_farFrom := goodIn_r _ [16, 17, 18, 5, 19] (by decide +kernel) (by decide +kernel)
set_option maxRecDepth 20000 in
theorem gX5_nearestOf_X5_farFrom : GoodIn wsX5_nearestOf (va_wsS RX5 140 yX5_farFrom wsX5_farFrom) := goodIn_app (goodIn_of _ (by decide +kernel)) ggX5_nearestOf_X5_farFrom
theorem dX5_nearestOf_0 : decode cX5_nearestOf 0 = .ok (.aload_n 0, 1) := by decide +kernel
theorem dX5_nearestOf_1 : decode cX5_nearestOf 1 = .ok (.iload_n 1, 1) := by decide +kernel
theorem dX5_nearestOf_2 : decode cX5_nearestOf 2 = .ok (.invokevirtual 86, 3) := by decide +kernel
theorem dX5_nearestOf_5 : decode cX5_nearestOf 5 = .ok (.iconst (-1), 1) := by decide +kernel
theorem dX5_nearestOf_6 : decode cX5_nearestOf 6 = .ok (.istore 4, 2) := by decide +kernel
theorem dX5_nearestOf_8 : decode cX5_nearestOf 8 = .ok (.iconst 0, 1) := by decide +kernel
theorem dX5_nearestOf_9 : decode cX5_nearestOf 9 = .ok (.istore 5, 2) := by decide +kernel
theorem dX5_nearestOf_11 : decode cX5_nearestOf 11 = .ok (.iload 5, 2) := by decide +kernel
theorem dX5_nearestOf_13 : decode cX5_nearestOf 13 = .ok (.sipush 144, 3) := by decide +kernel
theorem dX5_nearestOf_16 : decode cX5_nearestOf 16 = .ok (.if_icmp .ge 50, 3) := by decide +kernel
theorem dX5_nearestOf_19 : decode cX5_nearestOf 19 = .ok (.aload_n 0, 1) := by decide +kernel
theorem dX5_nearestOf_20 : decode cX5_nearestOf 20 = .ok (.getfield 35, 3) := by decide +kernel
theorem dX5_nearestOf_23 : decode cX5_nearestOf 23 = .ok (.iload 5, 2) := by decide +kernel
theorem dX5_nearestOf_25 : decode cX5_nearestOf 25 = .ok (.baload, 1) := by decide +kernel
theorem dX5_nearestOf_26 : decode cX5_nearestOf 26 = .ok (.ifCond .eq 30, 3) := by decide +kernel
theorem dX5_nearestOf_29 : decode cX5_nearestOf 29 = .ok (.iload 4, 2) := by decide +kernel
theorem dX5_nearestOf_31 : decode cX5_nearestOf 31 = .ok (.ifCond .lt 20, 3) := by decide +kernel
theorem dX5_nearestOf_34 : decode cX5_nearestOf 34 = .ok (.iload 5, 2) := by decide +kernel
theorem dX5_nearestOf_36 : decode cX5_nearestOf 36 = .ok (.iload_n 2, 1) := by decide +kernel
theorem dX5_nearestOf_37 : decode cX5_nearestOf 37 = .ok (.iload_n 3, 1) := by decide +kernel
theorem dX5_nearestOf_38 : decode cX5_nearestOf 38 = .ok (.invokestatic 140, 3) := by decide +kernel
theorem dX5_nearestOf_41 : decode cX5_nearestOf 41 = .ok (.iload 4, 2) := by decide +kernel
theorem dX5_nearestOf_43 : decode cX5_nearestOf 43 = .ok (.iload_n 2, 1) := by decide +kernel
theorem dX5_nearestOf_44 : decode cX5_nearestOf 44 = .ok (.iload_n 3, 1) := by decide +kernel
theorem dX5_nearestOf_45 : decode cX5_nearestOf 45 = .ok (.invokestatic 140, 3) := by decide +kernel
theorem dX5_nearestOf_48 : decode cX5_nearestOf 48 = .ok (.if_icmp .ge 8, 3) := by decide +kernel
theorem dX5_nearestOf_51 : decode cX5_nearestOf 51 = .ok (.iload 5, 2) := by decide +kernel
theorem dX5_nearestOf_53 : decode cX5_nearestOf 53 = .ok (.goto 5, 3) := by decide +kernel
theorem dX5_nearestOf_56 : decode cX5_nearestOf 56 = .ok (.iload 4, 2) := by decide +kernel
theorem dX5_nearestOf_58 : decode cX5_nearestOf 58 = .ok (.istore 4, 2) := by decide +kernel
theorem dX5_nearestOf_60 : decode cX5_nearestOf 60 = .ok (.iinc 5 1, 3) := by decide +kernel
theorem dX5_nearestOf_63 : decode cX5_nearestOf 63 = .ok (.goto (-52), 3) := by decide +kernel
theorem dX5_nearestOf_66 : decode cX5_nearestOf 66 = .ok (.iload 4, 2) := by decide +kernel
theorem dX5_nearestOf_68 : decode cX5_nearestOf 68 = .ok (.ireturn, 1) := by decide +kernel
set_option maxRecDepth 20000 in
theorem ggX5_distance_X5_isStreet : GoodIn wsX5_distance wsX5_isStreet := goodIn_r _ [5, 6, 7, 8, 4, 9, 40, 41, 42, 43, 44, 45, 46, 47, 48, 49, 50, 51, 52, 53, 54, 55, 56] (by decide +kernel) (by decide +kernel)
set_option maxRecDepth 20000 in
theorem gX5_distance_X5_isStreet : GoodIn wsX5_distance (wsV RX5 97 RX5 yX5_isStreet wsX5_isStreet) := goodIn_app (goodIn_of _ (by decide +kernel)) ggX5_distance_X5_isStreet
set_option maxRecDepth 20000 in
theorem ggX5_distance_X5_isSquare : GoodIn wsX5_distance wsX5_isSquare := goodIn_r _ [12, 7, 8, 4, 9] (by decide +kernel) (by decide +kernel)
set_option maxRecDepth 20000 in
theorem gX5_distance_X5_isSquare : GoodIn wsX5_distance (va_wsS RX5 101 yX5_isSquare wsX5_isSquare) := goodIn_app (goodIn_of _ (by decide +kernel)) ggX5_distance_X5_isSquare
set_option maxRecDepth 20000 in
theorem ggX5_distance_X5_goes : GoodIn wsX5_distance wsX5_goes := goodIn_r _ [16, 17, 40, 41, 42, 43, 44, 45, 46, 47, 48, 49, 50, 51, 52, 53, 54, 55, 56] (by decide +kernel) (by decide +kernel)
set_option maxRecDepth 20000 in
theorem gX5_distance_X5_goes : GoodIn wsX5_distance (wsV RX5 104 RX5 yX5_goes wsX5_goes) := goodIn_app (goodIn_of _ (by decide +kernel)) ggX5_distance_X5_goes
set_option maxRecDepth 20000 in
theorem ggX5_distance_X5_nearestOf : GoodIn wsX5_distance wsX5_nearestOf := goodIn_r _ [21, 22, 23, 24, 25, 4, 26, 27, 28, 29, 30, 31, 32, 33, 34, 35, 36, 37, 38, 39, 40, 41, 42, 43, 44, 45, 46, 47, 48, 49, 50, 51, 52, 53, 54, 55, 56] (by decide +kernel) (by decide +kernel)
set_option maxRecDepth 20000 in
theorem gX5_distance_X5_nearestOf : GoodIn wsX5_distance (wsV RX5 144 RX5 yX5_nearestOf wsX5_nearestOf) := goodIn_app (goodIn_of _ (by decide +kernel)) ggX5_distance_X5_nearestOf
set_option maxRecDepth 20000 in
theorem ggX5_distance_X5_farFrom : GoodIn wsX5_distance wsX5_farFrom := goodIn_r _ [36, 37, 38, 4, 39] (by decide +kernel) (by decide +kernel)
set_option maxRecDepth 20000 in
theorem gX5_distance_X5_farFrom : GoodIn wsX5_distance (va_wsS RX5 140 yX5_farFrom wsX5_farFrom) := goodIn_app (goodIn_of _ (by decide +kernel)) ggX5_distance_X5_farFrom
theorem dX5_distance_0 : decode cX5_distance 0 = .ok (.aload_n 0, 1) := by decide +kernel
theorem dX5_distance_1 : decode cX5_distance 1 = .ok (.aload_n 0, 1) := by decide +kernel
theorem dX5_distance_2 : decode cX5_distance 2 = .ok (.iload_n 1, 1) := by decide +kernel
theorem dX5_distance_3 : decode cX5_distance 3 = .ok (.invokevirtual 97, 3) := by decide +kernel
theorem dX5_distance_6 : decode cX5_distance 6 = .ok (.ifCond .eq 15, 3) := by decide +kernel
theorem dX5_distance_9 : decode cX5_distance 9 = .ok (.iload_n 2, 1) := by decide +kernel
theorem dX5_distance_10 : decode cX5_distance 10 = .ok (.iload_n 3, 1) := by decide +kernel
theorem dX5_distance_11 : decode cX5_distance 11 = .ok (.invokestatic 101, 3) := by decide +kernel
theorem dX5_distance_14 : decode cX5_distance 14 = .ok (.ifCond .eq 7, 3) := by decide +kernel
theorem dX5_distance_17 : decode cX5_distance 17 = .ok (.iconst 1, 1) := by decide +kernel
theorem dX5_distance_18 : decode cX5_distance 18 = .ok (.goto 4, 3) := by decide +kernel
theorem dX5_distance_21 : decode cX5_distance 21 = .ok (.iconst 0, 1) := by decide +kernel
theorem dX5_distance_22 : decode cX5_distance 22 = .ok (.iconst 1, 1) := by decide +kernel
theorem dX5_distance_23 : decode cX5_distance 23 = .ok (.iconst 1, 1) := by decide +kernel
theorem dX5_distance_24 : decode cX5_distance 24 = .ok (.invokevirtual 104, 3) := by decide +kernel
theorem dX5_distance_27 : decode cX5_distance 27 = .ok (.ifCond .ne 5, 3) := by decide +kernel
theorem dX5_distance_30 : decode cX5_distance 30 = .ok (.iconst 0, 1) := by decide +kernel
theorem dX5_distance_31 : decode cX5_distance 31 = .ok (.ireturn, 1) := by decide +kernel
theorem dX5_distance_32 : decode cX5_distance 32 = .ok (.aload_n 0, 1) := by decide +kernel
theorem dX5_distance_33 : decode cX5_distance 33 = .ok (.iload_n 1, 1) := by decide +kernel
theorem dX5_distance_34 : decode cX5_distance 34 = .ok (.iload_n 2, 1) := by decide +kernel
theorem dX5_distance_35 : decode cX5_distance 35 = .ok (.iload_n 3, 1) := by decide +kernel
theorem dX5_distance_36 : decode cX5_distance 36 = .ok (.invokevirtual 144, 3) := by decide +kernel
theorem dX5_distance_39 : decode cX5_distance 39 = .ok (.istore 4, 2) := by decide +kernel
theorem dX5_distance_41 : decode cX5_distance 41 = .ok (.iload 4, 2) := by decide +kernel
theorem dX5_distance_43 : decode cX5_distance 43 = .ok (.ifCond .ge 7, 3) := by decide +kernel
theorem dX5_distance_46 : decode cX5_distance 46 = .ok (.iconst (-1), 1) := by decide +kernel
theorem dX5_distance_47 : decode cX5_distance 47 = .ok (.goto 10, 3) := by decide +kernel
theorem dX5_distance_50 : decode cX5_distance 50 = .ok (.iload 4, 2) := by decide +kernel
theorem dX5_distance_52 : decode cX5_distance 52 = .ok (.iload_n 2, 1) := by decide +kernel
theorem dX5_distance_53 : decode cX5_distance 53 = .ok (.iload_n 3, 1) := by decide +kernel
theorem dX5_distance_54 : decode cX5_distance 54 = .ok (.invokestatic 140, 3) := by decide +kernel
theorem dX5_distance_57 : decode cX5_distance 57 = .ok (.ireturn, 1) := by decide +kernel
set_option maxRecDepth 20000 in
theorem ggX5_nearest_X5_isStreet : GoodIn wsX5_nearest wsX5_isStreet := goodIn_r _ [5, 6, 7, 8, 4, 9, 40, 41, 42, 43, 44, 45, 46, 47, 48, 49, 50, 51, 52, 53, 54, 55, 56] (by decide +kernel) (by decide +kernel)
set_option maxRecDepth 20000 in
theorem gX5_nearest_X5_isStreet : GoodIn wsX5_nearest (wsV RX5 97 RX5 yX5_isStreet wsX5_isStreet) := goodIn_app (goodIn_of _ (by decide +kernel)) ggX5_nearest_X5_isStreet
set_option maxRecDepth 20000 in
theorem ggX5_nearest_X5_isSquare : GoodIn wsX5_nearest wsX5_isSquare := goodIn_r _ [12, 7, 8, 4, 9] (by decide +kernel) (by decide +kernel)
set_option maxRecDepth 20000 in
theorem gX5_nearest_X5_isSquare : GoodIn wsX5_nearest (va_wsS RX5 101 yX5_isSquare wsX5_isSquare) := goodIn_app (goodIn_of _ (by decide +kernel)) ggX5_nearest_X5_isSquare
set_option maxRecDepth 20000 in
theorem ggX5_nearest_X5_goes : GoodIn wsX5_nearest wsX5_goes := goodIn_r _ [16, 17, 40, 41, 42, 43, 44, 45, 46, 47, 48, 49, 50, 51, 52, 53, 54, 55, 56] (by decide +kernel) (by decide +kernel)
set_option maxRecDepth 20000 in
theorem gX5_nearest_X5_goes : GoodIn wsX5_nearest (wsV RX5 104 RX5 yX5_goes wsX5_goes) := goodIn_app (goodIn_of _ (by decide +kernel)) ggX5_nearest_X5_goes
set_option maxRecDepth 20000 in
theorem ggX5_nearest_X5_nearestOf : GoodIn wsX5_nearest wsX5_nearestOf := goodIn_r _ [21, 22, 23, 24, 25, 4, 26, 27, 28, 29, 30, 31, 32, 33, 34, 35, 36, 37, 38, 39, 40, 41, 42, 43, 44, 45, 46, 47, 48, 49, 50, 51, 52, 53, 54, 55, 56] (by decide +kernel) (by decide +kernel)
set_option maxRecDepth 20000 in
theorem gX5_nearest_X5_nearestOf : GoodIn wsX5_nearest (wsV RX5 144 RX5 yX5_nearestOf wsX5_nearestOf) := goodIn_app (goodIn_of _ (by decide +kernel)) ggX5_nearest_X5_nearestOf
theorem dX5_nearest_0 : decode cX5_nearest 0 = .ok (.aload_n 0, 1) := by decide +kernel
theorem dX5_nearest_1 : decode cX5_nearest 1 = .ok (.aload_n 0, 1) := by decide +kernel
theorem dX5_nearest_2 : decode cX5_nearest 2 = .ok (.iload_n 1, 1) := by decide +kernel
theorem dX5_nearest_3 : decode cX5_nearest 3 = .ok (.invokevirtual 97, 3) := by decide +kernel
theorem dX5_nearest_6 : decode cX5_nearest 6 = .ok (.ifCond .eq 15, 3) := by decide +kernel
theorem dX5_nearest_9 : decode cX5_nearest 9 = .ok (.iload_n 2, 1) := by decide +kernel
theorem dX5_nearest_10 : decode cX5_nearest 10 = .ok (.iload_n 3, 1) := by decide +kernel
theorem dX5_nearest_11 : decode cX5_nearest 11 = .ok (.invokestatic 101, 3) := by decide +kernel
theorem dX5_nearest_14 : decode cX5_nearest 14 = .ok (.ifCond .eq 7, 3) := by decide +kernel
theorem dX5_nearest_17 : decode cX5_nearest 17 = .ok (.iconst 1, 1) := by decide +kernel
theorem dX5_nearest_18 : decode cX5_nearest 18 = .ok (.goto 4, 3) := by decide +kernel
theorem dX5_nearest_21 : decode cX5_nearest 21 = .ok (.iconst 0, 1) := by decide +kernel
theorem dX5_nearest_22 : decode cX5_nearest 22 = .ok (.iconst 1, 1) := by decide +kernel
theorem dX5_nearest_23 : decode cX5_nearest 23 = .ok (.iconst 1, 1) := by decide +kernel
theorem dX5_nearest_24 : decode cX5_nearest 24 = .ok (.invokevirtual 104, 3) := by decide +kernel
theorem dX5_nearest_27 : decode cX5_nearest 27 = .ok (.ifCond .eq 13, 3) := by decide +kernel
theorem dX5_nearest_30 : decode cX5_nearest 30 = .ok (.aload_n 0, 1) := by decide +kernel
theorem dX5_nearest_31 : decode cX5_nearest 31 = .ok (.iload_n 1, 1) := by decide +kernel
theorem dX5_nearest_32 : decode cX5_nearest 32 = .ok (.iload_n 2, 1) := by decide +kernel
theorem dX5_nearest_33 : decode cX5_nearest 33 = .ok (.iload_n 3, 1) := by decide +kernel
theorem dX5_nearest_34 : decode cX5_nearest 34 = .ok (.invokevirtual 144, 3) := by decide +kernel
theorem dX5_nearest_37 : decode cX5_nearest 37 = .ok (.goto 4, 3) := by decide +kernel
theorem dX5_nearest_40 : decode cX5_nearest 40 = .ok (.iconst 0, 1) := by decide +kernel
theorem dX5_nearest_41 : decode cX5_nearest 41 = .ok (.ireturn, 1) := by decide +kernel
theorem dX5_passes_0 : decode cX5_passes 0 = .ok (.aload_n 0, 1) := by decide +kernel
theorem dX5_passes_1 : decode cX5_passes 1 = .ok (.getfield 47, 3) := by decide +kernel
theorem dX5_passes_4 : decode cX5_passes 4 = .ok (.iload_n 1, 1) := by decide +kernel
theorem dX5_passes_5 : decode cX5_passes 5 = .ok (.iaload, 1) := by decide +kernel
theorem dX5_passes_6 : decode cX5_passes 6 = .ok (.iconst 1, 1) := by decide +kernel
theorem dX5_passes_7 : decode cX5_passes 7 = .ok (.iadd, 1) := by decide +kernel
theorem dX5_passes_8 : decode cX5_passes 8 = .ok (.aload_n 0, 1) := by decide +kernel
theorem dX5_passes_9 : decode cX5_passes 9 = .ok (.getfield 47, 3) := by decide +kernel
theorem dX5_passes_12 : decode cX5_passes 12 = .ok (.iload_n 2, 1) := by decide +kernel
theorem dX5_passes_13 : decode cX5_passes 13 = .ok (.iaload, 1) := by decide +kernel
theorem dX5_passes_14 : decode cX5_passes 14 = .ok (.if_icmp .ge 7, 3) := by decide +kernel
theorem dX5_passes_17 : decode cX5_passes 17 = .ok (.iconst 1, 1) := by decide +kernel
theorem dX5_passes_18 : decode cX5_passes 18 = .ok (.goto 4, 3) := by decide +kernel
theorem dX5_passes_21 : decode cX5_passes 21 = .ok (.iconst 0, 1) := by decide +kernel
theorem dX5_passes_22 : decode cX5_passes 22 = .ok (.istore_n 3, 1) := by decide +kernel
theorem dX5_passes_23 : decode cX5_passes 23 = .ok (.aload_n 0, 1) := by decide +kernel
theorem dX5_passes_24 : decode cX5_passes 24 = .ok (.getfield 47, 3) := by decide +kernel
theorem dX5_passes_27 : decode cX5_passes 27 = .ok (.iload_n 2, 1) := by decide +kernel
theorem dX5_passes_28 : decode cX5_passes 28 = .ok (.iload_n 3, 1) := by decide +kernel
theorem dX5_passes_29 : decode cX5_passes 29 = .ok (.ifCond .eq 14, 3) := by decide +kernel
theorem dX5_passes_32 : decode cX5_passes 32 = .ok (.aload_n 0, 1) := by decide +kernel
theorem dX5_passes_33 : decode cX5_passes 33 = .ok (.getfield 47, 3) := by decide +kernel
theorem dX5_passes_36 : decode cX5_passes 36 = .ok (.iload_n 1, 1) := by decide +kernel
theorem dX5_passes_37 : decode cX5_passes 37 = .ok (.iaload, 1) := by decide +kernel
theorem dX5_passes_38 : decode cX5_passes 38 = .ok (.iconst 1, 1) := by decide +kernel
theorem dX5_passes_39 : decode cX5_passes 39 = .ok (.iadd, 1) := by decide +kernel
theorem dX5_passes_40 : decode cX5_passes 40 = .ok (.goto 9, 3) := by decide +kernel
theorem dX5_passes_43 : decode cX5_passes 43 = .ok (.aload_n 0, 1) := by decide +kernel
theorem dX5_passes_44 : decode cX5_passes 44 = .ok (.getfield 47, 3) := by decide +kernel
theorem dX5_passes_47 : decode cX5_passes 47 = .ok (.iload_n 2, 1) := by decide +kernel
theorem dX5_passes_48 : decode cX5_passes 48 = .ok (.iaload, 1) := by decide +kernel
theorem dX5_passes_49 : decode cX5_passes 49 = .ok (.iastore, 1) := by decide +kernel
theorem dX5_passes_50 : decode cX5_passes 50 = .ok (.iload_n 3, 1) := by decide +kernel
theorem dX5_passes_51 : decode cX5_passes 51 = .ok (.ireturn, 1) := by decide +kernel
set_option maxRecDepth 20000 in
theorem ggX5_walks_X5_tracks : GoodIn wsX5_walks wsX5_tracks := goodIn_r _ [11, 4, 12, 13, 14, 5, 15, 16, 10, 17, 22, 23, 24, 25, 26, 27, 28, 29, 30, 31, 32, 33, 34, 35, 36, 37, 38] (by decide +kernel) (by decide +kernel)
set_option maxRecDepth 20000 in
theorem gX5_walks_X5_tracks : GoodIn wsX5_walks (wsV RX5 86 RX5 yX5_tracks wsX5_tracks) := goodIn_app (goodIn_of _ (by decide +kernel)) ggX5_walks_X5_tracks
set_option maxRecDepth 20000 in
theorem ggX5_walks_X5_passes : GoodIn wsX5_walks wsX5_passes := goodIn_r _ [21, 1, 22, 23, 24, 25, 26, 27, 28, 29, 30, 31, 32, 33, 34, 35, 36, 37, 38] (by decide +kernel) (by decide +kernel)
set_option maxRecDepth 20000 in
theorem gX5_walks_X5_passes : GoodIn wsX5_walks (wsV RX5 148 RX5 yX5_passes wsX5_passes) := goodIn_app (goodIn_of _ (by decide +kernel)) ggX5_walks_X5_passes
theorem dX5_walks_0 : decode cX5_walks 0 = .ok (.iconst 0, 1) := by decide +kernel
theorem dX5_walks_1 : decode cX5_walks 1 = .ok (.istore_n 2, 1) := by decide +kernel
theorem dX5_walks_2 : decode cX5_walks 2 = .ok (.iload_n 2, 1) := by decide +kernel
theorem dX5_walks_3 : decode cX5_walks 3 = .ok (.sipush 144, 3) := by decide +kernel
theorem dX5_walks_6 : decode cX5_walks 6 = .ok (.if_icmp .ge 26, 3) := by decide +kernel
theorem dX5_walks_9 : decode cX5_walks 9 = .ok (.aload_n 0, 1) := by decide +kernel
theorem dX5_walks_10 : decode cX5_walks 10 = .ok (.getfield 47, 3) := by decide +kernel
theorem dX5_walks_13 : decode cX5_walks 13 = .ok (.iload_n 2, 1) := by decide +kernel
theorem dX5_walks_14 : decode cX5_walks 14 = .ok (.iload_n 2, 1) := by decide +kernel
theorem dX5_walks_15 : decode cX5_walks 15 = .ok (.iload_n 1, 1) := by decide +kernel
theorem dX5_walks_16 : decode cX5_walks 16 = .ok (.if_icmp .ne 7, 3) := by decide +kernel
theorem dX5_walks_19 : decode cX5_walks 19 = .ok (.iconst 0, 1) := by decide +kernel
theorem dX5_walks_20 : decode cX5_walks 20 = .ok (.goto 5, 3) := by decide +kernel
theorem dX5_walks_23 : decode cX5_walks 23 = .ok (.ldc 147, 2) := by decide +kernel
theorem dX5_walks_25 : decode cX5_walks 25 = .ok (.iastore, 1) := by decide +kernel
theorem dX5_walks_26 : decode cX5_walks 26 = .ok (.iinc 2 1, 3) := by decide +kernel
theorem dX5_walks_29 : decode cX5_walks 29 = .ok (.goto (-27), 3) := by decide +kernel
theorem dX5_walks_32 : decode cX5_walks 32 = .ok (.iconst 1, 1) := by decide +kernel
theorem dX5_walks_33 : decode cX5_walks 33 = .ok (.istore_n 2, 1) := by decide +kernel
theorem dX5_walks_34 : decode cX5_walks 34 = .ok (.iload_n 2, 1) := by decide +kernel
theorem dX5_walks_35 : decode cX5_walks 35 = .ok (.ifCond .eq 124, 3) := by decide +kernel
theorem dX5_walks_38 : decode cX5_walks 38 = .ok (.iconst 0, 1) := by decide +kernel
theorem dX5_walks_39 : decode cX5_walks 39 = .ok (.istore_n 2, 1) := by decide +kernel
theorem dX5_walks_40 : decode cX5_walks 40 = .ok (.iconst 0, 1) := by decide +kernel
theorem dX5_walks_41 : decode cX5_walks 41 = .ok (.istore_n 3, 1) := by decide +kernel
theorem dX5_walks_42 : decode cX5_walks 42 = .ok (.iload_n 3, 1) := by decide +kernel
theorem dX5_walks_43 : decode cX5_walks 43 = .ok (.aload_n 0, 1) := by decide +kernel
theorem dX5_walks_44 : decode cX5_walks 44 = .ok (.getfield 58, 3) := by decide +kernel
theorem dX5_walks_47 : decode cX5_walks 47 = .ok (.if_icmp .ge 109, 3) := by decide +kernel
theorem dX5_walks_50 : decode cX5_walks 50 = .ok (.aload_n 0, 1) := by decide +kernel
theorem dX5_walks_51 : decode cX5_walks 51 = .ok (.iload_n 3, 1) := by decide +kernel
theorem dX5_walks_52 : decode cX5_walks 52 = .ok (.invokevirtual 86, 3) := by decide +kernel
theorem dX5_walks_55 : decode cX5_walks 55 = .ok (.iconst 0, 1) := by decide +kernel
theorem dX5_walks_56 : decode cX5_walks 56 = .ok (.istore 4, 2) := by decide +kernel
theorem dX5_walks_58 : decode cX5_walks 58 = .ok (.iload 4, 2) := by decide +kernel
theorem dX5_walks_60 : decode cX5_walks 60 = .ok (.iconst 1, 1) := by decide +kernel
theorem dX5_walks_61 : decode cX5_walks 61 = .ok (.iadd, 1) := by decide +kernel
theorem dX5_walks_62 : decode cX5_walks 62 = .ok (.aload_n 0, 1) := by decide +kernel
theorem dX5_walks_63 : decode cX5_walks 63 = .ok (.getfield 80, 3) := by decide +kernel
theorem dX5_walks_66 : decode cX5_walks 66 = .ok (.if_icmp .ge 84, 3) := by decide +kernel
theorem dX5_walks_69 : decode cX5_walks 69 = .ok (.aload_n 0, 1) := by decide +kernel
theorem dX5_walks_70 : decode cX5_walks 70 = .ok (.aload_n 0, 1) := by decide +kernel
theorem dX5_walks_71 : decode cX5_walks 71 = .ok (.getfield 32, 3) := by decide +kernel
theorem dX5_walks_74 : decode cX5_walks 74 = .ok (.iload 4, 2) := by decide +kernel
theorem dX5_walks_76 : decode cX5_walks 76 = .ok (.iaload, 1) := by decide +kernel
theorem dX5_walks_77 : decode cX5_walks 77 = .ok (.aload_n 0, 1) := by decide +kernel
theorem dX5_walks_78 : decode cX5_walks 78 = .ok (.getfield 32, 3) := by decide +kernel
theorem dX5_walks_81 : decode cX5_walks 81 = .ok (.iload 4, 2) := by decide +kernel
theorem dX5_walks_83 : decode cX5_walks 83 = .ok (.iconst 1, 1) := by decide +kernel
theorem dX5_walks_84 : decode cX5_walks 84 = .ok (.iadd, 1) := by decide +kernel
theorem dX5_walks_85 : decode cX5_walks 85 = .ok (.iaload, 1) := by decide +kernel
theorem dX5_walks_86 : decode cX5_walks 86 = .ok (.invokevirtual 148, 3) := by decide +kernel
theorem dX5_walks_89 : decode cX5_walks 89 = .ok (.ifCond .ne 7, 3) := by decide +kernel
theorem dX5_walks_92 : decode cX5_walks 92 = .ok (.iload_n 2, 1) := by decide +kernel
theorem dX5_walks_93 : decode cX5_walks 93 = .ok (.ifCond .eq 7, 3) := by decide +kernel
theorem dX5_walks_96 : decode cX5_walks 96 = .ok (.iconst 1, 1) := by decide +kernel
theorem dX5_walks_97 : decode cX5_walks 97 = .ok (.goto 4, 3) := by decide +kernel
theorem dX5_walks_100 : decode cX5_walks 100 = .ok (.iconst 0, 1) := by decide +kernel
theorem dX5_walks_101 : decode cX5_walks 101 = .ok (.istore_n 2, 1) := by decide +kernel
theorem dX5_walks_102 : decode cX5_walks 102 = .ok (.aload_n 0, 1) := by decide +kernel
theorem dX5_walks_103 : decode cX5_walks 103 = .ok (.getfield 28, 3) := by decide +kernel
theorem dX5_walks_106 : decode cX5_walks 106 = .ok (.iload_n 3, 1) := by decide +kernel
theorem dX5_walks_107 : decode cX5_walks 107 = .ok (.baload, 1) := by decide +kernel
theorem dX5_walks_108 : decode cX5_walks 108 = .ok (.ifCond .ne 26, 3) := by decide +kernel
theorem dX5_walks_111 : decode cX5_walks 111 = .ok (.aload_n 0, 1) := by decide +kernel
theorem dX5_walks_112 : decode cX5_walks 112 = .ok (.aload_n 0, 1) := by decide +kernel
theorem dX5_walks_113 : decode cX5_walks 113 = .ok (.getfield 32, 3) := by decide +kernel
theorem dX5_walks_116 : decode cX5_walks 116 = .ok (.iload 4, 2) := by decide +kernel
theorem dX5_walks_118 : decode cX5_walks 118 = .ok (.iconst 1, 1) := by decide +kernel
theorem dX5_walks_119 : decode cX5_walks 119 = .ok (.iadd, 1) := by decide +kernel
theorem dX5_walks_120 : decode cX5_walks 120 = .ok (.iaload, 1) := by decide +kernel
theorem dX5_walks_121 : decode cX5_walks 121 = .ok (.aload_n 0, 1) := by decide +kernel
theorem dX5_walks_122 : decode cX5_walks 122 = .ok (.getfield 32, 3) := by decide +kernel
theorem dX5_walks_125 : decode cX5_walks 125 = .ok (.iload 4, 2) := by decide +kernel
theorem dX5_walks_127 : decode cX5_walks 127 = .ok (.iaload, 1) := by decide +kernel
theorem dX5_walks_128 : decode cX5_walks 128 = .ok (.invokevirtual 148, 3) := by decide +kernel
theorem dX5_walks_131 : decode cX5_walks 131 = .ok (.ifCond .ne 7, 3) := by decide +kernel
theorem dX5_walks_134 : decode cX5_walks 134 = .ok (.iload_n 2, 1) := by decide +kernel
theorem dX5_walks_135 : decode cX5_walks 135 = .ok (.ifCond .eq 7, 3) := by decide +kernel
theorem dX5_walks_138 : decode cX5_walks 138 = .ok (.iconst 1, 1) := by decide +kernel
theorem dX5_walks_139 : decode cX5_walks 139 = .ok (.goto 4, 3) := by decide +kernel
theorem dX5_walks_142 : decode cX5_walks 142 = .ok (.iconst 0, 1) := by decide +kernel
theorem dX5_walks_143 : decode cX5_walks 143 = .ok (.istore_n 2, 1) := by decide +kernel
theorem dX5_walks_144 : decode cX5_walks 144 = .ok (.iinc 4 1, 3) := by decide +kernel
theorem dX5_walks_147 : decode cX5_walks 147 = .ok (.goto (-89), 3) := by decide +kernel
theorem dX5_walks_150 : decode cX5_walks 150 = .ok (.iinc 3 1, 3) := by decide +kernel
theorem dX5_walks_153 : decode cX5_walks 153 = .ok (.goto (-111), 3) := by decide +kernel
theorem dX5_walks_156 : decode cX5_walks 156 = .ok (.goto (-122), 3) := by decide +kernel
theorem dX5_walks_159 : decode cX5_walks 159 = .ok (.return_, 1) := by decide +kernel
set_option maxRecDepth 20000 in
theorem ggX5_walk_X5_isSquare : GoodIn wsX5_walk wsX5_isSquare := goodIn_r _ [6, 7, 8, 5, 9] (by decide +kernel) (by decide +kernel)
set_option maxRecDepth 20000 in
theorem gX5_walk_X5_isSquare : GoodIn wsX5_walk (va_wsS RX5 101 yX5_isSquare wsX5_isSquare) := goodIn_app (goodIn_of _ (by decide +kernel)) ggX5_walk_X5_isSquare
set_option maxRecDepth 20000 in
theorem ggX5_walk_X5_goes : GoodIn wsX5_walk wsX5_goes := goodIn_r _ [13, 14, 37, 38, 39, 40, 41, 42, 43, 44, 45, 46, 47, 48, 49, 50, 51, 52, 53] (by decide +kernel) (by decide +kernel)
set_option maxRecDepth 20000 in
theorem gX5_walk_X5_goes : GoodIn wsX5_walk (wsV RX5 104 RX5 yX5_goes wsX5_goes) := goodIn_app (goodIn_of _ (by decide +kernel)) ggX5_walk_X5_goes
set_option maxRecDepth 20000 in
theorem ggX5_walk_X5_walks : GoodIn wsX5_walk wsX5_walks := goodIn_r _ [18, 1, 2, 19, 20, 21, 22, 23, 24, 25, 5, 26, 27, 28, 29, 30, 31, 32, 33, 34, 35, 36, 37, 38, 39, 40, 41, 42, 43, 44, 45, 46, 47, 48, 49, 50, 51, 52, 53] (by decide +kernel) (by decide +kernel)
set_option maxRecDepth 20000 in
theorem gX5_walk_X5_walks : GoodIn wsX5_walk (wsV RX5 151 RX5 yX5_walks wsX5_walks) := goodIn_app (goodIn_of _ (by decide +kernel)) ggX5_walk_X5_walks
theorem dX5_walk_0 : decode cX5_walk 0 = .ok (.aload_n 0, 1) := by decide +kernel
theorem dX5_walk_1 : decode cX5_walk 1 = .ok (.iload_n 1, 1) := by decide +kernel
theorem dX5_walk_2 : decode cX5_walk 2 = .ok (.iload_n 2, 1) := by decide +kernel
theorem dX5_walk_3 : decode cX5_walk 3 = .ok (.invokestatic 101, 3) := by decide +kernel
theorem dX5_walk_6 : decode cX5_walk 6 = .ok (.ifCond .eq 16, 3) := by decide +kernel
theorem dX5_walk_9 : decode cX5_walk 9 = .ok (.iload_n 3, 1) := by decide +kernel
theorem dX5_walk_10 : decode cX5_walk 10 = .ok (.iload 4, 2) := by decide +kernel
theorem dX5_walk_12 : decode cX5_walk 12 = .ok (.invokestatic 101, 3) := by decide +kernel
theorem dX5_walk_15 : decode cX5_walk 15 = .ok (.ifCond .eq 7, 3) := by decide +kernel
theorem dX5_walk_18 : decode cX5_walk 18 = .ok (.iconst 1, 1) := by decide +kernel
theorem dX5_walk_19 : decode cX5_walk 19 = .ok (.goto 4, 3) := by decide +kernel
theorem dX5_walk_22 : decode cX5_walk 22 = .ok (.iconst 0, 1) := by decide +kernel
theorem dX5_walk_23 : decode cX5_walk 23 = .ok (.iconst 1, 1) := by decide +kernel
theorem dX5_walk_24 : decode cX5_walk 24 = .ok (.iconst 1, 1) := by decide +kernel
theorem dX5_walk_25 : decode cX5_walk 25 = .ok (.invokevirtual 104, 3) := by decide +kernel
theorem dX5_walk_28 : decode cX5_walk 28 = .ok (.ifCond .ne 5, 3) := by decide +kernel
theorem dX5_walk_31 : decode cX5_walk 31 = .ok (.iconst 0, 1) := by decide +kernel
theorem dX5_walk_32 : decode cX5_walk 32 = .ok (.ireturn, 1) := by decide +kernel
theorem dX5_walk_33 : decode cX5_walk 33 = .ok (.aload_n 0, 1) := by decide +kernel
theorem dX5_walk_34 : decode cX5_walk 34 = .ok (.bipush 12, 2) := by decide +kernel
theorem dX5_walk_36 : decode cX5_walk 36 = .ok (.iload_n 1, 1) := by decide +kernel
theorem dX5_walk_37 : decode cX5_walk 37 = .ok (.imul, 1) := by decide +kernel
theorem dX5_walk_38 : decode cX5_walk 38 = .ok (.iload_n 2, 1) := by decide +kernel
theorem dX5_walk_39 : decode cX5_walk 39 = .ok (.iadd, 1) := by decide +kernel
theorem dX5_walk_40 : decode cX5_walk 40 = .ok (.invokevirtual 151, 3) := by decide +kernel
theorem dX5_walk_43 : decode cX5_walk 43 = .ok (.aload_n 0, 1) := by decide +kernel
theorem dX5_walk_44 : decode cX5_walk 44 = .ok (.getfield 47, 3) := by decide +kernel
theorem dX5_walk_47 : decode cX5_walk 47 = .ok (.bipush 12, 2) := by decide +kernel
theorem dX5_walk_49 : decode cX5_walk 49 = .ok (.iload_n 3, 1) := by decide +kernel
theorem dX5_walk_50 : decode cX5_walk 50 = .ok (.imul, 1) := by decide +kernel
theorem dX5_walk_51 : decode cX5_walk 51 = .ok (.iload 4, 2) := by decide +kernel
theorem dX5_walk_53 : decode cX5_walk 53 = .ok (.iadd, 1) := by decide +kernel
theorem dX5_walk_54 : decode cX5_walk 54 = .ok (.iaload, 1) := by decide +kernel
theorem dX5_walk_55 : decode cX5_walk 55 = .ok (.istore 5, 2) := by decide +kernel
theorem dX5_walk_57 : decode cX5_walk 57 = .ok (.iload 5, 2) := by decide +kernel
theorem dX5_walk_59 : decode cX5_walk 59 = .ok (.ldc 147, 2) := by decide +kernel
theorem dX5_walk_61 : decode cX5_walk 61 = .ok (.if_icmp .ne 7, 3) := by decide +kernel
theorem dX5_walk_64 : decode cX5_walk 64 = .ok (.iconst (-1), 1) := by decide +kernel
theorem dX5_walk_65 : decode cX5_walk 65 = .ok (.goto 5, 3) := by decide +kernel
theorem dX5_walk_68 : decode cX5_walk 68 = .ok (.iload 5, 2) := by decide +kernel
theorem dX5_walk_70 : decode cX5_walk 70 = .ok (.ireturn, 1) := by decide +kernel
set_option maxRecDepth 20000 in
theorem ggX5_walkByRounds_X5_walk : GoodIn wsX5_walkByRounds wsX5_walk := goodIn_r _ [5, 6, 7, 8, 9, 4, 10, 11, 12, 13, 14, 15, 16, 17, 18, 19, 20, 21, 22, 23, 24, 25, 26, 27, 28, 29, 30, 31, 32, 33, 34, 35, 36, 37, 38, 39, 40, 41, 42, 43, 44, 45, 46, 47, 48, 49, 50, 51, 52, 53, 54, 55, 56, 57] (by decide +kernel) (by decide +kernel)
set_option maxRecDepth 20000 in
theorem gX5_walkByRounds_X5_walk : GoodIn wsX5_walkByRounds (wsV RX5 154 RX5 yX5_walk wsX5_walk) := goodIn_app (goodIn_of _ (by decide +kernel)) ggX5_walkByRounds_X5_walk
theorem dX5_walkByRounds_0 : decode cX5_walkByRounds 0 = .ok (.aload_n 0, 1) := by decide +kernel
theorem dX5_walkByRounds_1 : decode cX5_walkByRounds 1 = .ok (.iload_n 1, 1) := by decide +kernel
theorem dX5_walkByRounds_2 : decode cX5_walkByRounds 2 = .ok (.iload_n 2, 1) := by decide +kernel
theorem dX5_walkByRounds_3 : decode cX5_walkByRounds 3 = .ok (.iload_n 3, 1) := by decide +kernel
theorem dX5_walkByRounds_4 : decode cX5_walkByRounds 4 = .ok (.iload 4, 2) := by decide +kernel
theorem dX5_walkByRounds_6 : decode cX5_walkByRounds 6 = .ok (.invokevirtual 154, 3) := by decide +kernel
theorem dX5_walkByRounds_9 : decode cX5_walkByRounds 9 = .ok (.ireturn, 1) := by decide +kernel
set_option maxRecDepth 20000 in
theorem ggX5_reachable_X5_isSquare : GoodIn wsX5_reachable wsX5_isSquare := goodIn_r _ [6, 7, 8, 5, 9] (by decide +kernel) (by decide +kernel)
set_option maxRecDepth 20000 in
theorem gX5_reachable_X5_isSquare : GoodIn wsX5_reachable (va_wsS RX5 101 yX5_isSquare wsX5_isSquare) := goodIn_app (goodIn_of _ (by decide +kernel)) ggX5_reachable_X5_isSquare
set_option maxRecDepth 20000 in
theorem ggX5_reachable_X5_goes : GoodIn wsX5_reachable wsX5_goes := goodIn_r _ [13, 14, 37, 38, 39, 40, 41, 42, 43, 44, 45, 46, 47, 48, 49, 50, 51, 52, 53] (by decide +kernel) (by decide +kernel)
set_option maxRecDepth 20000 in
theorem gX5_reachable_X5_goes : GoodIn wsX5_reachable (wsV RX5 104 RX5 yX5_goes wsX5_goes) := goodIn_app (goodIn_of _ (by decide +kernel)) ggX5_reachable_X5_goes
set_option maxRecDepth 20000 in
theorem ggX5_reachable_X5_walks : GoodIn wsX5_reachable wsX5_walks := goodIn_r _ [18, 1, 2, 19, 20, 21, 22, 23, 24, 25, 5, 26, 27, 28, 29, 30, 31, 32, 33, 34, 35, 36, 37, 38, 39, 40, 41, 42, 43, 44, 45, 46, 47, 48, 49, 50, 51, 52, 53] (by decide +kernel) (by decide +kernel)
set_option maxRecDepth 20000 in
theorem gX5_reachable_X5_walks : GoodIn wsX5_reachable (wsV RX5 151 RX5 yX5_walks wsX5_walks) := goodIn_app (goodIn_of _ (by decide +kernel)) ggX5_reachable_X5_walks
theorem dX5_reachable_0 : decode cX5_reachable 0 = .ok (.iconst 0, 1) := by decide +kernel
theorem dX5_reachable_1 : decode cX5_reachable 1 = .ok (.istore_n 3, 1) := by decide +kernel
theorem dX5_reachable_2 : decode cX5_reachable 2 = .ok (.aload_n 0, 1) := by decide +kernel
theorem dX5_reachable_3 : decode cX5_reachable 3 = .ok (.iload_n 1, 1) := by decide +kernel
theorem dX5_reachable_4 : decode cX5_reachable 4 = .ok (.iload_n 2, 1) := by decide +kernel
theorem dX5_reachable_5 : decode cX5_reachable 5 = .ok (.invokestatic 101, 3) := by decide +kernel
theorem dX5_reachable_8 : decode cX5_reachable 8 = .ok (.iconst 1, 1) := by decide +kernel
theorem dX5_reachable_9 : decode cX5_reachable 9 = .ok (.iconst 1, 1) := by decide +kernel
theorem dX5_reachable_10 : decode cX5_reachable 10 = .ok (.invokevirtual 104, 3) := by decide +kernel
theorem dX5_reachable_13 : decode cX5_reachable 13 = .ok (.ifCond .eq 50, 3) := by decide +kernel
theorem dX5_reachable_16 : decode cX5_reachable 16 = .ok (.aload_n 0, 1) := by decide +kernel
theorem dX5_reachable_17 : decode cX5_reachable 17 = .ok (.bipush 12, 2) := by decide +kernel
theorem dX5_reachable_19 : decode cX5_reachable 19 = .ok (.iload_n 1, 1) := by decide +kernel
theorem dX5_reachable_20 : decode cX5_reachable 20 = .ok (.imul, 1) := by decide +kernel
theorem dX5_reachable_21 : decode cX5_reachable 21 = .ok (.iload_n 2, 1) := by decide +kernel
theorem dX5_reachable_22 : decode cX5_reachable 22 = .ok (.iadd, 1) := by decide +kernel
theorem dX5_reachable_23 : decode cX5_reachable 23 = .ok (.invokevirtual 151, 3) := by decide +kernel
theorem dX5_reachable_26 : decode cX5_reachable 26 = .ok (.iconst 0, 1) := by decide +kernel
theorem dX5_reachable_27 : decode cX5_reachable 27 = .ok (.istore 4, 2) := by decide +kernel
theorem dX5_reachable_29 : decode cX5_reachable 29 = .ok (.iload 4, 2) := by decide +kernel
theorem dX5_reachable_31 : decode cX5_reachable 31 = .ok (.sipush 144, 3) := by decide +kernel
theorem dX5_reachable_34 : decode cX5_reachable 34 = .ok (.if_icmp .ge 29, 3) := by decide +kernel
theorem dX5_reachable_37 : decode cX5_reachable 37 = .ok (.iload_n 3, 1) := by decide +kernel
theorem dX5_reachable_38 : decode cX5_reachable 38 = .ok (.aload_n 0, 1) := by decide +kernel
theorem dX5_reachable_39 : decode cX5_reachable 39 = .ok (.getfield 47, 3) := by decide +kernel
theorem dX5_reachable_42 : decode cX5_reachable 42 = .ok (.iload 4, 2) := by decide +kernel
theorem dX5_reachable_44 : decode cX5_reachable 44 = .ok (.iaload, 1) := by decide +kernel
theorem dX5_reachable_45 : decode cX5_reachable 45 = .ok (.ldc 147, 2) := by decide +kernel
theorem dX5_reachable_47 : decode cX5_reachable 47 = .ok (.if_icmp .ge 7, 3) := by decide +kernel
theorem dX5_reachable_50 : decode cX5_reachable 50 = .ok (.iconst 1, 1) := by decide +kernel
theorem dX5_reachable_51 : decode cX5_reachable 51 = .ok (.goto 4, 3) := by decide +kernel
theorem dX5_reachable_54 : decode cX5_reachable 54 = .ok (.iconst 0, 1) := by decide +kernel
theorem dX5_reachable_55 : decode cX5_reachable 55 = .ok (.iadd, 1) := by decide +kernel
theorem dX5_reachable_56 : decode cX5_reachable 56 = .ok (.istore_n 3, 1) := by decide +kernel
theorem dX5_reachable_57 : decode cX5_reachable 57 = .ok (.iinc 4 1, 3) := by decide +kernel
theorem dX5_reachable_60 : decode cX5_reachable 60 = .ok (.goto (-31), 3) := by decide +kernel
theorem dX5_reachable_63 : decode cX5_reachable 63 = .ok (.iload_n 3, 1) := by decide +kernel
theorem dX5_reachable_64 : decode cX5_reachable 64 = .ok (.ireturn, 1) := by decide +kernel
end
